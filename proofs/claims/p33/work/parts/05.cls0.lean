/-! X0_allPeople X0_open J7_fill_53178 X0_choiceOf X0_countVotes X0_leaveOneOut X0_winner X1_hasUnit X1_othersHave X1_signSet X1_codaUnits X10_partOf X1_spellSyllable X1_unitsWith X1_unmarkedTones X1_markedTonesWith X1_putOnKey X10_distance X1_keysGone X10_stepOf X2_alter X2_hear X2_append X7_signsOf -/
def rm_X0_allPeople : Room := { frames := 0, cells := 0, slots := 0, locals := 0 }
def f_X0_allPeople_B4 (σ : Sg) (kb4 : Int32 → Int32 → Dt → Option (Int32 × Dt)) (k4 : Int32 → Dt → Option (Int32 × Dt)) (x0 : Nat) (x1 : Int32) (x2 : Int32) (d : Dt) : Option (Int32 × Dt) :=
  if ((4 : Int32)) ≤ x2 then k4 x1 d else aw_chk (aw_O σ 0 7 x0) ((σ.2.2 x0 0).bind (fun q_2 => aw_chk (aw_I σ 20 q_2 x2) (kb4 (x1 + (d.1 q_2 x2.toNatClampNeg)) (x2 + 1) d)))
def f_X0_allPeople_L4 (σ : Sg) (n : Nat) (k4 : Int32 → Dt → Option (Int32 × Dt)) (x0 : Nat) : Int32 → Int32 → Dt → Option (Int32 × Dt) := match n with
  | 0 => fun _ _ _ => none
  | n + 1 => fun x1 x2 d => f_X0_allPeople_B4 σ (f_X0_allPeople_L4 σ n k4 x0) k4 x0 x1 x2 d
def f_X0_allPeople (σ : Sg) (x0 : Nat) (d : Dt) : Option (Int32 × Dt) :=
  f_X0_allPeople_L4 σ aw_FU (fun x1_5 d_6 => some (x1_5, d_6)) x0 ((0 : Int32)) ((0 : Int32)) d
section W_X0_allPeople
variable {p : Program} {l : Launch} {e : Env} {s : State} {m : MethodId} {args : Array Value} {below : List Frame} {meth : Method} {c : Code}
variable {D : va_G} {cA : Nat → ClassId} {base : Nat} {ad : Nat → Nat} {σ : Sg}
set_option maxHeartbeats 4000000 in
set_option maxRecDepth 100000 in
theorem w_X0_allPeople_B4 {z : Int32 × Dt} (X : aw_X p c cX0_allPeople 3 s RX0 m meth (some .int)) {kb4 : Int32 → Int32 → Dt → Option (Int32 × Dt)} {k4 : Int32 → Dt → Option (Int32 × Dt)} {x0 : Nat} {x1 : Int32} {x2 : Int32} {d : Dt} (hf : f_X0_allPeople_B4 σ kb4 k4 x0 x1 x2 d = some z) (hkb4 : ∀ (y1 : Int32) (y2 : Int32) (d : Dt), kb4 y1 y2 d = some z → ∀ (H : Heap) (locs : List Loc) (ls : Array Slot), lv_has ls 3 [(0, .ref (ad x0)), (1, .int y1), (2, .int y2)] → aw_G D cA base ad σ d s H locs → W p l e rm_X0_allPeople s m args below meth c H locs 0 0 (aw_Ei D cA base ad σ below args s z) (F0 m 4 ls [])) (hk4 : ∀ (y1 : Int32) (d : Dt), k4 y1 d = some z → ∀ (H : Heap) (locs : List Loc) (ls : Array Slot), lv_has ls 3 [(1, .int y1)] → aw_G D cA base ad σ d s H locs → W p l e rm_X0_allPeople s m args below meth c H locs 0 0 (aw_Ei D cA base ad σ below args s z) (F0 m 24 ls [])) {H : Heap} {locs : List Loc} {ls : Array Slot} (hl : lv_has ls 3 [(0, .ref (ad x0)), (1, .int x1), (2, .int x2)]) (G : aw_G D cA base ad σ d s H locs) : W p l e rm_X0_allPeople s m args below meth c H locs 0 0 (aw_Ei D cA base ad σ below args s z) (F0 m 4 ls []) := by
  have hx := X.1; have hb := X.2.1; have hml := X.2.2.1; have hown := X.2.2.2.1
  unfold f_X0_allPeople_B4 at hf
  refine lv_iload_n hx hb dX0_allPeople_4 rfl (lv_at hl 2 rfl) ?_
  refine lv_iconst (v := (4 : Int32)) hx hb dX0_allPeople_5 (by decide) ?_
  refine lv_icmp_ge (tgt := 24) hx hb dX0_allPeople_6 (by decide) (fun hc => ?_) (fun hc => ?_)
  · have hf := aw_ite_t hc hf
    exact hk4 _ _ hf _ _ _ (lv_sub hl [1] rfl) G
  · have hf := aw_ite_f hc hf
    refine lv_iload_n hx hb dX0_allPeople_9 rfl (lv_at hl 1 rfl) ?_
    refine lv_aload_n hx hb dX0_allPeople_10 rfl (lv_at hl 0 rfl) ?_
    obtain ⟨hc_1, hf⟩ := aw_chk_some hf
    obtain ⟨q_2, hq_3, hf⟩ := aw_bind_some hf
    refine gf_X0_9 hx hb G hown hc_1 hq_3 dX0_allPeople_11 ?_
    refine lv_iload_n hx hb dX0_allPeople_14 rfl (lv_at hl 2 rfl) ?_
    obtain ⟨hc_4, hf⟩ := aw_chk_some hf
    refine aw_ial hx hb G hc_4 dX0_allPeople_15 ?_
    refine lv_iadd hx hb dX0_allPeople_16 ?_
    refine lv_istore_n (lv' := [(1, .int (x1 + (d.1 q_2 x2.toNatClampNeg))), (0, .ref (ad x0)), (2, .int x2)]) hx hb dX0_allPeople_17 rfl hl (by decide) rfl (fun ls hl => ?_)
    refine lv_iinc (v := x2 + 1) (lv' := [(2, .int (x2 + 1)), (1, .int (x1 + (d.1 q_2 x2.toNatClampNeg))), (0, .ref (ad x0))]) hx hb dX0_allPeople_18 hl (k := 2) rfl rfl (by decide) rfl (fun ls hl => ?_)
    refine lv_goto (tgt := 4) hx hb dX0_allPeople_21 (by decide) ?_
    exact hkb4 _ _ _ hf _ _ _ (lv_sub hl [2, 1, 0] rfl) G
theorem w_X0_allPeople_L4 {z : Int32 × Dt} (X : aw_X p c cX0_allPeople 3 s RX0 m meth (some .int)) {k4 : Int32 → Dt → Option (Int32 × Dt)} {x0 : Nat} (n : Nat) {x1 : Int32} {x2 : Int32} {d : Dt} (hf : f_X0_allPeople_L4 σ n k4 x0 x1 x2 d = some z) (hk4 : ∀ (y1 : Int32) (d : Dt), k4 y1 d = some z → ∀ (H : Heap) (locs : List Loc) (ls : Array Slot), lv_has ls 3 [(1, .int y1)] → aw_G D cA base ad σ d s H locs → W p l e rm_X0_allPeople s m args below meth c H locs 0 0 (aw_Ei D cA base ad σ below args s z) (F0 m 24 ls [])) {H : Heap} {locs : List Loc} {ls : Array Slot} (hl : lv_has ls 3 [(0, .ref (ad x0)), (1, .int x1), (2, .int x2)]) (G : aw_G D cA base ad σ d s H locs) : W p l e rm_X0_allPeople s m args below meth c H locs 0 0 (aw_Ei D cA base ad σ below args s z) (F0 m 4 ls []) := by
  induction n generalizing x1 x2 d H locs ls with
  | zero => exact absurd (show (none : Option (Int32 × Dt)) = some z from hf) (by simp)
  | succ n ih => exact w_X0_allPeople_B4 X (kb4 := f_X0_allPeople_L4 σ n k4 x0) hf  (fun x1 x2 d hf H locs ls hl G => ih hf hl G) hk4 hl G
end W_X0_allPeople
set_option maxHeartbeats 4000000 in
set_option maxRecDepth 100000 in
theorem c_X0_allPeople (l : Launch) {σ : Sg} {x0 : Nat} {d : Dt} {z : Int32 × Dt} (hf : f_X0_allPeople σ x0 d = some z) : aw_Mi l yX0_allPeople (Cond.code yX0_allPeople cX0_allPeople 3 (some .int)) rm_X0_allPeople (fun ad => [.ref (ad x0)]) σ d z := by
  intro D cA base ad
  refine aw_ofW (own := RX0) (cc := cX0_allPeople) (nL := 3) (ret := some .int) (by decide) rfl rfl ?_
  intro p e s m below meth c X hnm G
  have hx := X.1; have hb := X.2.1; have hml := X.2.2.1; have hown := X.2.2.2.1
  refine aw_ls (lv := [(0, .ref (ad x0))]) (Nat.le_of_ble_eq_true rfl) rfl (fun ls hl => ?_)
  unfold f_X0_allPeople at hf
  refine lv_iconst (v := (0 : Int32)) hx hb dX0_allPeople_0 (by decide) ?_
  refine lv_istore_n (lv' := [(1, .int ((0 : Int32))), (0, .ref (ad x0))]) hx hb dX0_allPeople_1 rfl hl (by decide) rfl (fun ls hl => ?_)
  refine lv_iconst (v := (0 : Int32)) hx hb dX0_allPeople_2 (by decide) ?_
  refine lv_istore_n (lv' := [(2, .int ((0 : Int32))), (1, .int ((0 : Int32))), (0, .ref (ad x0))]) hx hb dX0_allPeople_3 rfl hl (by decide) rfl (fun ls hl => ?_)
  refine w_X0_allPeople_L4 X aw_FU hf  (fun x1_5 d_6 hf H locs ls hl G => ?_) (lv_sub hl [2, 1, 0] rfl) G
  refine lv_iload_n hx hb dX0_allPeople_24 rfl (lv_at hl 0 rfl) ?_
  exact aw_reti X G hf dX0_allPeople_25
def rm_X0_open : Room := { frames := 0, cells := 0, slots := 0, locals := 0 }
def f_X0_open_B7 (σ : Sg) (kb7 : Int32 → Dt → Option (Unit × Dt)) (k7 : Dt → Option (Unit × Dt)) (x0 : Nat) (x2 : Int32) (d : Dt) : Option (Unit × Dt) :=
  if ((5 : Int32)) ≤ x2 then k7 d else aw_chk (aw_O σ 0 7 x0) ((σ.2.2 x0 5).bind (fun q_3 => aw_chk (aw_I σ 22 q_3 x2) (kb7 (x2 + 1) (aw_sI d q_3 x2.toNatClampNeg (vp_nar .boolean ((0 : Int32)))))))
def f_X0_open_L7 (σ : Sg) (n : Nat) (k7 : Dt → Option (Unit × Dt)) (x0 : Nat) : Int32 → Dt → Option (Unit × Dt) := match n with
  | 0 => fun _ _ => none
  | n + 1 => fun x2 d => f_X0_open_B7 σ (f_X0_open_L7 σ n k7 x0) k7 x0 x2 d
def f_X0_open (σ : Sg) (x0 : Nat) (x1 : Int32) (d : Dt) : Option (Unit × Dt) :=
  aw_chk (aw_O σ 0 7 x0) (f_X0_open_L7 σ aw_FU (fun d_6 => some ((), d_6)) x0 ((0 : Int32)) (aw_sI d x0 6 x1))
section W_X0_open
variable {p : Program} {l : Launch} {e : Env} {s : State} {m : MethodId} {args : Array Value} {below : List Frame} {meth : Method} {c : Code}
variable {D : va_G} {cA : Nat → ClassId} {base : Nat} {ad : Nat → Nat} {σ : Sg}
set_option maxHeartbeats 4000000 in
set_option maxRecDepth 100000 in
theorem w_X0_open_B7 {z : Unit × Dt} (X : aw_X p c cX0_open 3 s RX0 m meth (none)) {kb7 : Int32 → Dt → Option (Unit × Dt)} {k7 : Dt → Option (Unit × Dt)} {x0 : Nat} {x2 : Int32} {d : Dt} (hf : f_X0_open_B7 σ kb7 k7 x0 x2 d = some z) (hkb7 : ∀ (y2 : Int32) (d : Dt), kb7 y2 d = some z → ∀ (H : Heap) (locs : List Loc) (ls : Array Slot), lv_has ls 3 [(0, .ref (ad x0)), (2, .int y2)] → aw_G D cA base ad σ d s H locs → W p l e rm_X0_open s m args below meth c H locs 0 0 (aw_Ev D cA base ad σ below args s z) (F0 m 7 ls [])) (hk7 : ∀ (d : Dt), k7 d = some z → ∀ (H : Heap) (locs : List Loc) (ls : Array Slot), lv_has ls 3 [] → aw_G D cA base ad σ d s H locs → W p l e rm_X0_open s m args below meth c H locs 0 0 (aw_Ev D cA base ad σ below args s z) (F0 m 25 ls [])) {H : Heap} {locs : List Loc} {ls : Array Slot} (hl : lv_has ls 3 [(0, .ref (ad x0)), (2, .int x2)]) (G : aw_G D cA base ad σ d s H locs) : W p l e rm_X0_open s m args below meth c H locs 0 0 (aw_Ev D cA base ad σ below args s z) (F0 m 7 ls []) := by
  have hx := X.1; have hb := X.2.1; have hml := X.2.2.1; have hown := X.2.2.2.1
  unfold f_X0_open_B7 at hf
  refine lv_iload_n hx hb dX0_open_7 rfl (lv_at hl 1 rfl) ?_
  refine lv_iconst (v := (5 : Int32)) hx hb dX0_open_8 (by decide) ?_
  refine lv_icmp_ge (tgt := 25) hx hb dX0_open_9 (by decide) (fun hc => ?_) (fun hc => ?_)
  · have hf := aw_ite_t hc hf
    exact hk7 _ hf _ _ _ (lv_sub hl [] rfl) G
  · have hf := aw_ite_f hc hf
    refine lv_aload_n hx hb dX0_open_12 rfl (lv_at hl 0 rfl) ?_
    obtain ⟨hc_2, hf⟩ := aw_chk_some hf
    obtain ⟨q_3, hq_4, hf⟩ := aw_bind_some hf
    refine gf_X0_29 hx hb G hown hc_2 hq_4 dX0_open_13 ?_
    refine lv_iload_n hx hb dX0_open_16 rfl (lv_at hl 1 rfl) ?_
    refine lv_iconst (v := (0 : Int32)) hx hb dX0_open_17 (by decide) ?_
    obtain ⟨hc_5, hf⟩ := aw_chk_some hf
    refine aw_zas hx hb G hc_5 dX0_open_18 (fun H locs G => ?_)
    refine lv_iinc (v := x2 + 1) (lv' := [(2, .int (x2 + 1)), (0, .ref (ad x0))]) hx hb dX0_open_19 hl (k := 1) rfl rfl (by decide) rfl (fun ls hl => ?_)
    refine lv_goto (tgt := 7) hx hb dX0_open_22 (by decide) ?_
    exact hkb7 _ _ hf _ _ _ (lv_sub hl [1, 0] rfl) G
theorem w_X0_open_L7 {z : Unit × Dt} (X : aw_X p c cX0_open 3 s RX0 m meth (none)) {k7 : Dt → Option (Unit × Dt)} {x0 : Nat} (n : Nat) {x2 : Int32} {d : Dt} (hf : f_X0_open_L7 σ n k7 x0 x2 d = some z) (hk7 : ∀ (d : Dt), k7 d = some z → ∀ (H : Heap) (locs : List Loc) (ls : Array Slot), lv_has ls 3 [] → aw_G D cA base ad σ d s H locs → W p l e rm_X0_open s m args below meth c H locs 0 0 (aw_Ev D cA base ad σ below args s z) (F0 m 25 ls [])) {H : Heap} {locs : List Loc} {ls : Array Slot} (hl : lv_has ls 3 [(0, .ref (ad x0)), (2, .int x2)]) (G : aw_G D cA base ad σ d s H locs) : W p l e rm_X0_open s m args below meth c H locs 0 0 (aw_Ev D cA base ad σ below args s z) (F0 m 7 ls []) := by
  induction n generalizing x2 d H locs ls with
  | zero => exact absurd (show (none : Option (Unit × Dt)) = some z from hf) (by simp)
  | succ n ih => exact w_X0_open_B7 X (kb7 := f_X0_open_L7 σ n k7 x0) hf  (fun x2 d hf H locs ls hl G => ih hf hl G) hk7 hl G
end W_X0_open
set_option maxHeartbeats 4000000 in
set_option maxRecDepth 100000 in
theorem c_X0_open (l : Launch) {σ : Sg} {x0 : Nat} {x1 : Int32} {d : Dt} {z : Unit × Dt} (hf : f_X0_open σ x0 x1 d = some z) : aw_Mv l yX0_open (Cond.code yX0_open cX0_open 3 (none)) rm_X0_open (fun ad => [.ref (ad x0), .int x1]) σ d z := by
  intro D cA base ad
  refine aw_ofW (own := RX0) (cc := cX0_open) (nL := 3) (ret := none) (by decide) rfl rfl ?_
  intro p e s m below meth c X hnm G
  have hx := X.1; have hb := X.2.1; have hml := X.2.2.1; have hown := X.2.2.2.1
  refine aw_ls (lv := [(0, .ref (ad x0)), (1, .int x1)]) (Nat.le_of_ble_eq_true rfl) rfl (fun ls hl => ?_)
  unfold f_X0_open at hf
  refine lv_aload_n hx hb dX0_open_0 rfl (lv_at hl 0 rfl) ?_
  refine lv_iload_n hx hb dX0_open_1 rfl (lv_at hl 1 rfl) ?_
  obtain ⟨hc_1, hf⟩ := aw_chk_some hf
  refine pf_X0_33 hx hb G hown hc_1 dX0_open_2 (fun H locs G => ?_)
  refine lv_iconst (v := (0 : Int32)) hx hb dX0_open_5 (by decide) ?_
  refine lv_istore_n (lv' := [(2, .int ((0 : Int32))), (0, .ref (ad x0)), (1, .int x1)]) hx hb dX0_open_6 rfl hl (by decide) rfl (fun ls hl => ?_)
  refine w_X0_open_L7 X aw_FU hf  (fun d_6 hf H locs ls hl G => ?_) (lv_sub hl [1, 0] rfl) G
  exact aw_retv X G hf dX0_open_25
def rm_J7_fill_53178 : Room := { frames := 0, cells := 0, slots := 0, locals := 0 }
def f_J7_fill_53178_B5 (σ : Sg) (kb5 : Int32 → Dt → Option (Unit × Dt)) (k5 : Dt → Option (Unit × Dt)) (x0 : Nat) (x1 : Int32) (x3 : Int32) (x2 : Int32) (d : Dt) : Option (Unit × Dt) :=
  if x3 ≤ x2 then k5 d else aw_chk (aw_I σ 20 x0 x2) (kb5 (x2 + 1) (aw_sI d x0 x2.toNatClampNeg x1))
def f_J7_fill_53178_L5 (σ : Sg) (n : Nat) (k5 : Dt → Option (Unit × Dt)) (x0 : Nat) (x1 : Int32) (x3 : Int32) : Int32 → Dt → Option (Unit × Dt) := match n with
  | 0 => fun _ _ => none
  | n + 1 => fun x2 d => f_J7_fill_53178_B5 σ (f_J7_fill_53178_L5 σ n k5 x0 x1 x3) k5 x0 x1 x3 x2 d
def f_J7_fill_53178 (σ : Sg) (x0 : Nat) (x1 : Int32) (d : Dt) : Option (Unit × Dt) :=
  aw_chk (aw_Y σ 20 x0) (f_J7_fill_53178_L5 σ aw_FU (fun d_3 => some ((), d_3)) x0 x1 (Int32.ofNat (σ.2.1 x0).2) ((0 : Int32)) d)
section W_J7_fill_53178
variable {p : Program} {l : Launch} {e : Env} {s : State} {m : MethodId} {args : Array Value} {below : List Frame} {meth : Method} {c : Code}
variable {D : va_G} {cA : Nat → ClassId} {base : Nat} {ad : Nat → Nat} {σ : Sg}
set_option maxHeartbeats 4000000 in
set_option maxRecDepth 100000 in
theorem w_J7_fill_53178_B5 {z : Unit × Dt} (X : aw_X p c cJ7_fill_53178 4 s RJ7 m meth (none)) {kb5 : Int32 → Dt → Option (Unit × Dt)} {k5 : Dt → Option (Unit × Dt)} {x0 : Nat} {x1 : Int32} {x3 : Int32} {x2 : Int32} {d : Dt} (hf : f_J7_fill_53178_B5 σ kb5 k5 x0 x1 x3 x2 d = some z) (hkb5 : ∀ (y2 : Int32) (d : Dt), kb5 y2 d = some z → ∀ (H : Heap) (locs : List Loc) (ls : Array Slot), lv_has ls 4 [(0, .ref (ad x0)), (1, .int x1), (2, .int y2), (3, .int x3)] → aw_G D cA base ad σ d s H locs → W p l e rm_J7_fill_53178 s m args below meth c H locs 0 0 (aw_Ev D cA base ad σ below args s z) (F0 m 5 ls [])) (hk5 : ∀ (d : Dt), k5 d = some z → ∀ (H : Heap) (locs : List Loc) (ls : Array Slot), lv_has ls 4 [] → aw_G D cA base ad σ d s H locs → W p l e rm_J7_fill_53178 s m args below meth c H locs 0 0 (aw_Ev D cA base ad σ below args s z) (F0 m 20 ls [])) {H : Heap} {locs : List Loc} {ls : Array Slot} (hl : lv_has ls 4 [(0, .ref (ad x0)), (1, .int x1), (2, .int x2), (3, .int x3)]) (G : aw_G D cA base ad σ d s H locs) : W p l e rm_J7_fill_53178 s m args below meth c H locs 0 0 (aw_Ev D cA base ad σ below args s z) (F0 m 5 ls []) := by
  have hx := X.1; have hb := X.2.1; have hml := X.2.2.1; have hown := X.2.2.2.1
  unfold f_J7_fill_53178_B5 at hf
  refine lv_iload_n hx hb dJ7_fill_53178_5 rfl (lv_at hl 2 rfl) ?_
  refine lv_iload_n hx hb dJ7_fill_53178_6 rfl (lv_at hl 3 rfl) ?_
  refine lv_icmp_ge (tgt := 20) hx hb dJ7_fill_53178_7 (by decide) (fun hc => ?_) (fun hc => ?_)
  · have hf := aw_ite_t hc hf
    exact hk5 _ hf _ _ _ (lv_sub hl [] rfl) G
  · have hf := aw_ite_f hc hf
    refine lv_aload_n hx hb dJ7_fill_53178_10 rfl (lv_at hl 0 rfl) ?_
    refine lv_iload_n hx hb dJ7_fill_53178_11 rfl (lv_at hl 2 rfl) ?_
    refine lv_iload_n hx hb dJ7_fill_53178_12 rfl (lv_at hl 1 rfl) ?_
    obtain ⟨hc_2, hf⟩ := aw_chk_some hf
    refine aw_ias hx hb G hc_2 dJ7_fill_53178_13 (fun H locs G => ?_)
    refine lv_iinc (v := x2 + 1) (lv' := [(2, .int (x2 + 1)), (0, .ref (ad x0)), (1, .int x1), (3, .int x3)]) hx hb dJ7_fill_53178_14 hl (k := 2) rfl rfl (by decide) rfl (fun ls hl => ?_)
    refine lv_goto (tgt := 5) hx hb dJ7_fill_53178_17 (by decide) ?_
    exact hkb5 _ _ hf _ _ _ (lv_sub hl [1, 2, 0, 3] rfl) G
theorem w_J7_fill_53178_L5 {z : Unit × Dt} (X : aw_X p c cJ7_fill_53178 4 s RJ7 m meth (none)) {k5 : Dt → Option (Unit × Dt)} {x0 : Nat} {x1 : Int32} {x3 : Int32} (n : Nat) {x2 : Int32} {d : Dt} (hf : f_J7_fill_53178_L5 σ n k5 x0 x1 x3 x2 d = some z) (hk5 : ∀ (d : Dt), k5 d = some z → ∀ (H : Heap) (locs : List Loc) (ls : Array Slot), lv_has ls 4 [] → aw_G D cA base ad σ d s H locs → W p l e rm_J7_fill_53178 s m args below meth c H locs 0 0 (aw_Ev D cA base ad σ below args s z) (F0 m 20 ls [])) {H : Heap} {locs : List Loc} {ls : Array Slot} (hl : lv_has ls 4 [(0, .ref (ad x0)), (1, .int x1), (2, .int x2), (3, .int x3)]) (G : aw_G D cA base ad σ d s H locs) : W p l e rm_J7_fill_53178 s m args below meth c H locs 0 0 (aw_Ev D cA base ad σ below args s z) (F0 m 5 ls []) := by
  induction n generalizing x2 d H locs ls with
  | zero => exact absurd (show (none : Option (Unit × Dt)) = some z from hf) (by simp)
  | succ n ih => exact w_J7_fill_53178_B5 X (kb5 := f_J7_fill_53178_L5 σ n k5 x0 x1 x3) hf  (fun x2 d hf H locs ls hl G => ih hf hl G) hk5 hl G
end W_J7_fill_53178
set_option maxHeartbeats 4000000 in
set_option maxRecDepth 100000 in
theorem c_J7_fill_53178 (l : Launch) {σ : Sg} {x0 : Nat} {x1 : Int32} {d : Dt} {z : Unit × Dt} (hf : f_J7_fill_53178 σ x0 x1 d = some z) : aw_Mv l yJ7_fill_53178 (Cond.code yJ7_fill_53178 cJ7_fill_53178 4 (none)) rm_J7_fill_53178 (fun ad => [.ref (ad x0), .int x1]) σ d z := by
  intro D cA base ad
  refine aw_ofW (own := RJ7) (cc := cJ7_fill_53178) (nL := 4) (ret := none) (by decide) rfl rfl ?_
  intro p e s m below meth c X hnm G
  have hx := X.1; have hb := X.2.1; have hml := X.2.2.1; have hown := X.2.2.2.1
  refine aw_ls (lv := [(0, .ref (ad x0)), (1, .int x1)]) (Nat.le_of_ble_eq_true rfl) rfl (fun ls hl => ?_)
  unfold f_J7_fill_53178 at hf
  refine lv_iconst (v := (0 : Int32)) hx hb dJ7_fill_53178_0 (by decide) ?_
  refine lv_istore_n (lv' := [(2, .int ((0 : Int32))), (0, .ref (ad x0)), (1, .int x1)]) hx hb dJ7_fill_53178_1 rfl hl (by decide) rfl (fun ls hl => ?_)
  refine lv_aload_n hx hb dJ7_fill_53178_2 rfl (lv_at hl 1 rfl) ?_
  obtain ⟨hc_1, hf⟩ := aw_chk_some hf
  refine aw_iln hx hb G hc_1 dJ7_fill_53178_3 ?_
  refine lv_istore_n (lv' := [(3, .int (Int32.ofNat (σ.2.1 x0).2)), (2, .int ((0 : Int32))), (0, .ref (ad x0)), (1, .int x1)]) hx hb dJ7_fill_53178_4 rfl hl (by decide) rfl (fun ls hl => ?_)
  refine w_J7_fill_53178_L5 X aw_FU hf  (fun d_3 hf H locs ls hl G => ?_) (lv_sub hl [2, 3, 1, 0] rfl) G
  exact aw_retv X G hf dJ7_fill_53178_20
def rm_X0_choiceOf : Room := { frames := 0, cells := 0, slots := 0, locals := 0 }
def f_X0_choiceOf_J47 (σ : Sg) (kb4 : Int32 → Int32 → Dt → Option (Int32 × Dt)) (x0 : Nat) (x1 : Int32) (x2 : Int32) (x3 : Int32) (d : Dt) : Option (Int32 × Dt) :=
  kb4 x2 (x3 + 1) d
def f_X0_choiceOf_J45 (σ : Sg) (kb4 : Int32 → Int32 → Dt → Option (Int32 × Dt)) (x0 : Nat) (x1 : Int32) (x3 : Int32) (d : Dt) : Option (Int32 × Dt) :=
  f_X0_choiceOf_J47 σ kb4 x0 x1 x3 x3 d
def f_X0_choiceOf_B4 (σ : Sg) (kb4 : Int32 → Int32 → Dt → Option (Int32 × Dt)) (k4 : Int32 → Dt → Option (Int32 × Dt)) (x0 : Nat) (x1 : Int32) (x2 : Int32) (x3 : Int32) (d : Dt) : Option (Int32 × Dt) :=
  aw_chk (aw_O σ 0 7 x0) (if (d.1 x0 6) ≤ x3 then k4 x2 d else (σ.2.2 x0 5).bind (fun q_2 => aw_chk (aw_I σ 22 q_2 x3) (if (d.1 q_2 x3.toNatClampNeg) = 0 then if x2 = ((-1 : Int32)) then f_X0_choiceOf_J45 σ kb4 x0 x1 x3 d else (σ.2.2 x0 3).bind (fun q_5 => aw_chk (aw_I σ 23 q_5 x1) ((σ.2.2 q_5 x1.toNatClampNeg).bind (fun q_8 => aw_chk (aw_I σ 20 q_8 x3) (aw_chk (aw_I σ 20 q_8 x2) (if (d.1 q_8 x2.toNatClampNeg) ≤ (d.1 q_8 x3.toNatClampNeg) then f_X0_choiceOf_J47 σ kb4 x0 x1 x2 x3 d else f_X0_choiceOf_J45 σ kb4 x0 x1 x3 d))))) else f_X0_choiceOf_J47 σ kb4 x0 x1 x2 x3 d)))
def f_X0_choiceOf_L4 (σ : Sg) (n : Nat) (k4 : Int32 → Dt → Option (Int32 × Dt)) (x0 : Nat) (x1 : Int32) : Int32 → Int32 → Dt → Option (Int32 × Dt) := match n with
  | 0 => fun _ _ _ => none
  | n + 1 => fun x2 x3 d => f_X0_choiceOf_B4 σ (f_X0_choiceOf_L4 σ n k4 x0 x1) k4 x0 x1 x2 x3 d
def f_X0_choiceOf (σ : Sg) (x0 : Nat) (x1 : Int32) (d : Dt) : Option (Int32 × Dt) :=
  f_X0_choiceOf_L4 σ aw_FU (fun x2_12 d_13 => some (x2_12, d_13)) x0 x1 ((-1 : Int32)) ((0 : Int32)) d
section W_X0_choiceOf
variable {p : Program} {l : Launch} {e : Env} {s : State} {m : MethodId} {args : Array Value} {below : List Frame} {meth : Method} {c : Code}
variable {D : va_G} {cA : Nat → ClassId} {base : Nat} {ad : Nat → Nat} {σ : Sg}
set_option maxHeartbeats 4000000 in
set_option maxRecDepth 100000 in
theorem w_X0_choiceOf_J47 {z : Int32 × Dt} (X : aw_X p c cX0_choiceOf 4 s RX0 m meth (some .int)) {kb4 : Int32 → Int32 → Dt → Option (Int32 × Dt)} {x0 : Nat} {x1 : Int32} {x2 : Int32} {x3 : Int32} {d : Dt} (hf : f_X0_choiceOf_J47 σ kb4 x0 x1 x2 x3 d = some z) (hkb4 : ∀ (y2 : Int32) (y3 : Int32) (d : Dt), kb4 y2 y3 d = some z → ∀ (H : Heap) (locs : List Loc) (ls : Array Slot), lv_has ls 4 [(0, .ref (ad x0)), (1, .int x1), (2, .int y2), (3, .int y3)] → aw_G D cA base ad σ d s H locs → W p l e rm_X0_choiceOf s m args below meth c H locs 0 0 (aw_Ei D cA base ad σ below args s z) (F0 m 4 ls [])) {H : Heap} {locs : List Loc} {ls : Array Slot} (hl : lv_has ls 4 [(0, .ref (ad x0)), (1, .int x1), (2, .int x2), (3, .int x3)]) (G : aw_G D cA base ad σ d s H locs) : W p l e rm_X0_choiceOf s m args below meth c H locs 0 0 (aw_Ei D cA base ad σ below args s z) (F0 m 47 ls []) := by
  have hx := X.1; have hb := X.2.1; have hml := X.2.2.1; have hown := X.2.2.2.1
  unfold f_X0_choiceOf_J47 at hf
  refine lv_iinc (v := x3 + 1) (lv' := [(3, .int (x3 + 1)), (0, .ref (ad x0)), (1, .int x1), (2, .int x2)]) hx hb dX0_choiceOf_47 hl (k := 3) rfl rfl (by decide) rfl (fun ls hl => ?_)
  refine lv_goto (tgt := 4) hx hb dX0_choiceOf_50 (by decide) ?_
  exact hkb4 _ _ _ hf _ _ _ (lv_sub hl [1, 2, 3, 0] rfl) G
set_option maxHeartbeats 4000000 in
set_option maxRecDepth 100000 in
theorem w_X0_choiceOf_J45 {z : Int32 × Dt} (X : aw_X p c cX0_choiceOf 4 s RX0 m meth (some .int)) {kb4 : Int32 → Int32 → Dt → Option (Int32 × Dt)} {x0 : Nat} {x1 : Int32} {x3 : Int32} {d : Dt} (hf : f_X0_choiceOf_J45 σ kb4 x0 x1 x3 d = some z) (hkb4 : ∀ (y2 : Int32) (y3 : Int32) (d : Dt), kb4 y2 y3 d = some z → ∀ (H : Heap) (locs : List Loc) (ls : Array Slot), lv_has ls 4 [(0, .ref (ad x0)), (1, .int x1), (2, .int y2), (3, .int y3)] → aw_G D cA base ad σ d s H locs → W p l e rm_X0_choiceOf s m args below meth c H locs 0 0 (aw_Ei D cA base ad σ below args s z) (F0 m 4 ls [])) {H : Heap} {locs : List Loc} {ls : Array Slot} (hl : lv_has ls 4 [(0, .ref (ad x0)), (1, .int x1), (3, .int x3)]) (G : aw_G D cA base ad σ d s H locs) : W p l e rm_X0_choiceOf s m args below meth c H locs 0 0 (aw_Ei D cA base ad σ below args s z) (F0 m 45 ls []) := by
  have hx := X.1; have hb := X.2.1; have hml := X.2.2.1; have hown := X.2.2.2.1
  unfold f_X0_choiceOf_J45 at hf
  refine lv_iload_n hx hb dX0_choiceOf_45 rfl (lv_at hl 2 rfl) ?_
  refine lv_istore_n (lv' := [(2, .int x3), (0, .ref (ad x0)), (1, .int x1), (3, .int x3)]) hx hb dX0_choiceOf_46 rfl hl (by decide) rfl (fun ls hl => ?_)
  exact w_X0_choiceOf_J47 X hf hkb4 (lv_sub hl [1, 2, 0, 3] rfl) G
set_option maxHeartbeats 4000000 in
set_option maxRecDepth 100000 in
theorem w_X0_choiceOf_B4 {z : Int32 × Dt} (X : aw_X p c cX0_choiceOf 4 s RX0 m meth (some .int)) {kb4 : Int32 → Int32 → Dt → Option (Int32 × Dt)} {k4 : Int32 → Dt → Option (Int32 × Dt)} {x0 : Nat} {x1 : Int32} {x2 : Int32} {x3 : Int32} {d : Dt} (hf : f_X0_choiceOf_B4 σ kb4 k4 x0 x1 x2 x3 d = some z) (hkb4 : ∀ (y2 : Int32) (y3 : Int32) (d : Dt), kb4 y2 y3 d = some z → ∀ (H : Heap) (locs : List Loc) (ls : Array Slot), lv_has ls 4 [(0, .ref (ad x0)), (1, .int x1), (2, .int y2), (3, .int y3)] → aw_G D cA base ad σ d s H locs → W p l e rm_X0_choiceOf s m args below meth c H locs 0 0 (aw_Ei D cA base ad σ below args s z) (F0 m 4 ls [])) (hk4 : ∀ (y2 : Int32) (d : Dt), k4 y2 d = some z → ∀ (H : Heap) (locs : List Loc) (ls : Array Slot), lv_has ls 4 [(2, .int y2)] → aw_G D cA base ad σ d s H locs → W p l e rm_X0_choiceOf s m args below meth c H locs 0 0 (aw_Ei D cA base ad σ below args s z) (F0 m 53 ls [])) {H : Heap} {locs : List Loc} {ls : Array Slot} (hl : lv_has ls 4 [(0, .ref (ad x0)), (1, .int x1), (2, .int x2), (3, .int x3)]) (G : aw_G D cA base ad σ d s H locs) : W p l e rm_X0_choiceOf s m args below meth c H locs 0 0 (aw_Ei D cA base ad σ below args s z) (F0 m 4 ls []) := by
  have hx := X.1; have hb := X.2.1; have hml := X.2.2.1; have hown := X.2.2.2.1
  unfold f_X0_choiceOf_B4 at hf
  refine lv_iload_n hx hb dX0_choiceOf_4 rfl (lv_at hl 3 rfl) ?_
  refine lv_aload_n hx hb dX0_choiceOf_5 rfl (lv_at hl 0 rfl) ?_
  obtain ⟨hc_1, hf⟩ := aw_chk_some hf
  refine gf_X0_33 hx hb G hown hc_1 dX0_choiceOf_6 ?_
  refine lv_icmp_ge (tgt := 53) hx hb dX0_choiceOf_9 (by decide) (fun hc => ?_) (fun hc => ?_)
  · have hf := aw_ite_t hc hf
    exact hk4 _ _ hf _ _ _ (lv_sub hl [2] rfl) G
  · have hf := aw_ite_f hc hf
    refine lv_aload_n hx hb dX0_choiceOf_12 rfl (lv_at hl 0 rfl) ?_
    obtain ⟨q_2, hq_3, hf⟩ := aw_bind_some hf
    refine gf_X0_29 hx hb G hown hc_1 hq_3 dX0_choiceOf_13 ?_
    refine lv_iload_n hx hb dX0_choiceOf_16 rfl (lv_at hl 3 rfl) ?_
    obtain ⟨hc_4, hf⟩ := aw_chk_some hf
    refine aw_zal hx hb G hc_4 dX0_choiceOf_17 ?_
    refine lv_if_ne (tgt := 47) hx hb dX0_choiceOf_18 (by decide) (fun hc => ?_) (fun hc => ?_)
    · have hf := aw_ite_f hc hf
      exact w_X0_choiceOf_J47 X hf hkb4 (lv_sub hl [0, 1, 2, 3] rfl) G
    · have hf := aw_ite_t hc hf
      refine lv_iload_n hx hb dX0_choiceOf_21 rfl (lv_at hl 2 rfl) ?_
      refine lv_iconst (v := (-1 : Int32)) hx hb dX0_choiceOf_22 (by decide) ?_
      refine lv_icmp_eq (tgt := 45) hx hb dX0_choiceOf_23 (by decide) (fun hc => ?_) (fun hc => ?_)
      · have hf := aw_ite_t hc hf
        exact w_X0_choiceOf_J45 X hf hkb4 (lv_sub hl [0, 1, 3] rfl) G
      · have hf := aw_ite_f hc hf
        refine lv_aload_n hx hb dX0_choiceOf_26 rfl (lv_at hl 0 rfl) ?_
        obtain ⟨q_5, hq_6, hf⟩ := aw_bind_some hf
        refine gf_X0_23 hx hb G hown hc_1 hq_6 dX0_choiceOf_27 ?_
        refine lv_iload_n hx hb dX0_choiceOf_30 rfl (lv_at hl 1 rfl) ?_
        obtain ⟨hc_7, hf⟩ := aw_chk_some hf
        obtain ⟨q_8, hq_9, hf⟩ := aw_bind_some hf
        refine aw_qal hx hb G 23 _ rfl rfl (by decide) hc_7 hq_9 dX0_choiceOf_31 ?_
        refine lv_iload_n hx hb dX0_choiceOf_32 rfl (lv_at hl 3 rfl) ?_
        obtain ⟨hc_10, hf⟩ := aw_chk_some hf
        refine aw_ial hx hb G hc_10 dX0_choiceOf_33 ?_
        refine lv_aload_n hx hb dX0_choiceOf_34 rfl (lv_at hl 0 rfl) ?_
        refine gf_X0_23 hx hb G hown hc_1 hq_6 dX0_choiceOf_35 ?_
        refine lv_iload_n hx hb dX0_choiceOf_38 rfl (lv_at hl 1 rfl) ?_
        refine aw_qal hx hb G 23 _ rfl rfl (by decide) hc_7 hq_9 dX0_choiceOf_39 ?_
        refine lv_iload_n hx hb dX0_choiceOf_40 rfl (lv_at hl 2 rfl) ?_
        obtain ⟨hc_11, hf⟩ := aw_chk_some hf
        refine aw_ial hx hb G hc_11 dX0_choiceOf_41 ?_
        refine lv_icmp_ge (tgt := 47) hx hb dX0_choiceOf_42 (by decide) (fun hc => ?_) (fun hc => ?_)
        · have hf := aw_ite_t hc hf
          exact w_X0_choiceOf_J47 X hf hkb4 (lv_sub hl [0, 1, 2, 3] rfl) G
        · have hf := aw_ite_f hc hf
          exact w_X0_choiceOf_J45 X hf hkb4 (lv_sub hl [0, 1, 3] rfl) G
theorem w_X0_choiceOf_L4 {z : Int32 × Dt} (X : aw_X p c cX0_choiceOf 4 s RX0 m meth (some .int)) {k4 : Int32 → Dt → Option (Int32 × Dt)} {x0 : Nat} {x1 : Int32} (n : Nat) {x2 : Int32} {x3 : Int32} {d : Dt} (hf : f_X0_choiceOf_L4 σ n k4 x0 x1 x2 x3 d = some z) (hk4 : ∀ (y2 : Int32) (d : Dt), k4 y2 d = some z → ∀ (H : Heap) (locs : List Loc) (ls : Array Slot), lv_has ls 4 [(2, .int y2)] → aw_G D cA base ad σ d s H locs → W p l e rm_X0_choiceOf s m args below meth c H locs 0 0 (aw_Ei D cA base ad σ below args s z) (F0 m 53 ls [])) {H : Heap} {locs : List Loc} {ls : Array Slot} (hl : lv_has ls 4 [(0, .ref (ad x0)), (1, .int x1), (2, .int x2), (3, .int x3)]) (G : aw_G D cA base ad σ d s H locs) : W p l e rm_X0_choiceOf s m args below meth c H locs 0 0 (aw_Ei D cA base ad σ below args s z) (F0 m 4 ls []) := by
  induction n generalizing x2 x3 d H locs ls with
  | zero => exact absurd (show (none : Option (Int32 × Dt)) = some z from hf) (by simp)
  | succ n ih => exact w_X0_choiceOf_B4 X (kb4 := f_X0_choiceOf_L4 σ n k4 x0 x1) hf  (fun x2 x3 d hf H locs ls hl G => ih hf hl G) hk4 hl G
end W_X0_choiceOf
set_option maxHeartbeats 4000000 in
set_option maxRecDepth 100000 in
theorem c_X0_choiceOf (l : Launch) {σ : Sg} {x0 : Nat} {x1 : Int32} {d : Dt} {z : Int32 × Dt} (hf : f_X0_choiceOf σ x0 x1 d = some z) : aw_Mi l yX0_choiceOf (Cond.code yX0_choiceOf cX0_choiceOf 4 (some .int)) rm_X0_choiceOf (fun ad => [.ref (ad x0), .int x1]) σ d z := by
  intro D cA base ad
  refine aw_ofW (own := RX0) (cc := cX0_choiceOf) (nL := 4) (ret := some .int) (by decide) rfl rfl ?_
  intro p e s m below meth c X hnm G
  have hx := X.1; have hb := X.2.1; have hml := X.2.2.1; have hown := X.2.2.2.1
  refine aw_ls (lv := [(0, .ref (ad x0)), (1, .int x1)]) (Nat.le_of_ble_eq_true rfl) rfl (fun ls hl => ?_)
  unfold f_X0_choiceOf at hf
  refine lv_iconst (v := (-1 : Int32)) hx hb dX0_choiceOf_0 (by decide) ?_
  refine lv_istore_n (lv' := [(2, .int ((-1 : Int32))), (0, .ref (ad x0)), (1, .int x1)]) hx hb dX0_choiceOf_1 rfl hl (by decide) rfl (fun ls hl => ?_)
  refine lv_iconst (v := (0 : Int32)) hx hb dX0_choiceOf_2 (by decide) ?_
  refine lv_istore_n (lv' := [(3, .int ((0 : Int32))), (2, .int ((-1 : Int32))), (0, .ref (ad x0)), (1, .int x1)]) hx hb dX0_choiceOf_3 rfl hl (by decide) rfl (fun ls hl => ?_)
  refine w_X0_choiceOf_L4 X aw_FU hf  (fun x2_12 d_13 hf H locs ls hl G => ?_) (lv_sub hl [2, 3, 1, 0] rfl) G
  refine lv_iload_n hx hb dX0_choiceOf_53 rfl (lv_at hl 0 rfl) ?_
  exact aw_reti X G hf dX0_choiceOf_54
def rm_X0_countVotes : Room := { frames := 1, cells := 0, slots := 0, locals := 23 }
def f_X0_countVotes_J41 (σ : Sg) (kb10 : Int32 → Dt → Option (Unit × Dt)) (x0 : Nat) (x1 : Int32) (d : Dt) : Option (Unit × Dt) :=
  kb10 (x1 + 1) d
def f_X0_countVotes_B10 (σ : Sg) (kb10 : Int32 → Dt → Option (Unit × Dt)) (k10 : Dt → Option (Unit × Dt)) (x0 : Nat) (x1 : Int32) (d : Dt) : Option (Unit × Dt) :=
  if ((4 : Int32)) ≤ x1 then k10 d else aw_chk (aw_O σ 0 7 x0) ((f_X0_choiceOf σ x0 x1 d).bind (fun z_6 => if z_6.1 = ((-1 : Int32)) then f_X0_countVotes_J41 σ kb10 x0 x1 z_6.2 else (σ.2.2 x0 4).bind (fun q_9 => aw_chk (aw_I σ 20 q_9 z_6.1) ((σ.2.2 x0 0).bind (fun q_12 => aw_chk (aw_I σ 20 q_12 x1) (f_X0_countVotes_J41 σ kb10 x0 x1 (aw_sI z_6.2 q_9 z_6.1.toNatClampNeg ((z_6.2.1 q_9 z_6.1.toNatClampNeg) + (z_6.2.1 q_12 x1.toNatClampNeg)))))))))
def f_X0_countVotes_L10 (σ : Sg) (n : Nat) (k10 : Dt → Option (Unit × Dt)) (x0 : Nat) : Int32 → Dt → Option (Unit × Dt) := match n with
  | 0 => fun _ _ => none
  | n + 1 => fun x1 d => f_X0_countVotes_B10 σ (f_X0_countVotes_L10 σ n k10 x0) k10 x0 x1 d
def f_X0_countVotes (σ : Sg) (x0 : Nat) (d : Dt) : Option (Unit × Dt) :=
  aw_chk (aw_O σ 0 7 x0) ((σ.2.2 x0 4).bind (fun q_2 => (f_J7_fill_53178 σ q_2 ((0 : Int32)) d).bind (fun z_4 => f_X0_countVotes_L10 σ aw_FU (fun d_15 => some ((), d_15)) x0 ((0 : Int32)) z_4.2)))
section W_X0_countVotes
variable {p : Program} {l : Launch} {e : Env} {s : State} {m : MethodId} {args : Array Value} {below : List Frame} {meth : Method} {c : Code}
variable {D : va_G} {cA : Nat → ClassId} {base : Nat} {ad : Nat → Nat} {σ : Sg}
set_option maxHeartbeats 4000000 in
set_option maxRecDepth 100000 in
theorem w_X0_countVotes_J41 {z : Unit × Dt} (X : aw_X p c cX0_countVotes 3 s RX0 m meth (none)) {kb10 : Int32 → Dt → Option (Unit × Dt)} {x0 : Nat} {x1 : Int32} {d : Dt} (hf : f_X0_countVotes_J41 σ kb10 x0 x1 d = some z) (hkb10 : ∀ (y1 : Int32) (d : Dt), kb10 y1 d = some z → ∀ (H : Heap) (locs : List Loc) (ls : Array Slot), lv_has ls 3 [(0, .ref (ad x0)), (1, .int y1)] → aw_G D cA base ad σ d s H locs → W p l e rm_X0_countVotes s m args below meth c H locs 0 0 (aw_Ev D cA base ad σ below args s z) (F0 m 10 ls [])) {H : Heap} {locs : List Loc} {ls : Array Slot} (hl : lv_has ls 3 [(0, .ref (ad x0)), (1, .int x1)]) (G : aw_G D cA base ad σ d s H locs) : W p l e rm_X0_countVotes s m args below meth c H locs 0 0 (aw_Ev D cA base ad σ below args s z) (F0 m 41 ls []) := by
  have hx := X.1; have hb := X.2.1; have hml := X.2.2.1; have hown := X.2.2.2.1
  unfold f_X0_countVotes_J41 at hf
  refine lv_iinc (v := x1 + 1) (lv' := [(1, .int (x1 + 1)), (0, .ref (ad x0))]) hx hb dX0_countVotes_41 hl (k := 1) rfl rfl (by decide) rfl (fun ls hl => ?_)
  refine lv_goto (tgt := 10) hx hb dX0_countVotes_44 (by decide) ?_
  exact hkb10 _ _ hf _ _ _ (lv_sub hl [1, 0] rfl) G
set_option maxHeartbeats 4000000 in
set_option maxRecDepth 100000 in
theorem w_X0_countVotes_B10 {z : Unit × Dt} (X : aw_X p c cX0_countVotes 3 s RX0 m meth (none)) {kb10 : Int32 → Dt → Option (Unit × Dt)} {k10 : Dt → Option (Unit × Dt)} {x0 : Nat} {x1 : Int32} {d : Dt} (hf : f_X0_countVotes_B10 σ kb10 k10 x0 x1 d = some z) (hkb10 : ∀ (y1 : Int32) (d : Dt), kb10 y1 d = some z → ∀ (H : Heap) (locs : List Loc) (ls : Array Slot), lv_has ls 3 [(0, .ref (ad x0)), (1, .int y1)] → aw_G D cA base ad σ d s H locs → W p l e rm_X0_countVotes s m args below meth c H locs 0 0 (aw_Ev D cA base ad σ below args s z) (F0 m 10 ls [])) (hk10 : ∀ (d : Dt), k10 d = some z → ∀ (H : Heap) (locs : List Loc) (ls : Array Slot), lv_has ls 3 [] → aw_G D cA base ad σ d s H locs → W p l e rm_X0_countVotes s m args below meth c H locs 0 0 (aw_Ev D cA base ad σ below args s z) (F0 m 47 ls [])) {H : Heap} {locs : List Loc} {ls : Array Slot} (hl : lv_has ls 3 [(0, .ref (ad x0)), (1, .int x1)]) (G : aw_G D cA base ad σ d s H locs) : W p l e rm_X0_countVotes s m args below meth c H locs 0 0 (aw_Ev D cA base ad σ below args s z) (F0 m 10 ls []) := by
  have hx := X.1; have hb := X.2.1; have hml := X.2.2.1; have hown := X.2.2.2.1
  unfold f_X0_countVotes_B10 at hf
  refine lv_iload_n hx hb dX0_countVotes_10 rfl (lv_at hl 1 rfl) ?_
  refine lv_iconst (v := (4 : Int32)) hx hb dX0_countVotes_11 (by decide) ?_
  refine lv_icmp_ge (tgt := 47) hx hb dX0_countVotes_12 (by decide) (fun hc => ?_) (fun hc => ?_)
  · have hf := aw_ite_t hc hf
    exact hk10 _ hf _ _ _ (lv_sub hl [] rfl) G
  · have hf := aw_ite_f hc hf
    refine lv_aload_n hx hb dX0_countVotes_15 rfl (lv_at hl 0 rfl) ?_
    refine lv_iload_n hx hb dX0_countVotes_16 rfl (lv_at hl 1 rfl) ?_
    obtain ⟨hc_8, hf⟩ := aw_chk_some hf
    obtain ⟨z_6, hz_7, hf⟩ := aw_bind_some hf
    refine aw_VI (As := [.int x1]) (rest := []) X G hl.1 cr_X0_43 (c_X0_choiceOf l hz_7) ⟨rfl, rfl⟩ rfl rfl rfl (by decide) hc_8 rfl ⟨Nat.le_of_ble_eq_true rfl, Nat.le_of_ble_eq_true rfl⟩ (Nat.le_of_ble_eq_true rfl) dX0_countVotes_17 ⟨Nat.zero_le _, Nat.zero_le _⟩ (fun H locs G => ?_)
    refine lv_istore_n (lv' := [(2, .int z_6.1), (0, .ref (ad x0)), (1, .int x1)]) hx hb dX0_countVotes_20 rfl hl (by decide) rfl (fun ls hl => ?_)
    refine lv_iload_n hx hb dX0_countVotes_21 rfl (lv_at hl 0 rfl) ?_
    refine lv_iconst (v := (-1 : Int32)) hx hb dX0_countVotes_22 (by decide) ?_
    refine lv_icmp_eq (tgt := 41) hx hb dX0_countVotes_23 (by decide) (fun hc => ?_) (fun hc => ?_)
    · have hf := aw_ite_t hc hf
      exact w_X0_countVotes_J41 X hf hkb10 (lv_sub hl [1, 2] rfl) G
    · have hf := aw_ite_f hc hf
      refine lv_aload_n hx hb dX0_countVotes_26 rfl (lv_at hl 1 rfl) ?_
      obtain ⟨q_9, hq_10, hf⟩ := aw_bind_some hf
      refine gf_X0_26 hx hb G hown hc_8 hq_10 dX0_countVotes_27 ?_
      refine lv_iload_n hx hb dX0_countVotes_30 rfl (lv_at hl 0 rfl) ?_
      refine lv_dup2_11 hx hb dX0_countVotes_31 rfl rfl ?_
      obtain ⟨hc_11, hf⟩ := aw_chk_some hf
      refine aw_ial hx hb G hc_11 dX0_countVotes_32 ?_
      refine lv_aload_n hx hb dX0_countVotes_33 rfl (lv_at hl 1 rfl) ?_
      obtain ⟨q_12, hq_13, hf⟩ := aw_bind_some hf
      refine gf_X0_9 hx hb G hown hc_8 hq_13 dX0_countVotes_34 ?_
      refine lv_iload_n hx hb dX0_countVotes_37 rfl (lv_at hl 2 rfl) ?_
      obtain ⟨hc_14, hf⟩ := aw_chk_some hf
      refine aw_ial hx hb G hc_14 dX0_countVotes_38 ?_
      refine lv_iadd hx hb dX0_countVotes_39 ?_
      refine aw_ias hx hb G hc_11 dX0_countVotes_40 (fun H locs G => ?_)
      exact w_X0_countVotes_J41 X hf hkb10 (lv_sub hl [1, 2] rfl) G
theorem w_X0_countVotes_L10 {z : Unit × Dt} (X : aw_X p c cX0_countVotes 3 s RX0 m meth (none)) {k10 : Dt → Option (Unit × Dt)} {x0 : Nat} (n : Nat) {x1 : Int32} {d : Dt} (hf : f_X0_countVotes_L10 σ n k10 x0 x1 d = some z) (hk10 : ∀ (d : Dt), k10 d = some z → ∀ (H : Heap) (locs : List Loc) (ls : Array Slot), lv_has ls 3 [] → aw_G D cA base ad σ d s H locs → W p l e rm_X0_countVotes s m args below meth c H locs 0 0 (aw_Ev D cA base ad σ below args s z) (F0 m 47 ls [])) {H : Heap} {locs : List Loc} {ls : Array Slot} (hl : lv_has ls 3 [(0, .ref (ad x0)), (1, .int x1)]) (G : aw_G D cA base ad σ d s H locs) : W p l e rm_X0_countVotes s m args below meth c H locs 0 0 (aw_Ev D cA base ad σ below args s z) (F0 m 10 ls []) := by
  induction n generalizing x1 d H locs ls with
  | zero => exact absurd (show (none : Option (Unit × Dt)) = some z from hf) (by simp)
  | succ n ih => exact w_X0_countVotes_B10 X (kb10 := f_X0_countVotes_L10 σ n k10 x0) hf  (fun x1 d hf H locs ls hl G => ih hf hl G) hk10 hl G
end W_X0_countVotes
set_option maxHeartbeats 4000000 in
set_option maxRecDepth 100000 in
theorem c_X0_countVotes (l : Launch) {σ : Sg} {x0 : Nat} {d : Dt} {z : Unit × Dt} (hf : f_X0_countVotes σ x0 d = some z) : aw_Mv l yX0_countVotes (Cond.code yX0_countVotes cX0_countVotes 3 (none)) rm_X0_countVotes (fun ad => [.ref (ad x0)]) σ d z := by
  intro D cA base ad
  refine aw_ofW (own := RX0) (cc := cX0_countVotes) (nL := 3) (ret := none) (by decide) rfl rfl ?_
  intro p e s m below meth c X hnm G
  have hx := X.1; have hb := X.2.1; have hml := X.2.2.1; have hown := X.2.2.2.1
  refine aw_ls (lv := [(0, .ref (ad x0))]) (Nat.le_of_ble_eq_true rfl) rfl (fun ls hl => ?_)
  unfold f_X0_countVotes at hf
  refine lv_aload_n hx hb dX0_countVotes_0 rfl (lv_at hl 0 rfl) ?_
  obtain ⟨hc_1, hf⟩ := aw_chk_some hf
  obtain ⟨q_2, hq_3, hf⟩ := aw_bind_some hf
  refine gf_X0_26 hx hb G hown hc_1 hq_3 dX0_countVotes_1 ?_
  refine lv_iconst (v := (0 : Int32)) hx hb dX0_countVotes_4 (by decide) ?_
  obtain ⟨z_4, hz_5, hf⟩ := aw_bind_some hf
  refine aw_SV (As := [.ref (ad q_2), .int ((0 : Int32))]) (rest := []) X G hl.1 cr_X0_37 (c_J7_fill_53178 l hz_5) ⟨rfl, rfl⟩ rfl rfl rfl ⟨Nat.le_of_ble_eq_true rfl, Nat.le_of_ble_eq_true rfl⟩ (Nat.le_of_ble_eq_true rfl) dX0_countVotes_5 ⟨Nat.zero_le _, Nat.zero_le _⟩ (fun H locs G => ?_)
  refine lv_iconst (v := (0 : Int32)) hx hb dX0_countVotes_8 (by decide) ?_
  refine lv_istore_n (lv' := [(1, .int ((0 : Int32))), (0, .ref (ad x0))]) hx hb dX0_countVotes_9 rfl hl (by decide) rfl (fun ls hl => ?_)
  refine w_X0_countVotes_L10 X aw_FU hf  (fun d_15 hf H locs ls hl G => ?_) (lv_sub hl [1, 0] rfl) G
  exact aw_retv X G hf dX0_countVotes_47
def rm_X0_leaveOneOut : Room := { frames := 0, cells := 0, slots := 0, locals := 0 }
def f_X0_leaveOneOut_J43 (σ : Sg) (kb4 : Int32 → Int32 → Dt → Option (Unit × Dt)) (x0 : Nat) (x1 : Int32) (x2 : Int32) (d : Dt) : Option (Unit × Dt) :=
  kb4 x1 (x2 + 1) d
def f_X0_leaveOneOut_J41 (σ : Sg) (kb4 : Int32 → Int32 → Dt → Option (Unit × Dt)) (x0 : Nat) (x2 : Int32) (d : Dt) : Option (Unit × Dt) :=
  f_X0_leaveOneOut_J43 σ kb4 x0 x2 x2 d
def f_X0_leaveOneOut_B4 (σ : Sg) (kb4 : Int32 → Int32 → Dt → Option (Unit × Dt)) (k4 : Int32 → Dt → Option (Unit × Dt)) (x0 : Nat) (x1 : Int32) (x2 : Int32) (d : Dt) : Option (Unit × Dt) :=
  aw_chk (aw_O σ 0 7 x0) (if (d.1 x0 6) ≤ x2 then k4 x1 d else (σ.2.2 x0 5).bind (fun q_2 => aw_chk (aw_I σ 22 q_2 x2) (if (d.1 q_2 x2.toNatClampNeg) = 0 then if x1 = ((-1 : Int32)) then f_X0_leaveOneOut_J41 σ kb4 x0 x2 d else (σ.2.2 x0 4).bind (fun q_5 => aw_chk (aw_I σ 20 q_5 x2) (aw_chk (aw_I σ 20 q_5 x1) (if (d.1 q_5 x1.toNatClampNeg) < (d.1 q_5 x2.toNatClampNeg) then f_X0_leaveOneOut_J43 σ kb4 x0 x1 x2 d else f_X0_leaveOneOut_J41 σ kb4 x0 x2 d))) else f_X0_leaveOneOut_J43 σ kb4 x0 x1 x2 d)))
def f_X0_leaveOneOut_L4 (σ : Sg) (n : Nat) (k4 : Int32 → Dt → Option (Unit × Dt)) (x0 : Nat) : Int32 → Int32 → Dt → Option (Unit × Dt) := match n with
  | 0 => fun _ _ _ => none
  | n + 1 => fun x1 x2 d => f_X0_leaveOneOut_B4 σ (f_X0_leaveOneOut_L4 σ n k4 x0) k4 x0 x1 x2 d
def f_X0_leaveOneOut_J61 (σ : Sg)  (d : Dt) : Option (Unit × Dt) :=
  some ((), d)
def f_X0_leaveOneOut (σ : Sg) (x0 : Nat) (d : Dt) : Option (Unit × Dt) :=
  f_X0_leaveOneOut_L4 σ aw_FU (fun x1_9 d_10 => if x1_9 = ((-1 : Int32)) then f_X0_leaveOneOut_J61 σ d_10 else aw_chk (aw_O σ 0 7 x0) ((σ.2.2 x0 5).bind (fun q_12 => aw_chk (aw_I σ 22 q_12 x1_9) (f_X0_leaveOneOut_J61 σ (aw_sI d_10 q_12 x1_9.toNatClampNeg (vp_nar .boolean ((1 : Int32)))))))) x0 ((-1 : Int32)) ((0 : Int32)) d
section W_X0_leaveOneOut
variable {p : Program} {l : Launch} {e : Env} {s : State} {m : MethodId} {args : Array Value} {below : List Frame} {meth : Method} {c : Code}
variable {D : va_G} {cA : Nat → ClassId} {base : Nat} {ad : Nat → Nat} {σ : Sg}
set_option maxHeartbeats 4000000 in
set_option maxRecDepth 100000 in
theorem w_X0_leaveOneOut_J43 {z : Unit × Dt} (X : aw_X p c cX0_leaveOneOut 3 s RX0 m meth (none)) {kb4 : Int32 → Int32 → Dt → Option (Unit × Dt)} {x0 : Nat} {x1 : Int32} {x2 : Int32} {d : Dt} (hf : f_X0_leaveOneOut_J43 σ kb4 x0 x1 x2 d = some z) (hkb4 : ∀ (y1 : Int32) (y2 : Int32) (d : Dt), kb4 y1 y2 d = some z → ∀ (H : Heap) (locs : List Loc) (ls : Array Slot), lv_has ls 3 [(0, .ref (ad x0)), (1, .int y1), (2, .int y2)] → aw_G D cA base ad σ d s H locs → W p l e rm_X0_leaveOneOut s m args below meth c H locs 0 0 (aw_Ev D cA base ad σ below args s z) (F0 m 4 ls [])) {H : Heap} {locs : List Loc} {ls : Array Slot} (hl : lv_has ls 3 [(0, .ref (ad x0)), (1, .int x1), (2, .int x2)]) (G : aw_G D cA base ad σ d s H locs) : W p l e rm_X0_leaveOneOut s m args below meth c H locs 0 0 (aw_Ev D cA base ad σ below args s z) (F0 m 43 ls []) := by
  have hx := X.1; have hb := X.2.1; have hml := X.2.2.1; have hown := X.2.2.2.1
  unfold f_X0_leaveOneOut_J43 at hf
  refine lv_iinc (v := x2 + 1) (lv' := [(2, .int (x2 + 1)), (0, .ref (ad x0)), (1, .int x1)]) hx hb dX0_leaveOneOut_43 hl (k := 2) rfl rfl (by decide) rfl (fun ls hl => ?_)
  refine lv_goto (tgt := 4) hx hb dX0_leaveOneOut_46 (by decide) ?_
  exact hkb4 _ _ _ hf _ _ _ (lv_sub hl [1, 2, 0] rfl) G
set_option maxHeartbeats 4000000 in
set_option maxRecDepth 100000 in
theorem w_X0_leaveOneOut_J41 {z : Unit × Dt} (X : aw_X p c cX0_leaveOneOut 3 s RX0 m meth (none)) {kb4 : Int32 → Int32 → Dt → Option (Unit × Dt)} {x0 : Nat} {x2 : Int32} {d : Dt} (hf : f_X0_leaveOneOut_J41 σ kb4 x0 x2 d = some z) (hkb4 : ∀ (y1 : Int32) (y2 : Int32) (d : Dt), kb4 y1 y2 d = some z → ∀ (H : Heap) (locs : List Loc) (ls : Array Slot), lv_has ls 3 [(0, .ref (ad x0)), (1, .int y1), (2, .int y2)] → aw_G D cA base ad σ d s H locs → W p l e rm_X0_leaveOneOut s m args below meth c H locs 0 0 (aw_Ev D cA base ad σ below args s z) (F0 m 4 ls [])) {H : Heap} {locs : List Loc} {ls : Array Slot} (hl : lv_has ls 3 [(0, .ref (ad x0)), (2, .int x2)]) (G : aw_G D cA base ad σ d s H locs) : W p l e rm_X0_leaveOneOut s m args below meth c H locs 0 0 (aw_Ev D cA base ad σ below args s z) (F0 m 41 ls []) := by
  have hx := X.1; have hb := X.2.1; have hml := X.2.2.1; have hown := X.2.2.2.1
  unfold f_X0_leaveOneOut_J41 at hf
  refine lv_iload_n hx hb dX0_leaveOneOut_41 rfl (lv_at hl 1 rfl) ?_
  refine lv_istore_n (lv' := [(1, .int x2), (0, .ref (ad x0)), (2, .int x2)]) hx hb dX0_leaveOneOut_42 rfl hl (by decide) rfl (fun ls hl => ?_)
  exact w_X0_leaveOneOut_J43 X hf hkb4 (lv_sub hl [1, 0, 2] rfl) G
set_option maxHeartbeats 4000000 in
set_option maxRecDepth 100000 in
theorem w_X0_leaveOneOut_B4 {z : Unit × Dt} (X : aw_X p c cX0_leaveOneOut 3 s RX0 m meth (none)) {kb4 : Int32 → Int32 → Dt → Option (Unit × Dt)} {k4 : Int32 → Dt → Option (Unit × Dt)} {x0 : Nat} {x1 : Int32} {x2 : Int32} {d : Dt} (hf : f_X0_leaveOneOut_B4 σ kb4 k4 x0 x1 x2 d = some z) (hkb4 : ∀ (y1 : Int32) (y2 : Int32) (d : Dt), kb4 y1 y2 d = some z → ∀ (H : Heap) (locs : List Loc) (ls : Array Slot), lv_has ls 3 [(0, .ref (ad x0)), (1, .int y1), (2, .int y2)] → aw_G D cA base ad σ d s H locs → W p l e rm_X0_leaveOneOut s m args below meth c H locs 0 0 (aw_Ev D cA base ad σ below args s z) (F0 m 4 ls [])) (hk4 : ∀ (y1 : Int32) (d : Dt), k4 y1 d = some z → ∀ (H : Heap) (locs : List Loc) (ls : Array Slot), lv_has ls 3 [(0, .ref (ad x0)), (1, .int y1)] → aw_G D cA base ad σ d s H locs → W p l e rm_X0_leaveOneOut s m args below meth c H locs 0 0 (aw_Ev D cA base ad σ below args s z) (F0 m 49 ls [])) {H : Heap} {locs : List Loc} {ls : Array Slot} (hl : lv_has ls 3 [(0, .ref (ad x0)), (1, .int x1), (2, .int x2)]) (G : aw_G D cA base ad σ d s H locs) : W p l e rm_X0_leaveOneOut s m args below meth c H locs 0 0 (aw_Ev D cA base ad σ below args s z) (F0 m 4 ls []) := by
  have hx := X.1; have hb := X.2.1; have hml := X.2.2.1; have hown := X.2.2.2.1
  unfold f_X0_leaveOneOut_B4 at hf
  refine lv_iload_n hx hb dX0_leaveOneOut_4 rfl (lv_at hl 2 rfl) ?_
  refine lv_aload_n hx hb dX0_leaveOneOut_5 rfl (lv_at hl 0 rfl) ?_
  obtain ⟨hc_1, hf⟩ := aw_chk_some hf
  refine gf_X0_33 hx hb G hown hc_1 dX0_leaveOneOut_6 ?_
  refine lv_icmp_ge (tgt := 49) hx hb dX0_leaveOneOut_9 (by decide) (fun hc => ?_) (fun hc => ?_)
  · have hf := aw_ite_t hc hf
    exact hk4 _ _ hf _ _ _ (lv_sub hl [0, 1] rfl) G
  · have hf := aw_ite_f hc hf
    refine lv_aload_n hx hb dX0_leaveOneOut_12 rfl (lv_at hl 0 rfl) ?_
    obtain ⟨q_2, hq_3, hf⟩ := aw_bind_some hf
    refine gf_X0_29 hx hb G hown hc_1 hq_3 dX0_leaveOneOut_13 ?_
    refine lv_iload_n hx hb dX0_leaveOneOut_16 rfl (lv_at hl 2 rfl) ?_
    obtain ⟨hc_4, hf⟩ := aw_chk_some hf
    refine aw_zal hx hb G hc_4 dX0_leaveOneOut_17 ?_
    refine lv_if_ne (tgt := 43) hx hb dX0_leaveOneOut_18 (by decide) (fun hc => ?_) (fun hc => ?_)
    · have hf := aw_ite_f hc hf
      exact w_X0_leaveOneOut_J43 X hf hkb4 (lv_sub hl [0, 1, 2] rfl) G
    · have hf := aw_ite_t hc hf
      refine lv_iload_n hx hb dX0_leaveOneOut_21 rfl (lv_at hl 1 rfl) ?_
      refine lv_iconst (v := (-1 : Int32)) hx hb dX0_leaveOneOut_22 (by decide) ?_
      refine lv_icmp_eq (tgt := 41) hx hb dX0_leaveOneOut_23 (by decide) (fun hc => ?_) (fun hc => ?_)
      · have hf := aw_ite_t hc hf
        exact w_X0_leaveOneOut_J41 X hf hkb4 (lv_sub hl [0, 2] rfl) G
      · have hf := aw_ite_f hc hf
        refine lv_aload_n hx hb dX0_leaveOneOut_26 rfl (lv_at hl 0 rfl) ?_
        obtain ⟨q_5, hq_6, hf⟩ := aw_bind_some hf
        refine gf_X0_26 hx hb G hown hc_1 hq_6 dX0_leaveOneOut_27 ?_
        refine lv_iload_n hx hb dX0_leaveOneOut_30 rfl (lv_at hl 2 rfl) ?_
        obtain ⟨hc_7, hf⟩ := aw_chk_some hf
        refine aw_ial hx hb G hc_7 dX0_leaveOneOut_31 ?_
        refine lv_aload_n hx hb dX0_leaveOneOut_32 rfl (lv_at hl 0 rfl) ?_
        refine gf_X0_26 hx hb G hown hc_1 hq_6 dX0_leaveOneOut_33 ?_
        refine lv_iload_n hx hb dX0_leaveOneOut_36 rfl (lv_at hl 1 rfl) ?_
        obtain ⟨hc_8, hf⟩ := aw_chk_some hf
        refine aw_ial hx hb G hc_8 dX0_leaveOneOut_37 ?_
        refine lv_icmp_gt (tgt := 43) hx hb dX0_leaveOneOut_38 (by decide) (fun hc => ?_) (fun hc => ?_)
        · have hf := aw_ite_t hc hf
          exact w_X0_leaveOneOut_J43 X hf hkb4 (lv_sub hl [0, 1, 2] rfl) G
        · have hf := aw_ite_f hc hf
          exact w_X0_leaveOneOut_J41 X hf hkb4 (lv_sub hl [0, 2] rfl) G
theorem w_X0_leaveOneOut_L4 {z : Unit × Dt} (X : aw_X p c cX0_leaveOneOut 3 s RX0 m meth (none)) {k4 : Int32 → Dt → Option (Unit × Dt)} {x0 : Nat} (n : Nat) {x1 : Int32} {x2 : Int32} {d : Dt} (hf : f_X0_leaveOneOut_L4 σ n k4 x0 x1 x2 d = some z) (hk4 : ∀ (y1 : Int32) (d : Dt), k4 y1 d = some z → ∀ (H : Heap) (locs : List Loc) (ls : Array Slot), lv_has ls 3 [(0, .ref (ad x0)), (1, .int y1)] → aw_G D cA base ad σ d s H locs → W p l e rm_X0_leaveOneOut s m args below meth c H locs 0 0 (aw_Ev D cA base ad σ below args s z) (F0 m 49 ls [])) {H : Heap} {locs : List Loc} {ls : Array Slot} (hl : lv_has ls 3 [(0, .ref (ad x0)), (1, .int x1), (2, .int x2)]) (G : aw_G D cA base ad σ d s H locs) : W p l e rm_X0_leaveOneOut s m args below meth c H locs 0 0 (aw_Ev D cA base ad σ below args s z) (F0 m 4 ls []) := by
  induction n generalizing x1 x2 d H locs ls with
  | zero => exact absurd (show (none : Option (Unit × Dt)) = some z from hf) (by simp)
  | succ n ih => exact w_X0_leaveOneOut_B4 X (kb4 := f_X0_leaveOneOut_L4 σ n k4 x0) hf  (fun x1 x2 d hf H locs ls hl G => ih hf hl G) hk4 hl G
set_option maxHeartbeats 4000000 in
set_option maxRecDepth 100000 in
theorem w_X0_leaveOneOut_J61 {z : Unit × Dt} (X : aw_X p c cX0_leaveOneOut 3 s RX0 m meth (none))  {d : Dt} (hf : f_X0_leaveOneOut_J61 σ d = some z)  {H : Heap} {locs : List Loc} {ls : Array Slot} (hl : lv_has ls 3 []) (G : aw_G D cA base ad σ d s H locs) : W p l e rm_X0_leaveOneOut s m args below meth c H locs 0 0 (aw_Ev D cA base ad σ below args s z) (F0 m 61 ls []) := by
  have hx := X.1; have hb := X.2.1; have hml := X.2.2.1; have hown := X.2.2.2.1
  unfold f_X0_leaveOneOut_J61 at hf
  exact aw_retv X G hf dX0_leaveOneOut_61
end W_X0_leaveOneOut
set_option maxHeartbeats 4000000 in
set_option maxRecDepth 100000 in
theorem c_X0_leaveOneOut (l : Launch) {σ : Sg} {x0 : Nat} {d : Dt} {z : Unit × Dt} (hf : f_X0_leaveOneOut σ x0 d = some z) : aw_Mv l yX0_leaveOneOut (Cond.code yX0_leaveOneOut cX0_leaveOneOut 3 (none)) rm_X0_leaveOneOut (fun ad => [.ref (ad x0)]) σ d z := by
  intro D cA base ad
  refine aw_ofW (own := RX0) (cc := cX0_leaveOneOut) (nL := 3) (ret := none) (by decide) rfl rfl ?_
  intro p e s m below meth c X hnm G
  have hx := X.1; have hb := X.2.1; have hml := X.2.2.1; have hown := X.2.2.2.1
  refine aw_ls (lv := [(0, .ref (ad x0))]) (Nat.le_of_ble_eq_true rfl) rfl (fun ls hl => ?_)
  unfold f_X0_leaveOneOut at hf
  refine lv_iconst (v := (-1 : Int32)) hx hb dX0_leaveOneOut_0 (by decide) ?_
  refine lv_istore_n (lv' := [(1, .int ((-1 : Int32))), (0, .ref (ad x0))]) hx hb dX0_leaveOneOut_1 rfl hl (by decide) rfl (fun ls hl => ?_)
  refine lv_iconst (v := (0 : Int32)) hx hb dX0_leaveOneOut_2 (by decide) ?_
  refine lv_istore_n (lv' := [(2, .int ((0 : Int32))), (1, .int ((-1 : Int32))), (0, .ref (ad x0))]) hx hb dX0_leaveOneOut_3 rfl hl (by decide) rfl (fun ls hl => ?_)
  refine w_X0_leaveOneOut_L4 X aw_FU hf  (fun x1_9 d_10 hf H locs ls hl G => ?_) (lv_sub hl [2, 1, 0] rfl) G
  refine lv_iload_n hx hb dX0_leaveOneOut_49 rfl (lv_at hl 1 rfl) ?_
  refine lv_iconst (v := (-1 : Int32)) hx hb dX0_leaveOneOut_50 (by decide) ?_
  refine lv_icmp_eq (tgt := 61) hx hb dX0_leaveOneOut_51 (by decide) (fun hc => ?_) (fun hc => ?_)
  · have hf := aw_ite_t hc hf
    exact w_X0_leaveOneOut_J61 X hf  (lv_sub hl [] rfl) G
  · have hf := aw_ite_f hc hf
    refine lv_aload_n hx hb dX0_leaveOneOut_54 rfl (lv_at hl 0 rfl) ?_
    obtain ⟨hc_11, hf⟩ := aw_chk_some hf
    obtain ⟨q_12, hq_13, hf⟩ := aw_bind_some hf
    refine gf_X0_29 hx hb G hown hc_11 hq_13 dX0_leaveOneOut_55 ?_
    refine lv_iload_n hx hb dX0_leaveOneOut_58 rfl (lv_at hl 1 rfl) ?_
    refine lv_iconst (v := (1 : Int32)) hx hb dX0_leaveOneOut_59 (by decide) ?_
    obtain ⟨hc_14, hf⟩ := aw_chk_some hf
    refine aw_zas hx hb G hc_14 dX0_leaveOneOut_60 (fun H locs G => ?_)
    exact w_X0_leaveOneOut_J61 X hf  (lv_sub hl [] rfl) G
def rm_X0_winner : Room := { frames := 2, cells := 0, slots := 0, locals := 45 }
def f_X0_winner_B18 (σ : Sg) (kb18 : Int32 → Dt → Option (Int32 × Dt)) (k18 : Dt → Option (Int32 × Dt)) (x0 : Nat) (x1 : Int32) (x2 : Int32) (x3 : Int32) (d : Dt) : Option (Int32 × Dt) :=
  aw_chk (aw_O σ 0 7 x0) (if (d.1 x0 6) ≤ x3 then k18 d else (σ.2.2 x0 4).bind (fun q_8 => aw_chk (aw_I σ 20 q_8 x3) (if (((2 : Int32)) * (d.1 q_8 x3.toNatClampNeg)) ≤ x1 then kb18 (x3 + 1) d else some (x3, d))))
def f_X0_winner_L18 (σ : Sg) (n : Nat) (k18 : Dt → Option (Int32 × Dt)) (x0 : Nat) (x1 : Int32) (x2 : Int32) : Int32 → Dt → Option (Int32 × Dt) := match n with
  | 0 => fun _ _ => none
  | n + 1 => fun x3 d => f_X0_winner_B18 σ (f_X0_winner_L18 σ n k18 x0 x1 x2) k18 x0 x1 x2 x3 d
def f_X0_winner_B7 (σ : Sg) (kb7 : Int32 → Dt → Option (Int32 × Dt)) (k7 : Dt → Option (Int32 × Dt)) (x0 : Nat) (x1 : Int32) (x2 : Int32) (d : Dt) : Option (Int32 × Dt) :=
  if ((5 : Int32)) ≤ x2 then k7 d else aw_chk (aw_O σ 0 7 x0) ((f_X0_countVotes σ x0 d).bind (fun z_4 => f_X0_winner_L18 σ aw_FU (fun d_11 => (f_X0_leaveOneOut σ x0 d_11).bind (fun z_12 => kb7 (x2 + 1) z_12.2)) x0 x1 x2 ((0 : Int32)) z_4.2))
def f_X0_winner_L7 (σ : Sg) (n : Nat) (k7 : Dt → Option (Int32 × Dt)) (x0 : Nat) (x1 : Int32) : Int32 → Dt → Option (Int32 × Dt) := match n with
  | 0 => fun _ _ => none
  | n + 1 => fun x2 d => f_X0_winner_B7 σ (f_X0_winner_L7 σ n k7 x0 x1) k7 x0 x1 x2 d
def f_X0_winner (σ : Sg) (x0 : Nat) (d : Dt) : Option (Int32 × Dt) :=
  aw_chk (aw_O σ 0 7 x0) ((f_X0_allPeople σ x0 d).bind (fun z_1 => f_X0_winner_L7 σ aw_FU (fun d_14 => some ((-1 : Int32), d_14)) x0 z_1.1 ((0 : Int32)) z_1.2))
section W_X0_winner
variable {p : Program} {l : Launch} {e : Env} {s : State} {m : MethodId} {args : Array Value} {below : List Frame} {meth : Method} {c : Code}
variable {D : va_G} {cA : Nat → ClassId} {base : Nat} {ad : Nat → Nat} {σ : Sg}
set_option maxHeartbeats 4000000 in
set_option maxRecDepth 100000 in
theorem w_X0_winner_B18 {z : Int32 × Dt} (X : aw_X p c cX0_winner 4 s RX0 m meth (some .int)) {kb18 : Int32 → Dt → Option (Int32 × Dt)} {k18 : Dt → Option (Int32 × Dt)} {x0 : Nat} {x1 : Int32} {x2 : Int32} {x3 : Int32} {d : Dt} (hf : f_X0_winner_B18 σ kb18 k18 x0 x1 x2 x3 d = some z) (hkb18 : ∀ (y3 : Int32) (d : Dt), kb18 y3 d = some z → ∀ (H : Heap) (locs : List Loc) (ls : Array Slot), lv_has ls 4 [(0, .ref (ad x0)), (1, .int x1), (2, .int x2), (3, .int y3)] → aw_G D cA base ad σ d s H locs → W p l e rm_X0_winner s m args below meth c H locs 0 0 (aw_Ei D cA base ad σ below args s z) (F0 m 18 ls [])) (hk18 : ∀ (d : Dt), k18 d = some z → ∀ (H : Heap) (locs : List Loc) (ls : Array Slot), lv_has ls 4 [(0, .ref (ad x0)), (1, .int x1), (2, .int x2)] → aw_G D cA base ad σ d s H locs → W p l e rm_X0_winner s m args below meth c H locs 0 0 (aw_Ei D cA base ad σ below args s z) (F0 m 46 ls [])) {H : Heap} {locs : List Loc} {ls : Array Slot} (hl : lv_has ls 4 [(0, .ref (ad x0)), (1, .int x1), (2, .int x2), (3, .int x3)]) (G : aw_G D cA base ad σ d s H locs) : W p l e rm_X0_winner s m args below meth c H locs 0 0 (aw_Ei D cA base ad σ below args s z) (F0 m 18 ls []) := by
  have hx := X.1; have hb := X.2.1; have hml := X.2.2.1; have hown := X.2.2.2.1
  unfold f_X0_winner_B18 at hf
  refine lv_iload_n hx hb dX0_winner_18 rfl (lv_at hl 3 rfl) ?_
  refine lv_aload_n hx hb dX0_winner_19 rfl (lv_at hl 0 rfl) ?_
  obtain ⟨hc_7, hf⟩ := aw_chk_some hf
  refine gf_X0_33 hx hb G hown hc_7 dX0_winner_20 ?_
  refine lv_icmp_ge (tgt := 46) hx hb dX0_winner_23 (by decide) (fun hc => ?_) (fun hc => ?_)
  · have hf := aw_ite_t hc hf
    exact hk18 _ hf _ _ _ (lv_sub hl [0, 1, 2] rfl) G
  · have hf := aw_ite_f hc hf
    refine lv_iconst (v := (2 : Int32)) hx hb dX0_winner_26 (by decide) ?_
    refine lv_aload_n hx hb dX0_winner_27 rfl (lv_at hl 0 rfl) ?_
    obtain ⟨q_8, hq_9, hf⟩ := aw_bind_some hf
    refine gf_X0_26 hx hb G hown hc_7 hq_9 dX0_winner_28 ?_
    refine lv_iload_n hx hb dX0_winner_31 rfl (lv_at hl 3 rfl) ?_
    obtain ⟨hc_10, hf⟩ := aw_chk_some hf
    refine aw_ial hx hb G hc_10 dX0_winner_32 ?_
    refine lv_imul hx hb dX0_winner_33 ?_
    refine lv_iload_n hx hb dX0_winner_34 rfl (lv_at hl 1 rfl) ?_
    refine lv_icmp_le (tgt := 40) hx hb dX0_winner_35 (by decide) (fun hc => ?_) (fun hc => ?_)
    · have hf := aw_ite_t hc hf
      refine lv_iinc (v := x3 + 1) (lv' := [(3, .int (x3 + 1)), (0, .ref (ad x0)), (1, .int x1), (2, .int x2)]) hx hb dX0_winner_40 hl (k := 3) rfl rfl (by decide) rfl (fun ls hl => ?_)
      refine lv_goto (tgt := 18) hx hb dX0_winner_43 (by decide) ?_
      exact hkb18 _ _ hf _ _ _ (lv_sub hl [1, 2, 3, 0] rfl) G
    · have hf := aw_ite_f hc hf
      refine lv_iload_n hx hb dX0_winner_38 rfl (lv_at hl 3 rfl) ?_
      exact aw_reti X G hf dX0_winner_39
theorem w_X0_winner_L18 {z : Int32 × Dt} (X : aw_X p c cX0_winner 4 s RX0 m meth (some .int)) {k18 : Dt → Option (Int32 × Dt)} {x0 : Nat} {x1 : Int32} {x2 : Int32} (n : Nat) {x3 : Int32} {d : Dt} (hf : f_X0_winner_L18 σ n k18 x0 x1 x2 x3 d = some z) (hk18 : ∀ (d : Dt), k18 d = some z → ∀ (H : Heap) (locs : List Loc) (ls : Array Slot), lv_has ls 4 [(0, .ref (ad x0)), (1, .int x1), (2, .int x2)] → aw_G D cA base ad σ d s H locs → W p l e rm_X0_winner s m args below meth c H locs 0 0 (aw_Ei D cA base ad σ below args s z) (F0 m 46 ls [])) {H : Heap} {locs : List Loc} {ls : Array Slot} (hl : lv_has ls 4 [(0, .ref (ad x0)), (1, .int x1), (2, .int x2), (3, .int x3)]) (G : aw_G D cA base ad σ d s H locs) : W p l e rm_X0_winner s m args below meth c H locs 0 0 (aw_Ei D cA base ad σ below args s z) (F0 m 18 ls []) := by
  induction n generalizing x3 d H locs ls with
  | zero => exact absurd (show (none : Option (Int32 × Dt)) = some z from hf) (by simp)
  | succ n ih => exact w_X0_winner_B18 X (kb18 := f_X0_winner_L18 σ n k18 x0 x1 x2) hf  (fun x3 d hf H locs ls hl G => ih hf hl G) hk18 hl G
set_option maxHeartbeats 4000000 in
set_option maxRecDepth 100000 in
theorem w_X0_winner_B7 {z : Int32 × Dt} (X : aw_X p c cX0_winner 4 s RX0 m meth (some .int)) {kb7 : Int32 → Dt → Option (Int32 × Dt)} {k7 : Dt → Option (Int32 × Dt)} {x0 : Nat} {x1 : Int32} {x2 : Int32} {d : Dt} (hf : f_X0_winner_B7 σ kb7 k7 x0 x1 x2 d = some z) (hkb7 : ∀ (y2 : Int32) (d : Dt), kb7 y2 d = some z → ∀ (H : Heap) (locs : List Loc) (ls : Array Slot), lv_has ls 4 [(0, .ref (ad x0)), (1, .int x1), (2, .int y2)] → aw_G D cA base ad σ d s H locs → W p l e rm_X0_winner s m args below meth c H locs 0 0 (aw_Ei D cA base ad σ below args s z) (F0 m 7 ls [])) (hk7 : ∀ (d : Dt), k7 d = some z → ∀ (H : Heap) (locs : List Loc) (ls : Array Slot), lv_has ls 4 [] → aw_G D cA base ad σ d s H locs → W p l e rm_X0_winner s m args below meth c H locs 0 0 (aw_Ei D cA base ad σ below args s z) (F0 m 56 ls [])) {H : Heap} {locs : List Loc} {ls : Array Slot} (hl : lv_has ls 4 [(0, .ref (ad x0)), (1, .int x1), (2, .int x2)]) (G : aw_G D cA base ad σ d s H locs) : W p l e rm_X0_winner s m args below meth c H locs 0 0 (aw_Ei D cA base ad σ below args s z) (F0 m 7 ls []) := by
  have hx := X.1; have hb := X.2.1; have hml := X.2.2.1; have hown := X.2.2.2.1
  unfold f_X0_winner_B7 at hf
  refine lv_iload_n hx hb dX0_winner_7 rfl (lv_at hl 2 rfl) ?_
  refine lv_iconst (v := (5 : Int32)) hx hb dX0_winner_8 (by decide) ?_
  refine lv_icmp_ge (tgt := 56) hx hb dX0_winner_9 (by decide) (fun hc => ?_) (fun hc => ?_)
  · have hf := aw_ite_t hc hf
    exact hk7 _ hf _ _ _ (lv_sub hl [] rfl) G
  · have hf := aw_ite_f hc hf
    refine lv_aload_n hx hb dX0_winner_12 rfl (lv_at hl 0 rfl) ?_
    obtain ⟨hc_6, hf⟩ := aw_chk_some hf
    obtain ⟨z_4, hz_5, hf⟩ := aw_bind_some hf
    refine aw_VV (As := []) (rest := []) X G hl.1 cr_X0_51 (c_X0_countVotes l hz_5) ⟨rfl, rfl⟩ rfl rfl rfl (by decide) hc_6 rfl ⟨Nat.le_of_ble_eq_true rfl, Nat.le_of_ble_eq_true rfl⟩ (Nat.le_of_ble_eq_true rfl) dX0_winner_13 ⟨Nat.zero_le _, Nat.zero_le _⟩ (fun H locs G => ?_)
    refine lv_iconst (v := (0 : Int32)) hx hb dX0_winner_16 (by decide) ?_
    refine lv_istore_n (lv' := [(3, .int ((0 : Int32))), (0, .ref (ad x0)), (1, .int x1), (2, .int x2)]) hx hb dX0_winner_17 rfl hl (by decide) rfl (fun ls hl => ?_)
    refine w_X0_winner_L18 X aw_FU hf  (fun d_11 hf H locs ls hl G => ?_) (lv_sub hl [1, 2, 3, 0] rfl) G
    refine lv_aload_n hx hb dX0_winner_46 rfl (lv_at hl 0 rfl) ?_
    obtain ⟨z_12, hz_13, hf⟩ := aw_bind_some hf
    refine aw_VV (As := []) (rest := []) X G hl.1 cr_X0_54 (c_X0_leaveOneOut l hz_13) ⟨rfl, rfl⟩ rfl rfl rfl (by decide) hc_6 rfl ⟨Nat.le_of_ble_eq_true rfl, Nat.le_of_ble_eq_true rfl⟩ (Nat.le_of_ble_eq_true rfl) dX0_winner_47 ⟨Nat.zero_le _, Nat.zero_le _⟩ (fun H locs G => ?_)
    refine lv_iinc (v := x2 + 1) (lv' := [(2, .int (x2 + 1)), (0, .ref (ad x0)), (1, .int x1)]) hx hb dX0_winner_50 hl (k := 2) rfl rfl (by decide) rfl (fun ls hl => ?_)
    refine lv_goto (tgt := 7) hx hb dX0_winner_53 (by decide) ?_
    exact hkb7 _ _ hf _ _ _ (lv_sub hl [1, 2, 0] rfl) G
theorem w_X0_winner_L7 {z : Int32 × Dt} (X : aw_X p c cX0_winner 4 s RX0 m meth (some .int)) {k7 : Dt → Option (Int32 × Dt)} {x0 : Nat} {x1 : Int32} (n : Nat) {x2 : Int32} {d : Dt} (hf : f_X0_winner_L7 σ n k7 x0 x1 x2 d = some z) (hk7 : ∀ (d : Dt), k7 d = some z → ∀ (H : Heap) (locs : List Loc) (ls : Array Slot), lv_has ls 4 [] → aw_G D cA base ad σ d s H locs → W p l e rm_X0_winner s m args below meth c H locs 0 0 (aw_Ei D cA base ad σ below args s z) (F0 m 56 ls [])) {H : Heap} {locs : List Loc} {ls : Array Slot} (hl : lv_has ls 4 [(0, .ref (ad x0)), (1, .int x1), (2, .int x2)]) (G : aw_G D cA base ad σ d s H locs) : W p l e rm_X0_winner s m args below meth c H locs 0 0 (aw_Ei D cA base ad σ below args s z) (F0 m 7 ls []) := by
  induction n generalizing x2 d H locs ls with
  | zero => exact absurd (show (none : Option (Int32 × Dt)) = some z from hf) (by simp)
  | succ n ih => exact w_X0_winner_B7 X (kb7 := f_X0_winner_L7 σ n k7 x0 x1) hf  (fun x2 d hf H locs ls hl G => ih hf hl G) hk7 hl G
end W_X0_winner
set_option maxHeartbeats 4000000 in
set_option maxRecDepth 100000 in
theorem c_X0_winner (l : Launch) {σ : Sg} {x0 : Nat} {d : Dt} {z : Int32 × Dt} (hf : f_X0_winner σ x0 d = some z) : aw_Mi l yX0_winner (Cond.code yX0_winner cX0_winner 4 (some .int)) rm_X0_winner (fun ad => [.ref (ad x0)]) σ d z := by
  intro D cA base ad
  refine aw_ofW (own := RX0) (cc := cX0_winner) (nL := 4) (ret := some .int) (by decide) rfl rfl ?_
  intro p e s m below meth c X hnm G
  have hx := X.1; have hb := X.2.1; have hml := X.2.2.1; have hown := X.2.2.2.1
  refine aw_ls (lv := [(0, .ref (ad x0))]) (Nat.le_of_ble_eq_true rfl) rfl (fun ls hl => ?_)
  unfold f_X0_winner at hf
  refine lv_aload_n hx hb dX0_winner_0 rfl (lv_at hl 0 rfl) ?_
  obtain ⟨hc_3, hf⟩ := aw_chk_some hf
  obtain ⟨z_1, hz_2, hf⟩ := aw_bind_some hf
  refine aw_VI (As := []) (rest := []) X G hl.1 cr_X0_47 (c_X0_allPeople l hz_2) ⟨rfl, rfl⟩ rfl rfl rfl (by decide) hc_3 rfl ⟨Nat.le_of_ble_eq_true rfl, Nat.le_of_ble_eq_true rfl⟩ (Nat.le_of_ble_eq_true rfl) dX0_winner_1 ⟨Nat.zero_le _, Nat.zero_le _⟩ (fun H locs G => ?_)
  refine lv_istore_n (lv' := [(1, .int z_1.1), (0, .ref (ad x0))]) hx hb dX0_winner_4 rfl hl (by decide) rfl (fun ls hl => ?_)
  refine lv_iconst (v := (0 : Int32)) hx hb dX0_winner_5 (by decide) ?_
  refine lv_istore_n (lv' := [(2, .int ((0 : Int32))), (1, .int z_1.1), (0, .ref (ad x0))]) hx hb dX0_winner_6 rfl hl (by decide) rfl (fun ls hl => ?_)
  refine w_X0_winner_L7 X aw_FU hf  (fun d_14 hf H locs ls hl G => ?_) (lv_sub hl [2, 1, 0] rfl) G
  refine lv_iconst (v := (-1 : Int32)) hx hb dX0_winner_56 (by decide) ?_
  exact aw_reti X G hf dX0_winner_57
def rm_X1_hasUnit : Room := { frames := 0, cells := 0, slots := 0, locals := 0 }
def f_X1_hasUnit_J10 (σ : Sg)  (d : Dt) : Option (Int32 × Dt) :=
  aw_chk (((0 : Int32)) &&& 1 = ((0 : Int32))) (some ((0 : Int32), d))
def f_X1_hasUnit_J37 (σ : Sg) (t0 : Int32) (d : Dt) : Option (Int32 × Dt) :=
  aw_chk (t0 &&& 1 = t0) (some (t0, d))
def f_X1_hasUnit_J32 (σ : Sg)  (d : Dt) : Option (Int32 × Dt) :=
  f_X1_hasUnit_J37 σ ((1 : Int32)) d
def f_X1_hasUnit (σ : Sg) (x0 : Nat) (x1 : Int32) (d : Dt) : Option (Int32 × Dt) :=
  if x1 < 0 then f_X1_hasUnit_J10 σ d else if x1 < ((47 : Int32)) then aw_chk (aw_O σ 1 5 x0) (if (d.1 x0 0) = ((1 : Int32)) then f_X1_hasUnit_J32 σ d else if x1 < ((12 : Int32)) then f_X1_hasUnit_J32 σ d else if x1 < ((44 : Int32)) then f_X1_hasUnit_J37 σ ((0 : Int32)) d else f_X1_hasUnit_J32 σ d) else f_X1_hasUnit_J10 σ d
section W_X1_hasUnit
variable {p : Program} {l : Launch} {e : Env} {s : State} {m : MethodId} {args : Array Value} {below : List Frame} {meth : Method} {c : Code}
variable {D : va_G} {cA : Nat → ClassId} {base : Nat} {ad : Nat → Nat} {σ : Sg}
set_option maxHeartbeats 4000000 in
set_option maxRecDepth 100000 in
theorem w_X1_hasUnit_J10 {z : Int32 × Dt} (X : aw_X p c cX1_hasUnit 2 s RX1 m meth (some .boolean))  {d : Dt} (hf : f_X1_hasUnit_J10 σ d = some z)  {H : Heap} {locs : List Loc} {ls : Array Slot} (hl : lv_has ls 2 []) (G : aw_G D cA base ad σ d s H locs) : W p l e rm_X1_hasUnit s m args below meth c H locs 0 0 (aw_Ei D cA base ad σ below args s z) (F0 m 10 ls []) := by
  have hx := X.1; have hb := X.2.1; have hml := X.2.2.1; have hown := X.2.2.2.1
  unfold f_X1_hasUnit_J10 at hf
  refine lv_iconst (v := (0 : Int32)) hx hb dX1_hasUnit_10 (by decide) ?_
  obtain ⟨hc_1, hf⟩ := aw_chk_some hf
  exact aw_retz X G hc_1 hf dX1_hasUnit_11
set_option maxHeartbeats 4000000 in
set_option maxRecDepth 100000 in
theorem w_X1_hasUnit_J37 {z : Int32 × Dt} (X : aw_X p c cX1_hasUnit 2 s RX1 m meth (some .boolean)) {t0 : Int32} {d : Dt} (hf : f_X1_hasUnit_J37 σ t0 d = some z)  {H : Heap} {locs : List Loc} {ls : Array Slot} (hl : lv_has ls 2 []) (G : aw_G D cA base ad σ d s H locs) : W p l e rm_X1_hasUnit s m args below meth c H locs 0 0 (aw_Ei D cA base ad σ below args s z) (F0 m 37 ls [.int t0]) := by
  have hx := X.1; have hb := X.2.1; have hml := X.2.2.1; have hown := X.2.2.2.1
  unfold f_X1_hasUnit_J37 at hf
  obtain ⟨hc_3, hf⟩ := aw_chk_some hf
  exact aw_retz X G hc_3 hf dX1_hasUnit_37
set_option maxHeartbeats 4000000 in
set_option maxRecDepth 100000 in
theorem w_X1_hasUnit_J32 {z : Int32 × Dt} (X : aw_X p c cX1_hasUnit 2 s RX1 m meth (some .boolean))  {d : Dt} (hf : f_X1_hasUnit_J32 σ d = some z)  {H : Heap} {locs : List Loc} {ls : Array Slot} (hl : lv_has ls 2 []) (G : aw_G D cA base ad σ d s H locs) : W p l e rm_X1_hasUnit s m args below meth c H locs 0 0 (aw_Ei D cA base ad σ below args s z) (F0 m 32 ls []) := by
  have hx := X.1; have hb := X.2.1; have hml := X.2.2.1; have hown := X.2.2.2.1
  unfold f_X1_hasUnit_J32 at hf
  refine lv_iconst (v := (1 : Int32)) hx hb dX1_hasUnit_32 (by decide) ?_
  refine lv_goto (tgt := 37) hx hb dX1_hasUnit_33 (by decide) ?_
  exact w_X1_hasUnit_J37 X hf  (lv_sub hl [] rfl) G
end W_X1_hasUnit
set_option maxHeartbeats 4000000 in
set_option maxRecDepth 100000 in
theorem c_X1_hasUnit (l : Launch) {σ : Sg} {x0 : Nat} {x1 : Int32} {d : Dt} {z : Int32 × Dt} (hf : f_X1_hasUnit σ x0 x1 d = some z) : aw_Mi l yX1_hasUnit (Cond.code yX1_hasUnit cX1_hasUnit 2 (some .boolean)) rm_X1_hasUnit (fun ad => [.ref (ad x0), .int x1]) σ d z := by
  intro D cA base ad
  refine aw_ofW (own := RX1) (cc := cX1_hasUnit) (nL := 2) (ret := some .boolean) (by decide) rfl rfl ?_
  intro p e s m below meth c X hnm G
  have hx := X.1; have hb := X.2.1; have hml := X.2.2.1; have hown := X.2.2.2.1
  refine aw_ls (lv := [(0, .ref (ad x0)), (1, .int x1)]) (Nat.le_of_ble_eq_true rfl) rfl (fun ls hl => ?_)
  unfold f_X1_hasUnit at hf
  refine lv_iload_n hx hb dX1_hasUnit_0 rfl (lv_at hl 1 rfl) ?_
  refine lv_if_lt (tgt := 10) hx hb dX1_hasUnit_1 (by decide) (fun hc => ?_) (fun hc => ?_)
  · have hf := aw_ite_t hc hf
    exact w_X1_hasUnit_J10 X hf  (lv_sub hl [] rfl) G
  · have hf := aw_ite_f hc hf
    refine lv_iload_n hx hb dX1_hasUnit_4 rfl (lv_at hl 1 rfl) ?_
    refine lv_bipush (v := (47 : Int32)) hx hb dX1_hasUnit_5 (by decide) ?_
    refine lv_icmp_lt (tgt := 12) hx hb dX1_hasUnit_7 (by decide) (fun hc => ?_) (fun hc => ?_)
    · have hf := aw_ite_t hc hf
      refine lv_aload_n hx hb dX1_hasUnit_12 rfl (lv_at hl 0 rfl) ?_
      obtain ⟨hc_2, hf⟩ := aw_chk_some hf
      refine gf_X1_22 hx hb G hown hc_2 dX1_hasUnit_13 ?_
      refine lv_iconst (v := (1 : Int32)) hx hb dX1_hasUnit_16 (by decide) ?_
      refine lv_icmp_eq (tgt := 32) hx hb dX1_hasUnit_17 (by decide) (fun hc => ?_) (fun hc => ?_)
      · have hf := aw_ite_t hc hf
        exact w_X1_hasUnit_J32 X hf  (lv_sub hl [] rfl) G
      · have hf := aw_ite_f hc hf
        refine lv_iload_n hx hb dX1_hasUnit_20 rfl (lv_at hl 1 rfl) ?_
        refine lv_bipush (v := (12 : Int32)) hx hb dX1_hasUnit_21 (by decide) ?_
        refine lv_icmp_lt (tgt := 32) hx hb dX1_hasUnit_23 (by decide) (fun hc => ?_) (fun hc => ?_)
        · have hf := aw_ite_t hc hf
          exact w_X1_hasUnit_J32 X hf  (lv_sub hl [] rfl) G
        · have hf := aw_ite_f hc hf
          refine lv_iload_n hx hb dX1_hasUnit_26 rfl (lv_at hl 1 rfl) ?_
          refine lv_bipush (v := (44 : Int32)) hx hb dX1_hasUnit_27 (by decide) ?_
          refine lv_icmp_lt (tgt := 36) hx hb dX1_hasUnit_29 (by decide) (fun hc => ?_) (fun hc => ?_)
          · have hf := aw_ite_t hc hf
            refine lv_iconst (v := (0 : Int32)) hx hb dX1_hasUnit_36 (by decide) ?_
            exact w_X1_hasUnit_J37 X hf  (lv_sub hl [] rfl) G
          · have hf := aw_ite_f hc hf
            exact w_X1_hasUnit_J32 X hf  (lv_sub hl [] rfl) G
    · have hf := aw_ite_f hc hf
      exact w_X1_hasUnit_J10 X hf  (lv_sub hl [] rfl) G
def rm_X1_othersHave : Room := { frames := 1, cells := 0, slots := 0, locals := 21 }
def f_X1_othersHave_J33 (σ : Sg) (kb2 : Int32 → Dt → Option (Int32 × Dt)) (x0 : Nat) (x1 : Int32) (x2 : Int32) (x3 : Int32) (d : Dt) : Option (Int32 × Dt) :=
  kb2 (x3 + 1) d
def f_X1_othersHave_B2 (σ : Sg) (kb2 : Int32 → Dt → Option (Int32 × Dt)) (k2 : Dt → Option (Int32 × Dt)) (x0 : Nat) (x1 : Int32) (x2 : Int32) (x3 : Int32) (d : Dt) : Option (Int32 × Dt) :=
  if ((47 : Int32)) ≤ x3 then k2 d else if x3 = x1 then f_X1_othersHave_J33 σ kb2 x0 x1 x2 x3 d else aw_chk (aw_O σ 1 5 x0) ((f_X1_hasUnit σ x0 x3 d).bind (fun z_1 => if z_1.1 = 0 then f_X1_othersHave_J33 σ kb2 x0 x1 x2 x3 z_1.2 else (σ.2.2 x0 2).bind (fun q_4 => aw_chk (aw_I σ 20 q_4 x3) (if (z_1.2.1 q_4 x3.toNatClampNeg) = x2 then aw_chk (((1 : Int32)) &&& 1 = ((1 : Int32))) (some ((1 : Int32), z_1.2)) else f_X1_othersHave_J33 σ kb2 x0 x1 x2 x3 z_1.2))))
def f_X1_othersHave_L2 (σ : Sg) (n : Nat) (k2 : Dt → Option (Int32 × Dt)) (x0 : Nat) (x1 : Int32) (x2 : Int32) : Int32 → Dt → Option (Int32 × Dt) := match n with
  | 0 => fun _ _ => none
  | n + 1 => fun x3 d => f_X1_othersHave_B2 σ (f_X1_othersHave_L2 σ n k2 x0 x1 x2) k2 x0 x1 x2 x3 d
def f_X1_othersHave (σ : Sg) (x0 : Nat) (x1 : Int32) (x2 : Int32) (d : Dt) : Option (Int32 × Dt) :=
  f_X1_othersHave_L2 σ aw_FU (fun d_8 => aw_chk (((0 : Int32)) &&& 1 = ((0 : Int32))) (some ((0 : Int32), d_8))) x0 x1 x2 ((0 : Int32)) d
section W_X1_othersHave
variable {p : Program} {l : Launch} {e : Env} {s : State} {m : MethodId} {args : Array Value} {below : List Frame} {meth : Method} {c : Code}
variable {D : va_G} {cA : Nat → ClassId} {base : Nat} {ad : Nat → Nat} {σ : Sg}
set_option maxHeartbeats 4000000 in
set_option maxRecDepth 100000 in
theorem w_X1_othersHave_J33 {z : Int32 × Dt} (X : aw_X p c cX1_othersHave 4 s RX1 m meth (some .boolean)) {kb2 : Int32 → Dt → Option (Int32 × Dt)} {x0 : Nat} {x1 : Int32} {x2 : Int32} {x3 : Int32} {d : Dt} (hf : f_X1_othersHave_J33 σ kb2 x0 x1 x2 x3 d = some z) (hkb2 : ∀ (y3 : Int32) (d : Dt), kb2 y3 d = some z → ∀ (H : Heap) (locs : List Loc) (ls : Array Slot), lv_has ls 4 [(0, .ref (ad x0)), (1, .int x1), (2, .int x2), (3, .int y3)] → aw_G D cA base ad σ d s H locs → W p l e rm_X1_othersHave s m args below meth c H locs 0 0 (aw_Ei D cA base ad σ below args s z) (F0 m 2 ls [])) {H : Heap} {locs : List Loc} {ls : Array Slot} (hl : lv_has ls 4 [(0, .ref (ad x0)), (1, .int x1), (2, .int x2), (3, .int x3)]) (G : aw_G D cA base ad σ d s H locs) : W p l e rm_X1_othersHave s m args below meth c H locs 0 0 (aw_Ei D cA base ad σ below args s z) (F0 m 33 ls []) := by
  have hx := X.1; have hb := X.2.1; have hml := X.2.2.1; have hown := X.2.2.2.1
  unfold f_X1_othersHave_J33 at hf
  refine lv_iinc (v := x3 + 1) (lv' := [(3, .int (x3 + 1)), (0, .ref (ad x0)), (1, .int x1), (2, .int x2)]) hx hb dX1_othersHave_33 hl (k := 3) rfl rfl (by decide) rfl (fun ls hl => ?_)
  refine lv_goto (tgt := 2) hx hb dX1_othersHave_36 (by decide) ?_
  exact hkb2 _ _ hf _ _ _ (lv_sub hl [1, 2, 3, 0] rfl) G
set_option maxHeartbeats 4000000 in
set_option maxRecDepth 100000 in
theorem w_X1_othersHave_B2 {z : Int32 × Dt} (X : aw_X p c cX1_othersHave 4 s RX1 m meth (some .boolean)) {kb2 : Int32 → Dt → Option (Int32 × Dt)} {k2 : Dt → Option (Int32 × Dt)} {x0 : Nat} {x1 : Int32} {x2 : Int32} {x3 : Int32} {d : Dt} (hf : f_X1_othersHave_B2 σ kb2 k2 x0 x1 x2 x3 d = some z) (hkb2 : ∀ (y3 : Int32) (d : Dt), kb2 y3 d = some z → ∀ (H : Heap) (locs : List Loc) (ls : Array Slot), lv_has ls 4 [(0, .ref (ad x0)), (1, .int x1), (2, .int x2), (3, .int y3)] → aw_G D cA base ad σ d s H locs → W p l e rm_X1_othersHave s m args below meth c H locs 0 0 (aw_Ei D cA base ad σ below args s z) (F0 m 2 ls [])) (hk2 : ∀ (d : Dt), k2 d = some z → ∀ (H : Heap) (locs : List Loc) (ls : Array Slot), lv_has ls 4 [] → aw_G D cA base ad σ d s H locs → W p l e rm_X1_othersHave s m args below meth c H locs 0 0 (aw_Ei D cA base ad σ below args s z) (F0 m 39 ls [])) {H : Heap} {locs : List Loc} {ls : Array Slot} (hl : lv_has ls 4 [(0, .ref (ad x0)), (1, .int x1), (2, .int x2), (3, .int x3)]) (G : aw_G D cA base ad σ d s H locs) : W p l e rm_X1_othersHave s m args below meth c H locs 0 0 (aw_Ei D cA base ad σ below args s z) (F0 m 2 ls []) := by
  have hx := X.1; have hb := X.2.1; have hml := X.2.2.1; have hown := X.2.2.2.1
  unfold f_X1_othersHave_B2 at hf
  refine lv_iload_n hx hb dX1_othersHave_2 rfl (lv_at hl 3 rfl) ?_
  refine lv_bipush (v := (47 : Int32)) hx hb dX1_othersHave_3 (by decide) ?_
  refine lv_icmp_ge (tgt := 39) hx hb dX1_othersHave_5 (by decide) (fun hc => ?_) (fun hc => ?_)
  · have hf := aw_ite_t hc hf
    exact hk2 _ hf _ _ _ (lv_sub hl [] rfl) G
  · have hf := aw_ite_f hc hf
    refine lv_iload_n hx hb dX1_othersHave_8 rfl (lv_at hl 3 rfl) ?_
    refine lv_iload_n hx hb dX1_othersHave_9 rfl (lv_at hl 1 rfl) ?_
    refine lv_icmp_eq (tgt := 33) hx hb dX1_othersHave_10 (by decide) (fun hc => ?_) (fun hc => ?_)
    · have hf := aw_ite_t hc hf
      exact w_X1_othersHave_J33 X hf hkb2 (lv_sub hl [0, 1, 2, 3] rfl) G
    · have hf := aw_ite_f hc hf
      refine lv_aload_n hx hb dX1_othersHave_13 rfl (lv_at hl 0 rfl) ?_
      refine lv_iload_n hx hb dX1_othersHave_14 rfl (lv_at hl 3 rfl) ?_
      obtain ⟨hc_3, hf⟩ := aw_chk_some hf
      obtain ⟨z_1, hz_2, hf⟩ := aw_bind_some hf
      refine aw_VI (As := [.int x3]) (rest := []) X G hl.1 cr_X1_29 (c_X1_hasUnit l hz_2) ⟨rfl, rfl⟩ rfl rfl rfl (by decide) hc_3 rfl ⟨Nat.le_of_ble_eq_true rfl, Nat.le_of_ble_eq_true rfl⟩ (Nat.le_of_ble_eq_true rfl) dX1_othersHave_15 ⟨Nat.zero_le _, Nat.zero_le _⟩ (fun H locs G => ?_)
      refine lv_if_eq (tgt := 33) hx hb dX1_othersHave_18 (by decide) (fun hc => ?_) (fun hc => ?_)
      · have hf := aw_ite_t hc hf
        exact w_X1_othersHave_J33 X hf hkb2 (lv_sub hl [0, 1, 2, 3] rfl) G
      · have hf := aw_ite_f hc hf
        refine lv_aload_n hx hb dX1_othersHave_21 rfl (lv_at hl 0 rfl) ?_
        obtain ⟨q_4, hq_5, hf⟩ := aw_bind_some hf
        refine gf_X1_9 hx hb G hown hc_3 hq_5 dX1_othersHave_22 ?_
        refine lv_iload_n hx hb dX1_othersHave_25 rfl (lv_at hl 3 rfl) ?_
        obtain ⟨hc_6, hf⟩ := aw_chk_some hf
        refine aw_ial hx hb G hc_6 dX1_othersHave_26 ?_
        refine lv_iload_n hx hb dX1_othersHave_27 rfl (lv_at hl 2 rfl) ?_
        refine lv_icmp_ne (tgt := 33) hx hb dX1_othersHave_28 (by decide) (fun hc => ?_) (fun hc => ?_)
        · have hf := aw_ite_f hc hf
          exact w_X1_othersHave_J33 X hf hkb2 (lv_sub hl [0, 1, 2, 3] rfl) G
        · have hf := aw_ite_t hc hf
          refine lv_iconst (v := (1 : Int32)) hx hb dX1_othersHave_31 (by decide) ?_
          obtain ⟨hc_7, hf⟩ := aw_chk_some hf
          exact aw_retz X G hc_7 hf dX1_othersHave_32
theorem w_X1_othersHave_L2 {z : Int32 × Dt} (X : aw_X p c cX1_othersHave 4 s RX1 m meth (some .boolean)) {k2 : Dt → Option (Int32 × Dt)} {x0 : Nat} {x1 : Int32} {x2 : Int32} (n : Nat) {x3 : Int32} {d : Dt} (hf : f_X1_othersHave_L2 σ n k2 x0 x1 x2 x3 d = some z) (hk2 : ∀ (d : Dt), k2 d = some z → ∀ (H : Heap) (locs : List Loc) (ls : Array Slot), lv_has ls 4 [] → aw_G D cA base ad σ d s H locs → W p l e rm_X1_othersHave s m args below meth c H locs 0 0 (aw_Ei D cA base ad σ below args s z) (F0 m 39 ls [])) {H : Heap} {locs : List Loc} {ls : Array Slot} (hl : lv_has ls 4 [(0, .ref (ad x0)), (1, .int x1), (2, .int x2), (3, .int x3)]) (G : aw_G D cA base ad σ d s H locs) : W p l e rm_X1_othersHave s m args below meth c H locs 0 0 (aw_Ei D cA base ad σ below args s z) (F0 m 2 ls []) := by
  induction n generalizing x3 d H locs ls with
  | zero => exact absurd (show (none : Option (Int32 × Dt)) = some z from hf) (by simp)
  | succ n ih => exact w_X1_othersHave_B2 X (kb2 := f_X1_othersHave_L2 σ n k2 x0 x1 x2) hf  (fun x3 d hf H locs ls hl G => ih hf hl G) hk2 hl G
end W_X1_othersHave
set_option maxHeartbeats 4000000 in
set_option maxRecDepth 100000 in
theorem c_X1_othersHave (l : Launch) {σ : Sg} {x0 : Nat} {x1 : Int32} {x2 : Int32} {d : Dt} {z : Int32 × Dt} (hf : f_X1_othersHave σ x0 x1 x2 d = some z) : aw_Mi l yX1_othersHave (Cond.code yX1_othersHave cX1_othersHave 4 (some .boolean)) rm_X1_othersHave (fun ad => [.ref (ad x0), .int x1, .int x2]) σ d z := by
  intro D cA base ad
  refine aw_ofW (own := RX1) (cc := cX1_othersHave) (nL := 4) (ret := some .boolean) (by decide) rfl rfl ?_
  intro p e s m below meth c X hnm G
  have hx := X.1; have hb := X.2.1; have hml := X.2.2.1; have hown := X.2.2.2.1
  refine aw_ls (lv := [(0, .ref (ad x0)), (1, .int x1), (2, .int x2)]) (Nat.le_of_ble_eq_true rfl) rfl (fun ls hl => ?_)
  unfold f_X1_othersHave at hf
  refine lv_iconst (v := (0 : Int32)) hx hb dX1_othersHave_0 (by decide) ?_
  refine lv_istore_n (lv' := [(3, .int ((0 : Int32))), (0, .ref (ad x0)), (1, .int x1), (2, .int x2)]) hx hb dX1_othersHave_1 rfl hl (by decide) rfl (fun ls hl => ?_)
  refine w_X1_othersHave_L2 X aw_FU hf  (fun d_8 hf H locs ls hl G => ?_) (lv_sub hl [1, 2, 3, 0] rfl) G
  refine lv_iconst (v := (0 : Int32)) hx hb dX1_othersHave_39 (by decide) ?_
  obtain ⟨hc_9, hf⟩ := aw_chk_some hf
  exact aw_retz X G hc_9 hf dX1_othersHave_40
def rm_X1_signSet : Room := { frames := 1, cells := 0, slots := 0, locals := 21 }
def f_X1_signSet_J29 (σ : Sg) (kb4 : Int64 → Int32 → Dt → Option (Int64 × Dt)) (x0 : Nat) (x1 : Int64) (x3 : Int32) (d : Dt) : Option (Int64 × Dt) :=
  kb4 x1 (x3 + 1) d
def f_X1_signSet_B4 (σ : Sg) (kb4 : Int64 → Int32 → Dt → Option (Int64 × Dt)) (k4 : Int64 → Dt → Option (Int64 × Dt)) (x0 : Nat) (x1 : Int64) (x3 : Int32) (d : Dt) : Option (Int64 × Dt) :=
  if ((47 : Int32)) ≤ x3 then k4 x1 d else aw_chk (aw_O σ 1 5 x0) ((f_X1_hasUnit σ x0 x3 d).bind (fun z_1 => if z_1.1 = 0 then f_X1_signSet_J29 σ kb4 x0 x1 x3 z_1.2 else (σ.2.2 x0 2).bind (fun q_4 => aw_chk (aw_I σ 20 q_4 x3) (f_X1_signSet_J29 σ kb4 x0 (x1 ||| (((1 : Int64)) <<< ((z_1.2.1 q_4 x3.toNatClampNeg).toInt64 &&& 63))) x3 z_1.2))))
def f_X1_signSet_L4 (σ : Sg) (n : Nat) (k4 : Int64 → Dt → Option (Int64 × Dt)) (x0 : Nat) : Int64 → Int32 → Dt → Option (Int64 × Dt) := match n with
  | 0 => fun _ _ _ => none
  | n + 1 => fun x1 x3 d => f_X1_signSet_B4 σ (f_X1_signSet_L4 σ n k4 x0) k4 x0 x1 x3 d
def f_X1_signSet (σ : Sg) (x0 : Nat) (d : Dt) : Option (Int64 × Dt) :=
  f_X1_signSet_L4 σ aw_FU (fun x1_7 d_8 => some (x1_7, d_8)) x0 ((0 : Int64)) ((0 : Int32)) d
section W_X1_signSet
variable {p : Program} {l : Launch} {e : Env} {s : State} {m : MethodId} {args : Array Value} {below : List Frame} {meth : Method} {c : Code}
variable {D : va_G} {cA : Nat → ClassId} {base : Nat} {ad : Nat → Nat} {σ : Sg}
set_option maxHeartbeats 4000000 in
set_option maxRecDepth 100000 in
theorem w_X1_signSet_J29 {z : Int64 × Dt} (X : aw_X p c cX1_signSet 4 s RX1 m meth (some .long)) {kb4 : Int64 → Int32 → Dt → Option (Int64 × Dt)} {x0 : Nat} {x1 : Int64} {x3 : Int32} {d : Dt} (hf : f_X1_signSet_J29 σ kb4 x0 x1 x3 d = some z) (hkb4 : ∀ (y1 : Int64) (y3 : Int32) (d : Dt), kb4 y1 y3 d = some z → ∀ (H : Heap) (locs : List Loc) (ls : Array Slot), lv_has ls 4 [(0, .ref (ad x0)), (1, .long y1), (3, .int y3)] → aw_G D cA base ad σ d s H locs → W p l e rm_X1_signSet s m args below meth c H locs 0 0 (aw_El D cA base ad σ below args s z) (F0 m 4 ls [])) {H : Heap} {locs : List Loc} {ls : Array Slot} (hl : lv_has ls 4 [(0, .ref (ad x0)), (1, .long x1), (3, .int x3)]) (G : aw_G D cA base ad σ d s H locs) : W p l e rm_X1_signSet s m args below meth c H locs 0 0 (aw_El D cA base ad σ below args s z) (F0 m 29 ls []) := by
  have hx := X.1; have hb := X.2.1; have hml := X.2.2.1; have hown := X.2.2.2.1
  unfold f_X1_signSet_J29 at hf
  refine lv_iinc (v := x3 + 1) (lv' := [(3, .int (x3 + 1)), (0, .ref (ad x0)), (1, .long x1)]) hx hb dX1_signSet_29 hl (k := 2) rfl rfl (by decide) rfl (fun ls hl => ?_)
  refine lv_goto (tgt := 4) hx hb dX1_signSet_32 (by decide) ?_
  exact hkb4 _ _ _ hf _ _ _ (lv_sub hl [1, 2, 0] rfl) G
set_option maxHeartbeats 4000000 in
set_option maxRecDepth 100000 in
theorem w_X1_signSet_B4 {z : Int64 × Dt} (X : aw_X p c cX1_signSet 4 s RX1 m meth (some .long)) {kb4 : Int64 → Int32 → Dt → Option (Int64 × Dt)} {k4 : Int64 → Dt → Option (Int64 × Dt)} {x0 : Nat} {x1 : Int64} {x3 : Int32} {d : Dt} (hf : f_X1_signSet_B4 σ kb4 k4 x0 x1 x3 d = some z) (hkb4 : ∀ (y1 : Int64) (y3 : Int32) (d : Dt), kb4 y1 y3 d = some z → ∀ (H : Heap) (locs : List Loc) (ls : Array Slot), lv_has ls 4 [(0, .ref (ad x0)), (1, .long y1), (3, .int y3)] → aw_G D cA base ad σ d s H locs → W p l e rm_X1_signSet s m args below meth c H locs 0 0 (aw_El D cA base ad σ below args s z) (F0 m 4 ls [])) (hk4 : ∀ (y1 : Int64) (d : Dt), k4 y1 d = some z → ∀ (H : Heap) (locs : List Loc) (ls : Array Slot), lv_has ls 4 [(1, .long y1)] → aw_G D cA base ad σ d s H locs → W p l e rm_X1_signSet s m args below meth c H locs 0 0 (aw_El D cA base ad σ below args s z) (F0 m 35 ls [])) {H : Heap} {locs : List Loc} {ls : Array Slot} (hl : lv_has ls 4 [(0, .ref (ad x0)), (1, .long x1), (3, .int x3)]) (G : aw_G D cA base ad σ d s H locs) : W p l e rm_X1_signSet s m args below meth c H locs 0 0 (aw_El D cA base ad σ below args s z) (F0 m 4 ls []) := by
  have hx := X.1; have hb := X.2.1; have hml := X.2.2.1; have hown := X.2.2.2.1
  unfold f_X1_signSet_B4 at hf
  refine lv_iload_n hx hb dX1_signSet_4 rfl (lv_at hl 2 rfl) ?_
  refine lv_bipush (v := (47 : Int32)) hx hb dX1_signSet_5 (by decide) ?_
  refine lv_icmp_ge (tgt := 35) hx hb dX1_signSet_7 (by decide) (fun hc => ?_) (fun hc => ?_)
  · have hf := aw_ite_t hc hf
    exact hk4 _ _ hf _ _ _ (lv_sub hl [1] rfl) G
  · have hf := aw_ite_f hc hf
    refine lv_aload_n hx hb dX1_signSet_10 rfl (lv_at hl 0 rfl) ?_
    refine lv_iload_n hx hb dX1_signSet_11 rfl (lv_at hl 2 rfl) ?_
    obtain ⟨hc_3, hf⟩ := aw_chk_some hf
    obtain ⟨z_1, hz_2, hf⟩ := aw_bind_some hf
    refine aw_VI (As := [.int x3]) (rest := []) X G hl.1 cr_X1_29 (c_X1_hasUnit l hz_2) ⟨rfl, rfl⟩ rfl rfl rfl (by decide) hc_3 rfl ⟨Nat.le_of_ble_eq_true rfl, Nat.le_of_ble_eq_true rfl⟩ (Nat.le_of_ble_eq_true rfl) dX1_signSet_12 ⟨Nat.zero_le _, Nat.zero_le _⟩ (fun H locs G => ?_)
    refine lv_if_eq (tgt := 29) hx hb dX1_signSet_15 (by decide) (fun hc => ?_) (fun hc => ?_)
    · have hf := aw_ite_t hc hf
      exact w_X1_signSet_J29 X hf hkb4 (lv_sub hl [0, 1, 2] rfl) G
    · have hf := aw_ite_f hc hf
      refine lv_lload_n hx hb dX1_signSet_18 rfl (lv_at hl 1 rfl) ?_
      refine lv_lconst (v := (1 : Int64)) hx hb dX1_signSet_19 (by decide) ?_
      refine lv_aload_n hx hb dX1_signSet_20 rfl (lv_at hl 0 rfl) ?_
      obtain ⟨q_4, hq_5, hf⟩ := aw_bind_some hf
      refine gf_X1_9 hx hb G hown hc_3 hq_5 dX1_signSet_21 ?_
      refine lv_iload_n hx hb dX1_signSet_24 rfl (lv_at hl 2 rfl) ?_
      obtain ⟨hc_6, hf⟩ := aw_chk_some hf
      refine aw_ial hx hb G hc_6 dX1_signSet_25 ?_
      refine lv_lshl hx hb dX1_signSet_26 rfl ?_
      refine lv_lor hx hb dX1_signSet_27 ?_
      refine lv_lstore_n (lv' := [(1, .long (x1 ||| (((1 : Int64)) <<< ((z_1.2.1 q_4 x3.toNatClampNeg).toInt64 &&& 63)))), (0, .ref (ad x0)), (3, .int x3)]) hx hb dX1_signSet_28 rfl hl (by decide) rfl (fun ls hl => ?_)
      exact w_X1_signSet_J29 X hf hkb4 (lv_sub hl [1, 0, 2] rfl) G
theorem w_X1_signSet_L4 {z : Int64 × Dt} (X : aw_X p c cX1_signSet 4 s RX1 m meth (some .long)) {k4 : Int64 → Dt → Option (Int64 × Dt)} {x0 : Nat} (n : Nat) {x1 : Int64} {x3 : Int32} {d : Dt} (hf : f_X1_signSet_L4 σ n k4 x0 x1 x3 d = some z) (hk4 : ∀ (y1 : Int64) (d : Dt), k4 y1 d = some z → ∀ (H : Heap) (locs : List Loc) (ls : Array Slot), lv_has ls 4 [(1, .long y1)] → aw_G D cA base ad σ d s H locs → W p l e rm_X1_signSet s m args below meth c H locs 0 0 (aw_El D cA base ad σ below args s z) (F0 m 35 ls [])) {H : Heap} {locs : List Loc} {ls : Array Slot} (hl : lv_has ls 4 [(0, .ref (ad x0)), (1, .long x1), (3, .int x3)]) (G : aw_G D cA base ad σ d s H locs) : W p l e rm_X1_signSet s m args below meth c H locs 0 0 (aw_El D cA base ad σ below args s z) (F0 m 4 ls []) := by
  induction n generalizing x1 x3 d H locs ls with
  | zero => exact absurd (show (none : Option (Int64 × Dt)) = some z from hf) (by simp)
  | succ n ih => exact w_X1_signSet_B4 X (kb4 := f_X1_signSet_L4 σ n k4 x0) hf  (fun x1 x3 d hf H locs ls hl G => ih hf hl G) hk4 hl G
end W_X1_signSet
set_option maxHeartbeats 4000000 in
set_option maxRecDepth 100000 in
theorem c_X1_signSet (l : Launch) {σ : Sg} {x0 : Nat} {d : Dt} {z : Int64 × Dt} (hf : f_X1_signSet σ x0 d = some z) : aw_Ml l yX1_signSet (Cond.code yX1_signSet cX1_signSet 4 (some .long)) rm_X1_signSet (fun ad => [.ref (ad x0)]) σ d z := by
  intro D cA base ad
  refine aw_ofW (own := RX1) (cc := cX1_signSet) (nL := 4) (ret := some .long) (by decide) rfl rfl ?_
  intro p e s m below meth c X hnm G
  have hx := X.1; have hb := X.2.1; have hml := X.2.2.1; have hown := X.2.2.2.1
  refine aw_ls (lv := [(0, .ref (ad x0))]) (Nat.le_of_ble_eq_true rfl) rfl (fun ls hl => ?_)
  unfold f_X1_signSet at hf
  refine lv_lconst (v := (0 : Int64)) hx hb dX1_signSet_0 (by decide) ?_
  refine lv_lstore_n (lv' := [(1, .long ((0 : Int64))), (0, .ref (ad x0))]) hx hb dX1_signSet_1 rfl hl (by decide) rfl (fun ls hl => ?_)
  refine lv_iconst (v := (0 : Int32)) hx hb dX1_signSet_2 (by decide) ?_
  refine lv_istore_n (lv' := [(3, .int ((0 : Int32))), (1, .long ((0 : Int64))), (0, .ref (ad x0))]) hx hb dX1_signSet_3 rfl hl (by decide) rfl (fun ls hl => ?_)
  refine w_X1_signSet_L4 X aw_FU hf  (fun x1_7 d_8 hf H locs ls hl G => ?_) (lv_sub hl [2, 1, 0] rfl) G
  refine lv_lload_n hx hb dX1_signSet_35 rfl (lv_at hl 0 rfl) ?_
  exact aw_retl X G hf dX1_signSet_36
def rm_X1_codaUnits : Room := { frames := 0, cells := 0, slots := 0, locals := 0 }
def f_X1_codaUnits_J14 (σ : Sg) (t0 : Int32) (d : Dt) : Option (Int32 × Dt) :=
  some (t0, d)
def f_X1_codaUnits (σ : Sg) (x0 : Nat) (d : Dt) : Option (Int32 × Dt) :=
  aw_chk (aw_O σ 1 5 x0) (if (d.1 x0 0) = ((1 : Int32)) then f_X1_codaUnits_J14 σ ((36 : Int32)) d else f_X1_codaUnits_J14 σ ((0 : Int32)) d)
section W_X1_codaUnits
variable {p : Program} {l : Launch} {e : Env} {s : State} {m : MethodId} {args : Array Value} {below : List Frame} {meth : Method} {c : Code}
variable {D : va_G} {cA : Nat → ClassId} {base : Nat} {ad : Nat → Nat} {σ : Sg}
set_option maxHeartbeats 4000000 in
set_option maxRecDepth 100000 in
theorem w_X1_codaUnits_J14 {z : Int32 × Dt} (X : aw_X p c cX1_codaUnits 1 s RX1 m meth (some .int)) {t0 : Int32} {d : Dt} (hf : f_X1_codaUnits_J14 σ t0 d = some z)  {H : Heap} {locs : List Loc} {ls : Array Slot} (hl : lv_has ls 1 []) (G : aw_G D cA base ad σ d s H locs) : W p l e rm_X1_codaUnits s m args below meth c H locs 0 0 (aw_Ei D cA base ad σ below args s z) (F0 m 14 ls [.int t0]) := by
  have hx := X.1; have hb := X.2.1; have hml := X.2.2.1; have hown := X.2.2.2.1
  unfold f_X1_codaUnits_J14 at hf
  exact aw_reti X G hf dX1_codaUnits_14
end W_X1_codaUnits
set_option maxHeartbeats 4000000 in
set_option maxRecDepth 100000 in
theorem c_X1_codaUnits (l : Launch) {σ : Sg} {x0 : Nat} {d : Dt} {z : Int32 × Dt} (hf : f_X1_codaUnits σ x0 d = some z) : aw_Mi l yX1_codaUnits (Cond.code yX1_codaUnits cX1_codaUnits 1 (some .int)) rm_X1_codaUnits (fun ad => [.ref (ad x0)]) σ d z := by
  intro D cA base ad
  refine aw_ofW (own := RX1) (cc := cX1_codaUnits) (nL := 1) (ret := some .int) (by decide) rfl rfl ?_
  intro p e s m below meth c X hnm G
  have hx := X.1; have hb := X.2.1; have hml := X.2.2.1; have hown := X.2.2.2.1
  refine aw_ls (lv := [(0, .ref (ad x0))]) (Nat.le_of_ble_eq_true rfl) rfl (fun ls hl => ?_)
  unfold f_X1_codaUnits at hf
  refine lv_aload_n hx hb dX1_codaUnits_0 rfl (lv_at hl 0 rfl) ?_
  obtain ⟨hc_1, hf⟩ := aw_chk_some hf
  refine gf_X1_22 hx hb G hown hc_1 dX1_codaUnits_1 ?_
  refine lv_iconst (v := (1 : Int32)) hx hb dX1_codaUnits_4 (by decide) ?_
  refine lv_icmp_ne (tgt := 13) hx hb dX1_codaUnits_5 (by decide) (fun hc => ?_) (fun hc => ?_)
  · have hf := aw_ite_f hc hf
    refine lv_iconst (v := (0 : Int32)) hx hb dX1_codaUnits_13 (by decide) ?_
    exact w_X1_codaUnits_J14 X hf  (lv_sub hl [] rfl) G
  · have hf := aw_ite_t hc hf
    refine lv_bipush (v := (36 : Int32)) hx hb dX1_codaUnits_8 (by decide) ?_
    refine lv_goto (tgt := 14) hx hb dX1_codaUnits_10 (by decide) ?_
    exact w_X1_codaUnits_J14 X hf  (lv_sub hl [] rfl) G
def rm_X10_partOf : Room := { frames := 0, cells := 0, slots := 0, locals := 0 }
def f_X10_partOf (σ : Sg) (x0 : Int32) (x1 : Int32) (d : Dt) : Option (Int32 × Dt) :=
  if x1 = 0 then some (x0 / (108 : Int32), d) else if x1 = 1 then some ((x0 / (27 : Int32)) - (x0 / (27 : Int32)) / (4 : Int32) * (4 : Int32), d) else if x1 = 2 then some ((x0 / (3 : Int32)) - (x0 / (3 : Int32)) / (9 : Int32) * (9 : Int32), d) else some (x0 - x0 / (3 : Int32) * (3 : Int32), d)
section W_X10_partOf
variable {p : Program} {l : Launch} {e : Env} {s : State} {m : MethodId} {args : Array Value} {below : List Frame} {meth : Method} {c : Code}
variable {D : va_G} {cA : Nat → ClassId} {base : Nat} {ad : Nat → Nat} {σ : Sg}
end W_X10_partOf
set_option maxHeartbeats 4000000 in
set_option maxRecDepth 100000 in
theorem c_X10_partOf (l : Launch) {σ : Sg} {x0 : Int32} {x1 : Int32} {d : Dt} {z : Int32 × Dt} (hf : f_X10_partOf σ x0 x1 d = some z) : aw_Mi l yX10_partOf (Cond.code yX10_partOf cX10_partOf 2 (some .int)) rm_X10_partOf (fun ad => [.int x0, .int x1]) σ d z := by
  intro D cA base ad
  refine aw_ofW (own := RX10) (cc := cX10_partOf) (nL := 2) (ret := some .int) (by decide) rfl rfl ?_
  intro p e s m below meth c X hnm G
  have hx := X.1; have hb := X.2.1; have hml := X.2.2.1; have hown := X.2.2.2.1
  refine aw_ls (lv := [(0, .int x0), (1, .int x1)]) (Nat.le_of_ble_eq_true rfl) rfl (fun ls hl => ?_)
  unfold f_X10_partOf at hf
  refine lv_iload_n hx hb dX10_partOf_0 rfl (lv_at hl 1 rfl) ?_
  by_cases hs : x1 = 0
  · have hf := aw_ite_t hs hf
    refine lv_tableIn (off := 27) (tgt := 28) hx hb dX10_partOf_1 (by rw [hs]; decide) (by rw [hs]; decide) (by rw [hs]; decide) (by decide) ?_
    refine lv_iload_n hx hb dX10_partOf_28 rfl (lv_at hl 0 rfl) ?_
    refine lv_bipush (v := (108 : Int32)) hx hb dX10_partOf_29 (by decide) ?_
    refine lv_idiv hx hb dX10_partOf_31 (by decide) ?_
    exact aw_reti X G hf dX10_partOf_32
  have hf := aw_ite_f hs hf
  have hs0 := hs
  by_cases hs : x1 = 1
  · have hf := aw_ite_t hs hf
    refine lv_tableIn (off := 32) (tgt := 33) hx hb dX10_partOf_1 (by rw [hs]; decide) (by rw [hs]; decide) (by rw [hs]; decide) (by decide) ?_
    refine lv_iload_n hx hb dX10_partOf_33 rfl (lv_at hl 0 rfl) ?_
    refine lv_bipush (v := (27 : Int32)) hx hb dX10_partOf_34 (by decide) ?_
    refine lv_idiv hx hb dX10_partOf_36 (by decide) ?_
    refine lv_iconst (v := (4 : Int32)) hx hb dX10_partOf_37 (by decide) ?_
    refine lv_irem hx hb dX10_partOf_38 (by decide) ?_
    exact aw_reti X G hf dX10_partOf_39
  have hf := aw_ite_f hs hf
  have hs1 := hs
  by_cases hs : x1 = 2
  · have hf := aw_ite_t hs hf
    refine lv_tableIn (off := 39) (tgt := 40) hx hb dX10_partOf_1 (by rw [hs]; decide) (by rw [hs]; decide) (by rw [hs]; decide) (by decide) ?_
    refine lv_iload_n hx hb dX10_partOf_40 rfl (lv_at hl 0 rfl) ?_
    refine lv_iconst (v := (3 : Int32)) hx hb dX10_partOf_41 (by decide) ?_
    refine lv_idiv hx hb dX10_partOf_42 (by decide) ?_
    refine lv_bipush (v := (9 : Int32)) hx hb dX10_partOf_43 (by decide) ?_
    refine lv_irem hx hb dX10_partOf_45 (by decide) ?_
    exact aw_reti X G hf dX10_partOf_46
  have hf := aw_ite_f hs hf
  have hs2 := hs
  have hv_1 : x1.toInt < 0 ∨ 2 < x1.toInt := aw_sw2 hs0 hs1 hs2
  refine lv_tableOut (tgt := 47) hx hb dX10_partOf_1 hv_1 (by decide) ?_
  refine lv_iload_n hx hb dX10_partOf_47 rfl (lv_at hl 0 rfl) ?_
  refine lv_iconst (v := (3 : Int32)) hx hb dX10_partOf_48 (by decide) ?_
  refine lv_irem hx hb dX10_partOf_49 (by decide) ?_
  exact aw_reti X G hf dX10_partOf_50
def rm_X1_spellSyllable : Room := { frames := 1, cells := 0, slots := 0, locals := 21 }
def f_X1_spellSyllable_J152 (σ : Sg) (x8 : Int32) (d : Dt) : Option (Int32 × Dt) :=
  some (x8, d)
def f_X1_spellSyllable_J126 (σ : Sg) (x0 : Nat) (x2 : Nat) (x6 : Int32) (x8 : Int32) (d : Dt) : Option (Int32 × Dt) :=
  if x6 = ((8 : Int32)) then f_X1_spellSyllable_J152 σ x8 d else aw_chk (aw_O σ 1 5 x0) ((σ.2.2 x0 2).bind (fun q_20 => (f_X1_codaUnits σ x0 d).bind (fun z_22 => aw_chk (aw_I σ 20 q_20 (z_22.1 + x6)) (aw_chk (aw_I σ 20 x2 x8) (f_X1_spellSyllable_J152 σ (x8 + 1) (aw_sI z_22.2 x2 x8.toNatClampNeg (z_22.2.1 q_20 (z_22.1 + x6).toNatClampNeg)))))))
def f_X1_spellSyllable_J99 (σ : Sg) (x0 : Nat) (x2 : Nat) (x6 : Int32) (x7 : Int32) (x8 : Int32) (d : Dt) : Option (Int32 × Dt) :=
  aw_chk (aw_O σ 1 5 x0) ((σ.2.2 x0 3).bind (fun q_16 => aw_chk (aw_I σ 22 q_16 x7) (if (d.1 q_16 x7.toNatClampNeg) = 0 then f_X1_spellSyllable_J126 σ x0 x2 x6 x8 d else (σ.2.2 x0 2).bind (fun q_26 => aw_chk (aw_I σ 20 q_26 (((44 : Int32)) + x7)) (aw_chk (aw_I σ 20 x2 x8) (f_X1_spellSyllable_J126 σ x0 x2 x6 (x8 + 1) (aw_sI d x2 x8.toNatClampNeg (d.1 q_26 (((44 : Int32)) + x7).toNatClampNeg))))))))
def f_X1_spellSyllable_J82 (σ : Sg) (x0 : Nat) (x2 : Nat) (x5 : Int32) (x6 : Int32) (x7 : Int32) (x8 : Int32) (d : Dt) : Option (Int32 × Dt) :=
  aw_chk (aw_O σ 1 5 x0) ((σ.2.2 x0 2).bind (fun q_11 => aw_chk (aw_I σ 20 q_11 (((8 : Int32)) + x5)) (aw_chk (aw_I σ 20 x2 x8) (f_X1_spellSyllable_J99 σ x0 x2 x6 x7 (x8 + 1) (aw_sI d x2 x8.toNatClampNeg (d.1 q_11 (((8 : Int32)) + x5).toNatClampNeg))))))
def f_X1_spellSyllable (σ : Sg) (x0 : Nat) (x1 : Int32) (x2 : Nat) (x3 : Int32) (d : Dt) : Option (Int32 × Dt) :=
  (f_X10_partOf σ x1 ((0 : Int32)) d).bind (fun z_1 => (f_X10_partOf σ x1 ((1 : Int32)) z_1.2).bind (fun z_3 => (f_X10_partOf σ x1 ((2 : Int32)) z_3.2).bind (fun z_5 => (f_X10_partOf σ x1 ((3 : Int32)) z_5.2).bind (fun z_7 => aw_chk (aw_O σ 1 5 x0) (if (z_7.2.1 x0 0) = ((1 : Int32)) then (σ.2.2 x0 2).bind (fun q_34 => aw_chk (aw_I σ 20 q_34 ((((4 : Int32)) * z_1.1) + z_3.1)) (aw_chk (aw_I σ 20 x2 x3) (f_X1_spellSyllable_J99 σ x0 x2 z_5.1 z_7.1 (x3 + 1) (aw_sI z_7.2 x2 x3.toNatClampNeg (z_7.2.1 q_34 ((((4 : Int32)) * z_1.1) + z_3.1).toNatClampNeg))))) else if z_1.1 = ((8 : Int32)) then f_X1_spellSyllable_J82 σ x0 x2 z_3.1 z_5.1 z_7.1 x3 z_7.2 else (σ.2.2 x0 2).bind (fun q_30 => aw_chk (aw_I σ 20 q_30 z_1.1) (aw_chk (aw_I σ 20 x2 x3) (f_X1_spellSyllable_J82 σ x0 x2 z_3.1 z_5.1 z_7.1 (x3 + 1) (aw_sI z_7.2 x2 x3.toNatClampNeg (z_7.2.1 q_30 z_1.1.toNatClampNeg))))))))))
section W_X1_spellSyllable
variable {p : Program} {l : Launch} {e : Env} {s : State} {m : MethodId} {args : Array Value} {below : List Frame} {meth : Method} {c : Code}
variable {D : va_G} {cA : Nat → ClassId} {base : Nat} {ad : Nat → Nat} {σ : Sg}
set_option maxHeartbeats 4000000 in
set_option maxRecDepth 100000 in
theorem w_X1_spellSyllable_J152 {z : Int32 × Dt} (X : aw_X p c cX1_spellSyllable 9 s RX1 m meth (some .int)) {x8 : Int32} {d : Dt} (hf : f_X1_spellSyllable_J152 σ x8 d = some z)  {H : Heap} {locs : List Loc} {ls : Array Slot} (hl : lv_has ls 9 [(8, .int x8)]) (G : aw_G D cA base ad σ d s H locs) : W p l e rm_X1_spellSyllable s m args below meth c H locs 0 0 (aw_Ei D cA base ad σ below args s z) (F0 m 152 ls []) := by
  have hx := X.1; have hb := X.2.1; have hml := X.2.2.1; have hown := X.2.2.2.1
  unfold f_X1_spellSyllable_J152 at hf
  refine lv_iload hx hb dX1_spellSyllable_152 (lv_at hl 0 rfl) ?_
  exact aw_reti X G hf dX1_spellSyllable_154
set_option maxHeartbeats 4000000 in
set_option maxRecDepth 100000 in
theorem w_X1_spellSyllable_J126 {z : Int32 × Dt} (X : aw_X p c cX1_spellSyllable 9 s RX1 m meth (some .int)) {x0 : Nat} {x2 : Nat} {x6 : Int32} {x8 : Int32} {d : Dt} (hf : f_X1_spellSyllable_J126 σ x0 x2 x6 x8 d = some z)  {H : Heap} {locs : List Loc} {ls : Array Slot} (hl : lv_has ls 9 [(0, .ref (ad x0)), (2, .ref (ad x2)), (6, .int x6), (8, .int x8)]) (G : aw_G D cA base ad σ d s H locs) : W p l e rm_X1_spellSyllable s m args below meth c H locs 0 0 (aw_Ei D cA base ad σ below args s z) (F0 m 126 ls []) := by
  have hx := X.1; have hb := X.2.1; have hml := X.2.2.1; have hown := X.2.2.2.1
  unfold f_X1_spellSyllable_J126 at hf
  refine lv_iload hx hb dX1_spellSyllable_126 (lv_at hl 2 rfl) ?_
  refine lv_bipush (v := (8 : Int32)) hx hb dX1_spellSyllable_128 (by decide) ?_
  refine lv_icmp_eq (tgt := 152) hx hb dX1_spellSyllable_130 (by decide) (fun hc => ?_) (fun hc => ?_)
  · have hf := aw_ite_t hc hf
    exact w_X1_spellSyllable_J152 X hf  (lv_sub hl [3] rfl) G
  · have hf := aw_ite_f hc hf
    refine lv_aload_n hx hb dX1_spellSyllable_133 rfl (lv_at hl 1 rfl) ?_
    refine lv_iload hx hb dX1_spellSyllable_134 (lv_at hl 3 rfl) ?_
    refine lv_iinc (v := x8 + 1) (lv' := [(8, .int (x8 + 1)), (0, .ref (ad x0)), (2, .ref (ad x2)), (6, .int x6)]) hx hb dX1_spellSyllable_136 hl (k := 3) rfl rfl (by decide) rfl (fun ls hl => ?_)
    refine lv_aload_n hx hb dX1_spellSyllable_139 rfl (lv_at hl 1 rfl) ?_
    obtain ⟨hc_19, hf⟩ := aw_chk_some hf
    obtain ⟨q_20, hq_21, hf⟩ := aw_bind_some hf
    refine gf_X1_9 hx hb G hown hc_19 hq_21 dX1_spellSyllable_140 ?_
    refine lv_aload_n hx hb dX1_spellSyllable_143 rfl (lv_at hl 1 rfl) ?_
    obtain ⟨z_22, hz_23, hf⟩ := aw_bind_some hf
    refine aw_VI (As := []) (rest := [.ref (ad q_20), .int x8, .ref (ad x2)]) X G hl.1 cr_X1_37 (c_X1_codaUnits l hz_23) ⟨rfl, rfl⟩ rfl rfl rfl (by decide) hc_19 rfl ⟨Nat.le_of_ble_eq_true rfl, Nat.le_of_ble_eq_true rfl⟩ (Nat.le_of_ble_eq_true rfl) dX1_spellSyllable_144 ⟨Nat.zero_le _, Nat.zero_le _⟩ (fun H locs G => ?_)
    refine lv_iload hx hb dX1_spellSyllable_147 (lv_at hl 3 rfl) ?_
    refine lv_iadd hx hb dX1_spellSyllable_149 ?_
    obtain ⟨hc_24, hf⟩ := aw_chk_some hf
    refine aw_ial hx hb G hc_24 dX1_spellSyllable_150 ?_
    obtain ⟨hc_25, hf⟩ := aw_chk_some hf
    refine aw_ias hx hb G hc_25 dX1_spellSyllable_151 (fun H locs G => ?_)
    exact w_X1_spellSyllable_J152 X hf  (lv_sub hl [0] rfl) G
set_option maxHeartbeats 4000000 in
set_option maxRecDepth 100000 in
theorem w_X1_spellSyllable_J99 {z : Int32 × Dt} (X : aw_X p c cX1_spellSyllable 9 s RX1 m meth (some .int)) {x0 : Nat} {x2 : Nat} {x6 : Int32} {x7 : Int32} {x8 : Int32} {d : Dt} (hf : f_X1_spellSyllable_J99 σ x0 x2 x6 x7 x8 d = some z)  {H : Heap} {locs : List Loc} {ls : Array Slot} (hl : lv_has ls 9 [(0, .ref (ad x0)), (2, .ref (ad x2)), (6, .int x6), (7, .int x7), (8, .int x8)]) (G : aw_G D cA base ad σ d s H locs) : W p l e rm_X1_spellSyllable s m args below meth c H locs 0 0 (aw_Ei D cA base ad σ below args s z) (F0 m 99 ls []) := by
  have hx := X.1; have hb := X.2.1; have hml := X.2.2.1; have hown := X.2.2.2.1
  unfold f_X1_spellSyllable_J99 at hf
  refine lv_aload_n hx hb dX1_spellSyllable_99 rfl (lv_at hl 0 rfl) ?_
  obtain ⟨hc_15, hf⟩ := aw_chk_some hf
  obtain ⟨q_16, hq_17, hf⟩ := aw_bind_some hf
  refine gf_X1_15 hx hb G hown hc_15 hq_17 dX1_spellSyllable_100 ?_
  refine lv_iload hx hb dX1_spellSyllable_103 (lv_at hl 3 rfl) ?_
  obtain ⟨hc_18, hf⟩ := aw_chk_some hf
  refine aw_zal hx hb G hc_18 dX1_spellSyllable_105 ?_
  refine lv_if_eq (tgt := 126) hx hb dX1_spellSyllable_106 (by decide) (fun hc => ?_) (fun hc => ?_)
  · have hf := aw_ite_t hc hf
    exact w_X1_spellSyllable_J126 X hf  (lv_sub hl [0, 1, 2, 4] rfl) G
  · have hf := aw_ite_f hc hf
    refine lv_aload_n hx hb dX1_spellSyllable_109 rfl (lv_at hl 1 rfl) ?_
    refine lv_iload hx hb dX1_spellSyllable_110 (lv_at hl 4 rfl) ?_
    refine lv_iinc (v := x8 + 1) (lv' := [(8, .int (x8 + 1)), (0, .ref (ad x0)), (2, .ref (ad x2)), (6, .int x6), (7, .int x7)]) hx hb dX1_spellSyllable_112 hl (k := 4) rfl rfl (by decide) rfl (fun ls hl => ?_)
    refine lv_aload_n hx hb dX1_spellSyllable_115 rfl (lv_at hl 1 rfl) ?_
    obtain ⟨q_26, hq_27, hf⟩ := aw_bind_some hf
    refine gf_X1_9 hx hb G hown hc_15 hq_27 dX1_spellSyllable_116 ?_
    refine lv_bipush (v := (44 : Int32)) hx hb dX1_spellSyllable_119 (by decide) ?_
    refine lv_iload hx hb dX1_spellSyllable_121 (lv_at hl 4 rfl) ?_
    refine lv_iadd hx hb dX1_spellSyllable_123 ?_
    obtain ⟨hc_28, hf⟩ := aw_chk_some hf
    refine aw_ial hx hb G hc_28 dX1_spellSyllable_124 ?_
    obtain ⟨hc_29, hf⟩ := aw_chk_some hf
    refine aw_ias hx hb G hc_29 dX1_spellSyllable_125 (fun H locs G => ?_)
    exact w_X1_spellSyllable_J126 X hf  (lv_sub hl [1, 2, 3, 0] rfl) G
set_option maxHeartbeats 4000000 in
set_option maxRecDepth 100000 in
theorem w_X1_spellSyllable_J82 {z : Int32 × Dt} (X : aw_X p c cX1_spellSyllable 9 s RX1 m meth (some .int)) {x0 : Nat} {x2 : Nat} {x5 : Int32} {x6 : Int32} {x7 : Int32} {x8 : Int32} {d : Dt} (hf : f_X1_spellSyllable_J82 σ x0 x2 x5 x6 x7 x8 d = some z)  {H : Heap} {locs : List Loc} {ls : Array Slot} (hl : lv_has ls 9 [(0, .ref (ad x0)), (2, .ref (ad x2)), (5, .int x5), (6, .int x6), (7, .int x7), (8, .int x8)]) (G : aw_G D cA base ad σ d s H locs) : W p l e rm_X1_spellSyllable s m args below meth c H locs 0 0 (aw_Ei D cA base ad σ below args s z) (F0 m 82 ls []) := by
  have hx := X.1; have hb := X.2.1; have hml := X.2.2.1; have hown := X.2.2.2.1
  unfold f_X1_spellSyllable_J82 at hf
  refine lv_aload_n hx hb dX1_spellSyllable_82 rfl (lv_at hl 1 rfl) ?_
  refine lv_iload hx hb dX1_spellSyllable_83 (lv_at hl 5 rfl) ?_
  refine lv_iinc (v := x8 + 1) (lv' := [(8, .int (x8 + 1)), (0, .ref (ad x0)), (2, .ref (ad x2)), (5, .int x5), (6, .int x6), (7, .int x7)]) hx hb dX1_spellSyllable_85 hl (k := 5) rfl rfl (by decide) rfl (fun ls hl => ?_)
  refine lv_aload_n hx hb dX1_spellSyllable_88 rfl (lv_at hl 1 rfl) ?_
  obtain ⟨hc_10, hf⟩ := aw_chk_some hf
  obtain ⟨q_11, hq_12, hf⟩ := aw_bind_some hf
  refine gf_X1_9 hx hb G hown hc_10 hq_12 dX1_spellSyllable_89 ?_
  refine lv_bipush (v := (8 : Int32)) hx hb dX1_spellSyllable_92 (by decide) ?_
  refine lv_iload hx hb dX1_spellSyllable_94 (lv_at hl 3 rfl) ?_
  refine lv_iadd hx hb dX1_spellSyllable_96 ?_
  obtain ⟨hc_13, hf⟩ := aw_chk_some hf
  refine aw_ial hx hb G hc_13 dX1_spellSyllable_97 ?_
  obtain ⟨hc_14, hf⟩ := aw_chk_some hf
  refine aw_ias hx hb G hc_14 dX1_spellSyllable_98 (fun H locs G => ?_)
  exact w_X1_spellSyllable_J99 X hf  (lv_sub hl [1, 2, 4, 5, 0] rfl) G
end W_X1_spellSyllable
set_option maxHeartbeats 4000000 in
set_option maxRecDepth 100000 in
theorem c_X1_spellSyllable (l : Launch) {σ : Sg} {x0 : Nat} {x1 : Int32} {x2 : Nat} {x3 : Int32} {d : Dt} {z : Int32 × Dt} (hf : f_X1_spellSyllable σ x0 x1 x2 x3 d = some z) : aw_Mi l yX1_spellSyllable (Cond.code yX1_spellSyllable cX1_spellSyllable 9 (some .int)) rm_X1_spellSyllable (fun ad => [.ref (ad x0), .int x1, .ref (ad x2), .int x3]) σ d z := by
  intro D cA base ad
  refine aw_ofW (own := RX1) (cc := cX1_spellSyllable) (nL := 9) (ret := some .int) (by decide) rfl rfl ?_
  intro p e s m below meth c X hnm G
  have hx := X.1; have hb := X.2.1; have hml := X.2.2.1; have hown := X.2.2.2.1
  refine aw_ls (lv := [(0, .ref (ad x0)), (1, .int x1), (2, .ref (ad x2)), (3, .int x3)]) (Nat.le_of_ble_eq_true rfl) rfl (fun ls hl => ?_)
  unfold f_X1_spellSyllable at hf
  refine lv_iload_n hx hb dX1_spellSyllable_0 rfl (lv_at hl 1 rfl) ?_
  refine lv_iconst (v := (0 : Int32)) hx hb dX1_spellSyllable_1 (by decide) ?_
  obtain ⟨z_1, hz_2, hf⟩ := aw_bind_some hf
  refine aw_NI (As := [.int x1, .int ((0 : Int32))]) (rest := []) X G hl.1 cr_X1_33 (c_X10_partOf l hz_2) ⟨rfl, rfl⟩ rfl rfl rfl ⟨Nat.le_of_ble_eq_true rfl, Nat.le_of_ble_eq_true rfl⟩ (Nat.le_of_ble_eq_true rfl) dX1_spellSyllable_2 ⟨Nat.zero_le _, Nat.zero_le _⟩ (fun H locs G => ?_)
  refine lv_istore (lv' := [(4, .int z_1.1), (0, .ref (ad x0)), (1, .int x1), (2, .ref (ad x2)), (3, .int x3)]) hx hb dX1_spellSyllable_5 hl (by decide) rfl (fun ls hl => ?_)
  refine lv_iload_n hx hb dX1_spellSyllable_7 rfl (lv_at hl 2 rfl) ?_
  refine lv_iconst (v := (1 : Int32)) hx hb dX1_spellSyllable_8 (by decide) ?_
  obtain ⟨z_3, hz_4, hf⟩ := aw_bind_some hf
  refine aw_NI (As := [.int x1, .int ((1 : Int32))]) (rest := []) X G hl.1 cr_X1_33 (c_X10_partOf l hz_4) ⟨rfl, rfl⟩ rfl rfl rfl ⟨Nat.le_of_ble_eq_true rfl, Nat.le_of_ble_eq_true rfl⟩ (Nat.le_of_ble_eq_true rfl) dX1_spellSyllable_9 ⟨Nat.zero_le _, Nat.zero_le _⟩ (fun H locs G => ?_)
  refine lv_istore (lv' := [(5, .int z_3.1), (4, .int z_1.1), (0, .ref (ad x0)), (1, .int x1), (2, .ref (ad x2)), (3, .int x3)]) hx hb dX1_spellSyllable_12 hl (by decide) rfl (fun ls hl => ?_)
  refine lv_iload_n hx hb dX1_spellSyllable_14 rfl (lv_at hl 3 rfl) ?_
  refine lv_iconst (v := (2 : Int32)) hx hb dX1_spellSyllable_15 (by decide) ?_
  obtain ⟨z_5, hz_6, hf⟩ := aw_bind_some hf
  refine aw_NI (As := [.int x1, .int ((2 : Int32))]) (rest := []) X G hl.1 cr_X1_33 (c_X10_partOf l hz_6) ⟨rfl, rfl⟩ rfl rfl rfl ⟨Nat.le_of_ble_eq_true rfl, Nat.le_of_ble_eq_true rfl⟩ (Nat.le_of_ble_eq_true rfl) dX1_spellSyllable_16 ⟨Nat.zero_le _, Nat.zero_le _⟩ (fun H locs G => ?_)
  refine lv_istore (lv' := [(6, .int z_5.1), (5, .int z_3.1), (4, .int z_1.1), (0, .ref (ad x0)), (1, .int x1), (2, .ref (ad x2)), (3, .int x3)]) hx hb dX1_spellSyllable_19 hl (by decide) rfl (fun ls hl => ?_)
  refine lv_iload_n hx hb dX1_spellSyllable_21 rfl (lv_at hl 4 rfl) ?_
  refine lv_iconst (v := (3 : Int32)) hx hb dX1_spellSyllable_22 (by decide) ?_
  obtain ⟨z_7, hz_8, hf⟩ := aw_bind_some hf
  refine aw_NI (As := [.int x1, .int ((3 : Int32))]) (rest := []) X G hl.1 cr_X1_33 (c_X10_partOf l hz_8) ⟨rfl, rfl⟩ rfl rfl rfl ⟨Nat.le_of_ble_eq_true rfl, Nat.le_of_ble_eq_true rfl⟩ (Nat.le_of_ble_eq_true rfl) dX1_spellSyllable_23 ⟨Nat.zero_le _, Nat.zero_le _⟩ (fun H locs G => ?_)
  refine lv_istore (lv' := [(7, .int z_7.1), (6, .int z_5.1), (5, .int z_3.1), (4, .int z_1.1), (0, .ref (ad x0)), (1, .int x1), (2, .ref (ad x2)), (3, .int x3)]) hx hb dX1_spellSyllable_26 hl (by decide) rfl (fun ls hl => ?_)
  refine lv_iload_n hx hb dX1_spellSyllable_28 rfl (lv_at hl 7 rfl) ?_
  refine lv_istore (lv' := [(8, .int x3), (7, .int z_7.1), (6, .int z_5.1), (5, .int z_3.1), (4, .int z_1.1), (0, .ref (ad x0)), (1, .int x1), (2, .ref (ad x2)), (3, .int x3)]) hx hb dX1_spellSyllable_29 hl (by decide) rfl (fun ls hl => ?_)
  refine lv_aload_n hx hb dX1_spellSyllable_31 rfl (lv_at hl 5 rfl) ?_
  obtain ⟨hc_9, hf⟩ := aw_chk_some hf
  refine gf_X1_22 hx hb G hown hc_9 dX1_spellSyllable_32 ?_
  refine lv_iconst (v := (1 : Int32)) hx hb dX1_spellSyllable_35 (by decide) ?_
  refine lv_icmp_ne (tgt := 61) hx hb dX1_spellSyllable_36 (by decide) (fun hc => ?_) (fun hc => ?_)
  · have hf := aw_ite_f hc hf
    refine lv_iload hx hb dX1_spellSyllable_61 (lv_at hl 4 rfl) ?_
    refine lv_bipush (v := (8 : Int32)) hx hb dX1_spellSyllable_63 (by decide) ?_
    refine lv_icmp_eq (tgt := 82) hx hb dX1_spellSyllable_65 (by decide) (fun hc => ?_) (fun hc => ?_)
    · have hf := aw_ite_t hc hf
      exact w_X1_spellSyllable_J82 X hf  (lv_sub hl [5, 7, 3, 2, 1, 0] rfl) G
    · have hf := aw_ite_f hc hf
      refine lv_aload_n hx hb dX1_spellSyllable_68 rfl (lv_at hl 7 rfl) ?_
      refine lv_iload hx hb dX1_spellSyllable_69 (lv_at hl 0 rfl) ?_
      refine lv_iinc (v := x3 + 1) (lv' := [(8, .int (x3 + 1)), (7, .int z_7.1), (6, .int z_5.1), (5, .int z_3.1), (4, .int z_1.1), (0, .ref (ad x0)), (1, .int x1), (2, .ref (ad x2)), (3, .int x3)]) hx hb dX1_spellSyllable_71 hl (k := 0) rfl rfl (by decide) rfl (fun ls hl => ?_)
      refine lv_aload_n hx hb dX1_spellSyllable_74 rfl (lv_at hl 5 rfl) ?_
      obtain ⟨q_30, hq_31, hf⟩ := aw_bind_some hf
      refine gf_X1_9 hx hb G hown hc_9 hq_31 dX1_spellSyllable_75 ?_
      refine lv_iload hx hb dX1_spellSyllable_78 (lv_at hl 4 rfl) ?_
      obtain ⟨hc_32, hf⟩ := aw_chk_some hf
      refine aw_ial hx hb G hc_32 dX1_spellSyllable_80 ?_
      obtain ⟨hc_33, hf⟩ := aw_chk_some hf
      refine aw_ias hx hb G hc_33 dX1_spellSyllable_81 (fun H locs G => ?_)
      exact w_X1_spellSyllable_J82 X hf  (lv_sub hl [5, 7, 3, 2, 1, 0] rfl) G
  · have hf := aw_ite_t hc hf
    refine lv_aload_n hx hb dX1_spellSyllable_39 rfl (lv_at hl 7 rfl) ?_
    refine lv_iload hx hb dX1_spellSyllable_40 (lv_at hl 0 rfl) ?_
    refine lv_iinc (v := x3 + 1) (lv' := [(8, .int (x3 + 1)), (7, .int z_7.1), (6, .int z_5.1), (5, .int z_3.1), (4, .int z_1.1), (0, .ref (ad x0)), (1, .int x1), (2, .ref (ad x2)), (3, .int x3)]) hx hb dX1_spellSyllable_42 hl (k := 0) rfl rfl (by decide) rfl (fun ls hl => ?_)
    refine lv_aload_n hx hb dX1_spellSyllable_45 rfl (lv_at hl 5 rfl) ?_
    obtain ⟨q_34, hq_35, hf⟩ := aw_bind_some hf
    refine gf_X1_9 hx hb G hown hc_9 hq_35 dX1_spellSyllable_46 ?_
    refine lv_iconst (v := (4 : Int32)) hx hb dX1_spellSyllable_49 (by decide) ?_
    refine lv_iload hx hb dX1_spellSyllable_50 (lv_at hl 4 rfl) ?_
    refine lv_imul hx hb dX1_spellSyllable_52 ?_
    refine lv_iload hx hb dX1_spellSyllable_53 (lv_at hl 3 rfl) ?_
    refine lv_iadd hx hb dX1_spellSyllable_55 ?_
    obtain ⟨hc_36, hf⟩ := aw_chk_some hf
    refine aw_ial hx hb G hc_36 dX1_spellSyllable_56 ?_
    obtain ⟨hc_37, hf⟩ := aw_chk_some hf
    refine aw_ias hx hb G hc_37 dX1_spellSyllable_57 (fun H locs G => ?_)
    refine lv_goto (tgt := 99) hx hb dX1_spellSyllable_58 (by decide) ?_
    exact w_X1_spellSyllable_J99 X hf  (lv_sub hl [5, 7, 2, 1, 0] rfl) G
def rm_X1_unitsWith : Room := { frames := 0, cells := 0, slots := 0, locals := 0 }
def f_X1_unitsWith_J28 (σ : Sg) (kb6 : Int32 → Int32 → Dt → Option (Int32 × Dt)) (x0 : Nat) (x1 : Int32) (x2 : Int32) (x3 : Int32) (x4 : Int32) (x5 : Int32) (d : Dt) : Option (Int32 × Dt) :=
  kb6 x4 (x5 + 1) d
def f_X1_unitsWith_B6 (σ : Sg) (kb6 : Int32 → Int32 → Dt → Option (Int32 × Dt)) (k6 : Int32 → Dt → Option (Int32 × Dt)) (x0 : Nat) (x1 : Int32) (x2 : Int32) (x3 : Int32) (x4 : Int32) (x5 : Int32) (d : Dt) : Option (Int32 × Dt) :=
  if (x2 + x3) ≤ x5 then k6 x4 d else aw_chk (aw_O σ 1 5 x0) ((σ.2.2 x0 2).bind (fun q_2 => aw_chk (aw_I σ 20 q_2 x5) (if (d.1 q_2 x5.toNatClampNeg) = x1 then f_X1_unitsWith_J28 σ kb6 x0 x1 x2 x3 (x4 + 1) x5 d else f_X1_unitsWith_J28 σ kb6 x0 x1 x2 x3 x4 x5 d)))
def f_X1_unitsWith_L6 (σ : Sg) (n : Nat) (k6 : Int32 → Dt → Option (Int32 × Dt)) (x0 : Nat) (x1 : Int32) (x2 : Int32) (x3 : Int32) : Int32 → Int32 → Dt → Option (Int32 × Dt) := match n with
  | 0 => fun _ _ _ => none
  | n + 1 => fun x4 x5 d => f_X1_unitsWith_B6 σ (f_X1_unitsWith_L6 σ n k6 x0 x1 x2 x3) k6 x0 x1 x2 x3 x4 x5 d
def f_X1_unitsWith (σ : Sg) (x0 : Nat) (x1 : Int32) (x2 : Int32) (x3 : Int32) (d : Dt) : Option (Int32 × Dt) :=
  f_X1_unitsWith_L6 σ aw_FU (fun x4_5 d_6 => some (x4_5, d_6)) x0 x1 x2 x3 ((0 : Int32)) x2 d
section W_X1_unitsWith
variable {p : Program} {l : Launch} {e : Env} {s : State} {m : MethodId} {args : Array Value} {below : List Frame} {meth : Method} {c : Code}
variable {D : va_G} {cA : Nat → ClassId} {base : Nat} {ad : Nat → Nat} {σ : Sg}
set_option maxHeartbeats 4000000 in
set_option maxRecDepth 100000 in
theorem w_X1_unitsWith_J28 {z : Int32 × Dt} (X : aw_X p c cX1_unitsWith 6 s RX1 m meth (some .int)) {kb6 : Int32 → Int32 → Dt → Option (Int32 × Dt)} {x0 : Nat} {x1 : Int32} {x2 : Int32} {x3 : Int32} {x4 : Int32} {x5 : Int32} {d : Dt} (hf : f_X1_unitsWith_J28 σ kb6 x0 x1 x2 x3 x4 x5 d = some z) (hkb6 : ∀ (y4 : Int32) (y5 : Int32) (d : Dt), kb6 y4 y5 d = some z → ∀ (H : Heap) (locs : List Loc) (ls : Array Slot), lv_has ls 6 [(0, .ref (ad x0)), (1, .int x1), (2, .int x2), (3, .int x3), (4, .int y4), (5, .int y5)] → aw_G D cA base ad σ d s H locs → W p l e rm_X1_unitsWith s m args below meth c H locs 0 0 (aw_Ei D cA base ad σ below args s z) (F0 m 6 ls [])) {H : Heap} {locs : List Loc} {ls : Array Slot} (hl : lv_has ls 6 [(0, .ref (ad x0)), (1, .int x1), (2, .int x2), (3, .int x3), (4, .int x4), (5, .int x5)]) (G : aw_G D cA base ad σ d s H locs) : W p l e rm_X1_unitsWith s m args below meth c H locs 0 0 (aw_Ei D cA base ad σ below args s z) (F0 m 28 ls []) := by
  have hx := X.1; have hb := X.2.1; have hml := X.2.2.1; have hown := X.2.2.2.1
  unfold f_X1_unitsWith_J28 at hf
  refine lv_iinc (v := x5 + 1) (lv' := [(5, .int (x5 + 1)), (0, .ref (ad x0)), (1, .int x1), (2, .int x2), (3, .int x3), (4, .int x4)]) hx hb dX1_unitsWith_28 hl (k := 5) rfl rfl (by decide) rfl (fun ls hl => ?_)
  refine lv_goto (tgt := 6) hx hb dX1_unitsWith_31 (by decide) ?_
  exact hkb6 _ _ _ hf _ _ _ (lv_sub hl [1, 2, 3, 4, 5, 0] rfl) G
set_option maxHeartbeats 4000000 in
set_option maxRecDepth 100000 in
theorem w_X1_unitsWith_B6 {z : Int32 × Dt} (X : aw_X p c cX1_unitsWith 6 s RX1 m meth (some .int)) {kb6 : Int32 → Int32 → Dt → Option (Int32 × Dt)} {k6 : Int32 → Dt → Option (Int32 × Dt)} {x0 : Nat} {x1 : Int32} {x2 : Int32} {x3 : Int32} {x4 : Int32} {x5 : Int32} {d : Dt} (hf : f_X1_unitsWith_B6 σ kb6 k6 x0 x1 x2 x3 x4 x5 d = some z) (hkb6 : ∀ (y4 : Int32) (y5 : Int32) (d : Dt), kb6 y4 y5 d = some z → ∀ (H : Heap) (locs : List Loc) (ls : Array Slot), lv_has ls 6 [(0, .ref (ad x0)), (1, .int x1), (2, .int x2), (3, .int x3), (4, .int y4), (5, .int y5)] → aw_G D cA base ad σ d s H locs → W p l e rm_X1_unitsWith s m args below meth c H locs 0 0 (aw_Ei D cA base ad σ below args s z) (F0 m 6 ls [])) (hk6 : ∀ (y4 : Int32) (d : Dt), k6 y4 d = some z → ∀ (H : Heap) (locs : List Loc) (ls : Array Slot), lv_has ls 6 [(4, .int y4)] → aw_G D cA base ad σ d s H locs → W p l e rm_X1_unitsWith s m args below meth c H locs 0 0 (aw_Ei D cA base ad σ below args s z) (F0 m 34 ls [])) {H : Heap} {locs : List Loc} {ls : Array Slot} (hl : lv_has ls 6 [(0, .ref (ad x0)), (1, .int x1), (2, .int x2), (3, .int x3), (4, .int x4), (5, .int x5)]) (G : aw_G D cA base ad σ d s H locs) : W p l e rm_X1_unitsWith s m args below meth c H locs 0 0 (aw_Ei D cA base ad σ below args s z) (F0 m 6 ls []) := by
  have hx := X.1; have hb := X.2.1; have hml := X.2.2.1; have hown := X.2.2.2.1
  unfold f_X1_unitsWith_B6 at hf
  refine lv_iload hx hb dX1_unitsWith_6 (lv_at hl 5 rfl) ?_
  refine lv_iload_n hx hb dX1_unitsWith_8 rfl (lv_at hl 2 rfl) ?_
  refine lv_iload_n hx hb dX1_unitsWith_9 rfl (lv_at hl 3 rfl) ?_
  refine lv_iadd hx hb dX1_unitsWith_10 ?_
  refine lv_icmp_ge (tgt := 34) hx hb dX1_unitsWith_11 (by decide) (fun hc => ?_) (fun hc => ?_)
  · have hf := aw_ite_t hc hf
    exact hk6 _ _ hf _ _ _ (lv_sub hl [4] rfl) G
  · have hf := aw_ite_f hc hf
    refine lv_aload_n hx hb dX1_unitsWith_14 rfl (lv_at hl 0 rfl) ?_
    obtain ⟨hc_1, hf⟩ := aw_chk_some hf
    obtain ⟨q_2, hq_3, hf⟩ := aw_bind_some hf
    refine gf_X1_9 hx hb G hown hc_1 hq_3 dX1_unitsWith_15 ?_
    refine lv_iload hx hb dX1_unitsWith_18 (lv_at hl 5 rfl) ?_
    obtain ⟨hc_4, hf⟩ := aw_chk_some hf
    refine aw_ial hx hb G hc_4 dX1_unitsWith_20 ?_
    refine lv_iload_n hx hb dX1_unitsWith_21 rfl (lv_at hl 1 rfl) ?_
    refine lv_icmp_ne (tgt := 28) hx hb dX1_unitsWith_22 (by decide) (fun hc => ?_) (fun hc => ?_)
    · have hf := aw_ite_f hc hf
      exact w_X1_unitsWith_J28 X hf hkb6 (lv_sub hl [0, 1, 2, 3, 4, 5] rfl) G
    · have hf := aw_ite_t hc hf
      refine lv_iinc (v := x4 + 1) (lv' := [(4, .int (x4 + 1)), (0, .ref (ad x0)), (1, .int x1), (2, .int x2), (3, .int x3), (5, .int x5)]) hx hb dX1_unitsWith_25 hl (k := 4) rfl rfl (by decide) rfl (fun ls hl => ?_)
      exact w_X1_unitsWith_J28 X hf hkb6 (lv_sub hl [1, 2, 3, 4, 0, 5] rfl) G
theorem w_X1_unitsWith_L6 {z : Int32 × Dt} (X : aw_X p c cX1_unitsWith 6 s RX1 m meth (some .int)) {k6 : Int32 → Dt → Option (Int32 × Dt)} {x0 : Nat} {x1 : Int32} {x2 : Int32} {x3 : Int32} (n : Nat) {x4 : Int32} {x5 : Int32} {d : Dt} (hf : f_X1_unitsWith_L6 σ n k6 x0 x1 x2 x3 x4 x5 d = some z) (hk6 : ∀ (y4 : Int32) (d : Dt), k6 y4 d = some z → ∀ (H : Heap) (locs : List Loc) (ls : Array Slot), lv_has ls 6 [(4, .int y4)] → aw_G D cA base ad σ d s H locs → W p l e rm_X1_unitsWith s m args below meth c H locs 0 0 (aw_Ei D cA base ad σ below args s z) (F0 m 34 ls [])) {H : Heap} {locs : List Loc} {ls : Array Slot} (hl : lv_has ls 6 [(0, .ref (ad x0)), (1, .int x1), (2, .int x2), (3, .int x3), (4, .int x4), (5, .int x5)]) (G : aw_G D cA base ad σ d s H locs) : W p l e rm_X1_unitsWith s m args below meth c H locs 0 0 (aw_Ei D cA base ad σ below args s z) (F0 m 6 ls []) := by
  induction n generalizing x4 x5 d H locs ls with
  | zero => exact absurd (show (none : Option (Int32 × Dt)) = some z from hf) (by simp)
  | succ n ih => exact w_X1_unitsWith_B6 X (kb6 := f_X1_unitsWith_L6 σ n k6 x0 x1 x2 x3) hf  (fun x4 x5 d hf H locs ls hl G => ih hf hl G) hk6 hl G
end W_X1_unitsWith
set_option maxHeartbeats 4000000 in
set_option maxRecDepth 100000 in
theorem c_X1_unitsWith (l : Launch) {σ : Sg} {x0 : Nat} {x1 : Int32} {x2 : Int32} {x3 : Int32} {d : Dt} {z : Int32 × Dt} (hf : f_X1_unitsWith σ x0 x1 x2 x3 d = some z) : aw_Mi l yX1_unitsWith (Cond.code yX1_unitsWith cX1_unitsWith 6 (some .int)) rm_X1_unitsWith (fun ad => [.ref (ad x0), .int x1, .int x2, .int x3]) σ d z := by
  intro D cA base ad
  refine aw_ofW (own := RX1) (cc := cX1_unitsWith) (nL := 6) (ret := some .int) (by decide) rfl rfl ?_
  intro p e s m below meth c X hnm G
  have hx := X.1; have hb := X.2.1; have hml := X.2.2.1; have hown := X.2.2.2.1
  refine aw_ls (lv := [(0, .ref (ad x0)), (1, .int x1), (2, .int x2), (3, .int x3)]) (Nat.le_of_ble_eq_true rfl) rfl (fun ls hl => ?_)
  unfold f_X1_unitsWith at hf
  refine lv_iconst (v := (0 : Int32)) hx hb dX1_unitsWith_0 (by decide) ?_
  refine lv_istore (lv' := [(4, .int ((0 : Int32))), (0, .ref (ad x0)), (1, .int x1), (2, .int x2), (3, .int x3)]) hx hb dX1_unitsWith_1 hl (by decide) rfl (fun ls hl => ?_)
  refine lv_iload_n hx hb dX1_unitsWith_3 rfl (lv_at hl 3 rfl) ?_
  refine lv_istore (lv' := [(5, .int x2), (4, .int ((0 : Int32))), (0, .ref (ad x0)), (1, .int x1), (2, .int x2), (3, .int x3)]) hx hb dX1_unitsWith_4 hl (by decide) rfl (fun ls hl => ?_)
  refine w_X1_unitsWith_L6 X aw_FU hf  (fun x4_5 d_6 hf H locs ls hl G => ?_) (lv_sub hl [2, 3, 4, 5, 1, 0] rfl) G
  refine lv_iload hx hb dX1_unitsWith_34 (lv_at hl 0 rfl) ?_
  exact aw_reti X G hf dX1_unitsWith_36
def rm_X1_unmarkedTones : Room := { frames := 0, cells := 0, slots := 0, locals := 0 }
def f_X1_unmarkedTones_J21 (σ : Sg) (kb4 : Int32 → Int32 → Dt → Option (Int32 × Dt)) (x0 : Nat) (x1 : Int32) (x2 : Int32) (d : Dt) : Option (Int32 × Dt) :=
  kb4 x1 (x2 + 1) d
def f_X1_unmarkedTones_B4 (σ : Sg) (kb4 : Int32 → Int32 → Dt → Option (Int32 × Dt)) (k4 : Int32 → Dt → Option (Int32 × Dt)) (x0 : Nat) (x1 : Int32) (x2 : Int32) (d : Dt) : Option (Int32 × Dt) :=
  if ((3 : Int32)) ≤ x2 then k4 x1 d else aw_chk (aw_O σ 1 5 x0) ((σ.2.2 x0 3).bind (fun q_2 => aw_chk (aw_I σ 22 q_2 x2) (if (d.1 q_2 x2.toNatClampNeg) = 0 then f_X1_unmarkedTones_J21 σ kb4 x0 (x1 + 1) x2 d else f_X1_unmarkedTones_J21 σ kb4 x0 x1 x2 d)))
def f_X1_unmarkedTones_L4 (σ : Sg) (n : Nat) (k4 : Int32 → Dt → Option (Int32 × Dt)) (x0 : Nat) : Int32 → Int32 → Dt → Option (Int32 × Dt) := match n with
  | 0 => fun _ _ _ => none
  | n + 1 => fun x1 x2 d => f_X1_unmarkedTones_B4 σ (f_X1_unmarkedTones_L4 σ n k4 x0) k4 x0 x1 x2 d
def f_X1_unmarkedTones (σ : Sg) (x0 : Nat) (d : Dt) : Option (Int32 × Dt) :=
  f_X1_unmarkedTones_L4 σ aw_FU (fun x1_5 d_6 => some (x1_5, d_6)) x0 ((0 : Int32)) ((0 : Int32)) d
section W_X1_unmarkedTones
variable {p : Program} {l : Launch} {e : Env} {s : State} {m : MethodId} {args : Array Value} {below : List Frame} {meth : Method} {c : Code}
variable {D : va_G} {cA : Nat → ClassId} {base : Nat} {ad : Nat → Nat} {σ : Sg}
set_option maxHeartbeats 4000000 in
set_option maxRecDepth 100000 in
theorem w_X1_unmarkedTones_J21 {z : Int32 × Dt} (X : aw_X p c cX1_unmarkedTones 3 s RX1 m meth (some .int)) {kb4 : Int32 → Int32 → Dt → Option (Int32 × Dt)} {x0 : Nat} {x1 : Int32} {x2 : Int32} {d : Dt} (hf : f_X1_unmarkedTones_J21 σ kb4 x0 x1 x2 d = some z) (hkb4 : ∀ (y1 : Int32) (y2 : Int32) (d : Dt), kb4 y1 y2 d = some z → ∀ (H : Heap) (locs : List Loc) (ls : Array Slot), lv_has ls 3 [(0, .ref (ad x0)), (1, .int y1), (2, .int y2)] → aw_G D cA base ad σ d s H locs → W p l e rm_X1_unmarkedTones s m args below meth c H locs 0 0 (aw_Ei D cA base ad σ below args s z) (F0 m 4 ls [])) {H : Heap} {locs : List Loc} {ls : Array Slot} (hl : lv_has ls 3 [(0, .ref (ad x0)), (1, .int x1), (2, .int x2)]) (G : aw_G D cA base ad σ d s H locs) : W p l e rm_X1_unmarkedTones s m args below meth c H locs 0 0 (aw_Ei D cA base ad σ below args s z) (F0 m 21 ls []) := by
  have hx := X.1; have hb := X.2.1; have hml := X.2.2.1; have hown := X.2.2.2.1
  unfold f_X1_unmarkedTones_J21 at hf
  refine lv_iinc (v := x2 + 1) (lv' := [(2, .int (x2 + 1)), (0, .ref (ad x0)), (1, .int x1)]) hx hb dX1_unmarkedTones_21 hl (k := 2) rfl rfl (by decide) rfl (fun ls hl => ?_)
  refine lv_goto (tgt := 4) hx hb dX1_unmarkedTones_24 (by decide) ?_
  exact hkb4 _ _ _ hf _ _ _ (lv_sub hl [1, 2, 0] rfl) G
set_option maxHeartbeats 4000000 in
set_option maxRecDepth 100000 in
theorem w_X1_unmarkedTones_B4 {z : Int32 × Dt} (X : aw_X p c cX1_unmarkedTones 3 s RX1 m meth (some .int)) {kb4 : Int32 → Int32 → Dt → Option (Int32 × Dt)} {k4 : Int32 → Dt → Option (Int32 × Dt)} {x0 : Nat} {x1 : Int32} {x2 : Int32} {d : Dt} (hf : f_X1_unmarkedTones_B4 σ kb4 k4 x0 x1 x2 d = some z) (hkb4 : ∀ (y1 : Int32) (y2 : Int32) (d : Dt), kb4 y1 y2 d = some z → ∀ (H : Heap) (locs : List Loc) (ls : Array Slot), lv_has ls 3 [(0, .ref (ad x0)), (1, .int y1), (2, .int y2)] → aw_G D cA base ad σ d s H locs → W p l e rm_X1_unmarkedTones s m args below meth c H locs 0 0 (aw_Ei D cA base ad σ below args s z) (F0 m 4 ls [])) (hk4 : ∀ (y1 : Int32) (d : Dt), k4 y1 d = some z → ∀ (H : Heap) (locs : List Loc) (ls : Array Slot), lv_has ls 3 [(1, .int y1)] → aw_G D cA base ad σ d s H locs → W p l e rm_X1_unmarkedTones s m args below meth c H locs 0 0 (aw_Ei D cA base ad σ below args s z) (F0 m 27 ls [])) {H : Heap} {locs : List Loc} {ls : Array Slot} (hl : lv_has ls 3 [(0, .ref (ad x0)), (1, .int x1), (2, .int x2)]) (G : aw_G D cA base ad σ d s H locs) : W p l e rm_X1_unmarkedTones s m args below meth c H locs 0 0 (aw_Ei D cA base ad σ below args s z) (F0 m 4 ls []) := by
  have hx := X.1; have hb := X.2.1; have hml := X.2.2.1; have hown := X.2.2.2.1
  unfold f_X1_unmarkedTones_B4 at hf
  refine lv_iload_n hx hb dX1_unmarkedTones_4 rfl (lv_at hl 2 rfl) ?_
  refine lv_iconst (v := (3 : Int32)) hx hb dX1_unmarkedTones_5 (by decide) ?_
  refine lv_icmp_ge (tgt := 27) hx hb dX1_unmarkedTones_6 (by decide) (fun hc => ?_) (fun hc => ?_)
  · have hf := aw_ite_t hc hf
    exact hk4 _ _ hf _ _ _ (lv_sub hl [1] rfl) G
  · have hf := aw_ite_f hc hf
    refine lv_aload_n hx hb dX1_unmarkedTones_9 rfl (lv_at hl 0 rfl) ?_
    obtain ⟨hc_1, hf⟩ := aw_chk_some hf
    obtain ⟨q_2, hq_3, hf⟩ := aw_bind_some hf
    refine gf_X1_15 hx hb G hown hc_1 hq_3 dX1_unmarkedTones_10 ?_
    refine lv_iload_n hx hb dX1_unmarkedTones_13 rfl (lv_at hl 2 rfl) ?_
    obtain ⟨hc_4, hf⟩ := aw_chk_some hf
    refine aw_zal hx hb G hc_4 dX1_unmarkedTones_14 ?_
    refine lv_if_ne (tgt := 21) hx hb dX1_unmarkedTones_15 (by decide) (fun hc => ?_) (fun hc => ?_)
    · have hf := aw_ite_f hc hf
      exact w_X1_unmarkedTones_J21 X hf hkb4 (lv_sub hl [0, 1, 2] rfl) G
    · have hf := aw_ite_t hc hf
      refine lv_iinc (v := x1 + 1) (lv' := [(1, .int (x1 + 1)), (0, .ref (ad x0)), (2, .int x2)]) hx hb dX1_unmarkedTones_18 hl (k := 1) rfl rfl (by decide) rfl (fun ls hl => ?_)
      exact w_X1_unmarkedTones_J21 X hf hkb4 (lv_sub hl [1, 0, 2] rfl) G
theorem w_X1_unmarkedTones_L4 {z : Int32 × Dt} (X : aw_X p c cX1_unmarkedTones 3 s RX1 m meth (some .int)) {k4 : Int32 → Dt → Option (Int32 × Dt)} {x0 : Nat} (n : Nat) {x1 : Int32} {x2 : Int32} {d : Dt} (hf : f_X1_unmarkedTones_L4 σ n k4 x0 x1 x2 d = some z) (hk4 : ∀ (y1 : Int32) (d : Dt), k4 y1 d = some z → ∀ (H : Heap) (locs : List Loc) (ls : Array Slot), lv_has ls 3 [(1, .int y1)] → aw_G D cA base ad σ d s H locs → W p l e rm_X1_unmarkedTones s m args below meth c H locs 0 0 (aw_Ei D cA base ad σ below args s z) (F0 m 27 ls [])) {H : Heap} {locs : List Loc} {ls : Array Slot} (hl : lv_has ls 3 [(0, .ref (ad x0)), (1, .int x1), (2, .int x2)]) (G : aw_G D cA base ad σ d s H locs) : W p l e rm_X1_unmarkedTones s m args below meth c H locs 0 0 (aw_Ei D cA base ad σ below args s z) (F0 m 4 ls []) := by
  induction n generalizing x1 x2 d H locs ls with
  | zero => exact absurd (show (none : Option (Int32 × Dt)) = some z from hf) (by simp)
  | succ n ih => exact w_X1_unmarkedTones_B4 X (kb4 := f_X1_unmarkedTones_L4 σ n k4 x0) hf  (fun x1 x2 d hf H locs ls hl G => ih hf hl G) hk4 hl G
end W_X1_unmarkedTones
set_option maxHeartbeats 4000000 in
set_option maxRecDepth 100000 in
theorem c_X1_unmarkedTones (l : Launch) {σ : Sg} {x0 : Nat} {d : Dt} {z : Int32 × Dt} (hf : f_X1_unmarkedTones σ x0 d = some z) : aw_Mi l yX1_unmarkedTones (Cond.code yX1_unmarkedTones cX1_unmarkedTones 3 (some .int)) rm_X1_unmarkedTones (fun ad => [.ref (ad x0)]) σ d z := by
  intro D cA base ad
  refine aw_ofW (own := RX1) (cc := cX1_unmarkedTones) (nL := 3) (ret := some .int) (by decide) rfl rfl ?_
  intro p e s m below meth c X hnm G
  have hx := X.1; have hb := X.2.1; have hml := X.2.2.1; have hown := X.2.2.2.1
  refine aw_ls (lv := [(0, .ref (ad x0))]) (Nat.le_of_ble_eq_true rfl) rfl (fun ls hl => ?_)
  unfold f_X1_unmarkedTones at hf
  refine lv_iconst (v := (0 : Int32)) hx hb dX1_unmarkedTones_0 (by decide) ?_
  refine lv_istore_n (lv' := [(1, .int ((0 : Int32))), (0, .ref (ad x0))]) hx hb dX1_unmarkedTones_1 rfl hl (by decide) rfl (fun ls hl => ?_)
  refine lv_iconst (v := (0 : Int32)) hx hb dX1_unmarkedTones_2 (by decide) ?_
  refine lv_istore_n (lv' := [(2, .int ((0 : Int32))), (1, .int ((0 : Int32))), (0, .ref (ad x0))]) hx hb dX1_unmarkedTones_3 rfl hl (by decide) rfl (fun ls hl => ?_)
  refine w_X1_unmarkedTones_L4 X aw_FU hf  (fun x1_5 d_6 hf H locs ls hl G => ?_) (lv_sub hl [2, 1, 0] rfl) G
  refine lv_iload_n hx hb dX1_unmarkedTones_27 rfl (lv_at hl 0 rfl) ?_
  exact aw_reti X G hf dX1_unmarkedTones_28
def rm_X1_markedTonesWith : Room := { frames := 0, cells := 0, slots := 0, locals := 0 }
def f_X1_markedTonesWith_J34 (σ : Sg) (kb4 : Int32 → Int32 → Dt → Option (Int32 × Dt)) (x0 : Nat) (x1 : Int32) (x2 : Int32) (x3 : Int32) (d : Dt) : Option (Int32 × Dt) :=
  kb4 x2 (x3 + 1) d
def f_X1_markedTonesWith_B4 (σ : Sg) (kb4 : Int32 → Int32 → Dt → Option (Int32 × Dt)) (k4 : Int32 → Dt → Option (Int32 × Dt)) (x0 : Nat) (x1 : Int32) (x2 : Int32) (x3 : Int32) (d : Dt) : Option (Int32 × Dt) :=
  if ((3 : Int32)) ≤ x3 then k4 x2 d else aw_chk (aw_O σ 1 5 x0) ((σ.2.2 x0 3).bind (fun q_2 => aw_chk (aw_I σ 22 q_2 x3) (if (d.1 q_2 x3.toNatClampNeg) = 0 then f_X1_markedTonesWith_J34 σ kb4 x0 x1 x2 x3 d else (σ.2.2 x0 2).bind (fun q_5 => aw_chk (aw_I σ 20 q_5 (((44 : Int32)) + x3)) (if (d.1 q_5 (((44 : Int32)) + x3).toNatClampNeg) = x1 then f_X1_markedTonesWith_J34 σ kb4 x0 x1 (x2 + 1) x3 d else f_X1_markedTonesWith_J34 σ kb4 x0 x1 x2 x3 d)))))
def f_X1_markedTonesWith_L4 (σ : Sg) (n : Nat) (k4 : Int32 → Dt → Option (Int32 × Dt)) (x0 : Nat) (x1 : Int32) : Int32 → Int32 → Dt → Option (Int32 × Dt) := match n with
  | 0 => fun _ _ _ => none
  | n + 1 => fun x2 x3 d => f_X1_markedTonesWith_B4 σ (f_X1_markedTonesWith_L4 σ n k4 x0 x1) k4 x0 x1 x2 x3 d
def f_X1_markedTonesWith (σ : Sg) (x0 : Nat) (x1 : Int32) (d : Dt) : Option (Int32 × Dt) :=
  f_X1_markedTonesWith_L4 σ aw_FU (fun x2_8 d_9 => some (x2_8, d_9)) x0 x1 ((0 : Int32)) ((0 : Int32)) d
section W_X1_markedTonesWith
variable {p : Program} {l : Launch} {e : Env} {s : State} {m : MethodId} {args : Array Value} {below : List Frame} {meth : Method} {c : Code}
variable {D : va_G} {cA : Nat → ClassId} {base : Nat} {ad : Nat → Nat} {σ : Sg}
set_option maxHeartbeats 4000000 in
set_option maxRecDepth 100000 in
theorem w_X1_markedTonesWith_J34 {z : Int32 × Dt} (X : aw_X p c cX1_markedTonesWith 4 s RX1 m meth (some .int)) {kb4 : Int32 → Int32 → Dt → Option (Int32 × Dt)} {x0 : Nat} {x1 : Int32} {x2 : Int32} {x3 : Int32} {d : Dt} (hf : f_X1_markedTonesWith_J34 σ kb4 x0 x1 x2 x3 d = some z) (hkb4 : ∀ (y2 : Int32) (y3 : Int32) (d : Dt), kb4 y2 y3 d = some z → ∀ (H : Heap) (locs : List Loc) (ls : Array Slot), lv_has ls 4 [(0, .ref (ad x0)), (1, .int x1), (2, .int y2), (3, .int y3)] → aw_G D cA base ad σ d s H locs → W p l e rm_X1_markedTonesWith s m args below meth c H locs 0 0 (aw_Ei D cA base ad σ below args s z) (F0 m 4 ls [])) {H : Heap} {locs : List Loc} {ls : Array Slot} (hl : lv_has ls 4 [(0, .ref (ad x0)), (1, .int x1), (2, .int x2), (3, .int x3)]) (G : aw_G D cA base ad σ d s H locs) : W p l e rm_X1_markedTonesWith s m args below meth c H locs 0 0 (aw_Ei D cA base ad σ below args s z) (F0 m 34 ls []) := by
  have hx := X.1; have hb := X.2.1; have hml := X.2.2.1; have hown := X.2.2.2.1
  unfold f_X1_markedTonesWith_J34 at hf
  refine lv_iinc (v := x3 + 1) (lv' := [(3, .int (x3 + 1)), (0, .ref (ad x0)), (1, .int x1), (2, .int x2)]) hx hb dX1_markedTonesWith_34 hl (k := 3) rfl rfl (by decide) rfl (fun ls hl => ?_)
  refine lv_goto (tgt := 4) hx hb dX1_markedTonesWith_37 (by decide) ?_
  exact hkb4 _ _ _ hf _ _ _ (lv_sub hl [1, 2, 3, 0] rfl) G
set_option maxHeartbeats 4000000 in
set_option maxRecDepth 100000 in
theorem w_X1_markedTonesWith_B4 {z : Int32 × Dt} (X : aw_X p c cX1_markedTonesWith 4 s RX1 m meth (some .int)) {kb4 : Int32 → Int32 → Dt → Option (Int32 × Dt)} {k4 : Int32 → Dt → Option (Int32 × Dt)} {x0 : Nat} {x1 : Int32} {x2 : Int32} {x3 : Int32} {d : Dt} (hf : f_X1_markedTonesWith_B4 σ kb4 k4 x0 x1 x2 x3 d = some z) (hkb4 : ∀ (y2 : Int32) (y3 : Int32) (d : Dt), kb4 y2 y3 d = some z → ∀ (H : Heap) (locs : List Loc) (ls : Array Slot), lv_has ls 4 [(0, .ref (ad x0)), (1, .int x1), (2, .int y2), (3, .int y3)] → aw_G D cA base ad σ d s H locs → W p l e rm_X1_markedTonesWith s m args below meth c H locs 0 0 (aw_Ei D cA base ad σ below args s z) (F0 m 4 ls [])) (hk4 : ∀ (y2 : Int32) (d : Dt), k4 y2 d = some z → ∀ (H : Heap) (locs : List Loc) (ls : Array Slot), lv_has ls 4 [(2, .int y2)] → aw_G D cA base ad σ d s H locs → W p l e rm_X1_markedTonesWith s m args below meth c H locs 0 0 (aw_Ei D cA base ad σ below args s z) (F0 m 40 ls [])) {H : Heap} {locs : List Loc} {ls : Array Slot} (hl : lv_has ls 4 [(0, .ref (ad x0)), (1, .int x1), (2, .int x2), (3, .int x3)]) (G : aw_G D cA base ad σ d s H locs) : W p l e rm_X1_markedTonesWith s m args below meth c H locs 0 0 (aw_Ei D cA base ad σ below args s z) (F0 m 4 ls []) := by
  have hx := X.1; have hb := X.2.1; have hml := X.2.2.1; have hown := X.2.2.2.1
  unfold f_X1_markedTonesWith_B4 at hf
  refine lv_iload_n hx hb dX1_markedTonesWith_4 rfl (lv_at hl 3 rfl) ?_
  refine lv_iconst (v := (3 : Int32)) hx hb dX1_markedTonesWith_5 (by decide) ?_
  refine lv_icmp_ge (tgt := 40) hx hb dX1_markedTonesWith_6 (by decide) (fun hc => ?_) (fun hc => ?_)
  · have hf := aw_ite_t hc hf
    exact hk4 _ _ hf _ _ _ (lv_sub hl [2] rfl) G
  · have hf := aw_ite_f hc hf
    refine lv_aload_n hx hb dX1_markedTonesWith_9 rfl (lv_at hl 0 rfl) ?_
    obtain ⟨hc_1, hf⟩ := aw_chk_some hf
    obtain ⟨q_2, hq_3, hf⟩ := aw_bind_some hf
    refine gf_X1_15 hx hb G hown hc_1 hq_3 dX1_markedTonesWith_10 ?_
    refine lv_iload_n hx hb dX1_markedTonesWith_13 rfl (lv_at hl 3 rfl) ?_
    obtain ⟨hc_4, hf⟩ := aw_chk_some hf
    refine aw_zal hx hb G hc_4 dX1_markedTonesWith_14 ?_
    refine lv_if_eq (tgt := 34) hx hb dX1_markedTonesWith_15 (by decide) (fun hc => ?_) (fun hc => ?_)
    · have hf := aw_ite_t hc hf
      exact w_X1_markedTonesWith_J34 X hf hkb4 (lv_sub hl [0, 1, 2, 3] rfl) G
    · have hf := aw_ite_f hc hf
      refine lv_aload_n hx hb dX1_markedTonesWith_18 rfl (lv_at hl 0 rfl) ?_
      obtain ⟨q_5, hq_6, hf⟩ := aw_bind_some hf
      refine gf_X1_9 hx hb G hown hc_1 hq_6 dX1_markedTonesWith_19 ?_
      refine lv_bipush (v := (44 : Int32)) hx hb dX1_markedTonesWith_22 (by decide) ?_
      refine lv_iload_n hx hb dX1_markedTonesWith_24 rfl (lv_at hl 3 rfl) ?_
      refine lv_iadd hx hb dX1_markedTonesWith_25 ?_
      obtain ⟨hc_7, hf⟩ := aw_chk_some hf
      refine aw_ial hx hb G hc_7 dX1_markedTonesWith_26 ?_
      refine lv_iload_n hx hb dX1_markedTonesWith_27 rfl (lv_at hl 1 rfl) ?_
      refine lv_icmp_ne (tgt := 34) hx hb dX1_markedTonesWith_28 (by decide) (fun hc => ?_) (fun hc => ?_)
      · have hf := aw_ite_f hc hf
        exact w_X1_markedTonesWith_J34 X hf hkb4 (lv_sub hl [0, 1, 2, 3] rfl) G
      · have hf := aw_ite_t hc hf
        refine lv_iinc (v := x2 + 1) (lv' := [(2, .int (x2 + 1)), (0, .ref (ad x0)), (1, .int x1), (3, .int x3)]) hx hb dX1_markedTonesWith_31 hl (k := 2) rfl rfl (by decide) rfl (fun ls hl => ?_)
        exact w_X1_markedTonesWith_J34 X hf hkb4 (lv_sub hl [1, 2, 0, 3] rfl) G
theorem w_X1_markedTonesWith_L4 {z : Int32 × Dt} (X : aw_X p c cX1_markedTonesWith 4 s RX1 m meth (some .int)) {k4 : Int32 → Dt → Option (Int32 × Dt)} {x0 : Nat} {x1 : Int32} (n : Nat) {x2 : Int32} {x3 : Int32} {d : Dt} (hf : f_X1_markedTonesWith_L4 σ n k4 x0 x1 x2 x3 d = some z) (hk4 : ∀ (y2 : Int32) (d : Dt), k4 y2 d = some z → ∀ (H : Heap) (locs : List Loc) (ls : Array Slot), lv_has ls 4 [(2, .int y2)] → aw_G D cA base ad σ d s H locs → W p l e rm_X1_markedTonesWith s m args below meth c H locs 0 0 (aw_Ei D cA base ad σ below args s z) (F0 m 40 ls [])) {H : Heap} {locs : List Loc} {ls : Array Slot} (hl : lv_has ls 4 [(0, .ref (ad x0)), (1, .int x1), (2, .int x2), (3, .int x3)]) (G : aw_G D cA base ad σ d s H locs) : W p l e rm_X1_markedTonesWith s m args below meth c H locs 0 0 (aw_Ei D cA base ad σ below args s z) (F0 m 4 ls []) := by
  induction n generalizing x2 x3 d H locs ls with
  | zero => exact absurd (show (none : Option (Int32 × Dt)) = some z from hf) (by simp)
  | succ n ih => exact w_X1_markedTonesWith_B4 X (kb4 := f_X1_markedTonesWith_L4 σ n k4 x0 x1) hf  (fun x2 x3 d hf H locs ls hl G => ih hf hl G) hk4 hl G
end W_X1_markedTonesWith
set_option maxHeartbeats 4000000 in
set_option maxRecDepth 100000 in
theorem c_X1_markedTonesWith (l : Launch) {σ : Sg} {x0 : Nat} {x1 : Int32} {d : Dt} {z : Int32 × Dt} (hf : f_X1_markedTonesWith σ x0 x1 d = some z) : aw_Mi l yX1_markedTonesWith (Cond.code yX1_markedTonesWith cX1_markedTonesWith 4 (some .int)) rm_X1_markedTonesWith (fun ad => [.ref (ad x0), .int x1]) σ d z := by
  intro D cA base ad
  refine aw_ofW (own := RX1) (cc := cX1_markedTonesWith) (nL := 4) (ret := some .int) (by decide) rfl rfl ?_
  intro p e s m below meth c X hnm G
  have hx := X.1; have hb := X.2.1; have hml := X.2.2.1; have hown := X.2.2.2.1
  refine aw_ls (lv := [(0, .ref (ad x0)), (1, .int x1)]) (Nat.le_of_ble_eq_true rfl) rfl (fun ls hl => ?_)
  unfold f_X1_markedTonesWith at hf
  refine lv_iconst (v := (0 : Int32)) hx hb dX1_markedTonesWith_0 (by decide) ?_
  refine lv_istore_n (lv' := [(2, .int ((0 : Int32))), (0, .ref (ad x0)), (1, .int x1)]) hx hb dX1_markedTonesWith_1 rfl hl (by decide) rfl (fun ls hl => ?_)
  refine lv_iconst (v := (0 : Int32)) hx hb dX1_markedTonesWith_2 (by decide) ?_
  refine lv_istore_n (lv' := [(3, .int ((0 : Int32))), (2, .int ((0 : Int32))), (0, .ref (ad x0)), (1, .int x1)]) hx hb dX1_markedTonesWith_3 rfl hl (by decide) rfl (fun ls hl => ?_)
  refine w_X1_markedTonesWith_L4 X aw_FU hf  (fun x2_8 d_9 hf H locs ls hl G => ?_) (lv_sub hl [2, 3, 1, 0] rfl) G
  refine lv_iload_n hx hb dX1_markedTonesWith_40 rfl (lv_at hl 0 rfl) ?_
  exact aw_reti X G hf dX1_markedTonesWith_41
def rm_X1_putOnKey : Room := { frames := 0, cells := 0, slots := 0, locals := 0 }
def f_X1_putOnKey_J36 (σ : Sg) (kb10 : Int32 → Dt → Option (Int32 × Dt)) (x0 : Nat) (x1 : Int32) (x2 : Int32) (x3 : Int32) (x4 : Int32) (d : Dt) : Option (Int32 × Dt) :=
  kb10 (x4 + 1) d
def f_X1_putOnKey_B10 (σ : Sg) (kb10 : Int32 → Dt → Option (Int32 × Dt)) (k10 : Dt → Option (Int32 × Dt)) (x0 : Nat) (x1 : Int32) (x2 : Int32) (x3 : Int32) (x4 : Int32) (d : Dt) : Option (Int32 × Dt) :=
  if ((50 : Int32)) ≤ x4 then k10 d else aw_chk (aw_O σ 1 5 x0) ((σ.2.2 x0 4).bind (fun q_6 => aw_chk (aw_I σ 20 q_6 x4) (if (d.1 q_6 x4.toNatClampNeg) = x2 then f_X1_putOnKey_J36 σ kb10 x0 x1 x2 x3 x4 (aw_sI d q_6 x4.toNatClampNeg x3) else f_X1_putOnKey_J36 σ kb10 x0 x1 x2 x3 x4 d)))
def f_X1_putOnKey_L10 (σ : Sg) (n : Nat) (k10 : Dt → Option (Int32 × Dt)) (x0 : Nat) (x1 : Int32) (x2 : Int32) (x3 : Int32) : Int32 → Dt → Option (Int32 × Dt) := match n with
  | 0 => fun _ _ => none
  | n + 1 => fun x4 d => f_X1_putOnKey_B10 σ (f_X1_putOnKey_L10 σ n k10 x0 x1 x2 x3) k10 x0 x1 x2 x3 x4 d
def f_X1_putOnKey (σ : Sg) (x0 : Nat) (x1 : Int32) (x2 : Int32) (d : Dt) : Option (Int32 × Dt) :=
  aw_chk (aw_O σ 1 5 x0) ((σ.2.2 x0 4).bind (fun q_2 => aw_chk (aw_I σ 20 q_2 x1) (f_X1_putOnKey_L10 σ aw_FU (fun d_9 => some (d.1 q_2 x1.toNatClampNeg, aw_sI d_9 q_2 x1.toNatClampNeg x2)) x0 x1 x2 (d.1 q_2 x1.toNatClampNeg) ((0 : Int32)) d)))
section W_X1_putOnKey
variable {p : Program} {l : Launch} {e : Env} {s : State} {m : MethodId} {args : Array Value} {below : List Frame} {meth : Method} {c : Code}
variable {D : va_G} {cA : Nat → ClassId} {base : Nat} {ad : Nat → Nat} {σ : Sg}
set_option maxHeartbeats 4000000 in
set_option maxRecDepth 100000 in
theorem w_X1_putOnKey_J36 {z : Int32 × Dt} (X : aw_X p c cX1_putOnKey 5 s RX1 m meth (some .int)) {kb10 : Int32 → Dt → Option (Int32 × Dt)} {x0 : Nat} {x1 : Int32} {x2 : Int32} {x3 : Int32} {x4 : Int32} {d : Dt} (hf : f_X1_putOnKey_J36 σ kb10 x0 x1 x2 x3 x4 d = some z) (hkb10 : ∀ (y4 : Int32) (d : Dt), kb10 y4 d = some z → ∀ (H : Heap) (locs : List Loc) (ls : Array Slot), lv_has ls 5 [(0, .ref (ad x0)), (1, .int x1), (2, .int x2), (3, .int x3), (4, .int y4)] → aw_G D cA base ad σ d s H locs → W p l e rm_X1_putOnKey s m args below meth c H locs 0 0 (aw_Ei D cA base ad σ below args s z) (F0 m 10 ls [])) {H : Heap} {locs : List Loc} {ls : Array Slot} (hl : lv_has ls 5 [(0, .ref (ad x0)), (1, .int x1), (2, .int x2), (3, .int x3), (4, .int x4)]) (G : aw_G D cA base ad σ d s H locs) : W p l e rm_X1_putOnKey s m args below meth c H locs 0 0 (aw_Ei D cA base ad σ below args s z) (F0 m 36 ls []) := by
  have hx := X.1; have hb := X.2.1; have hml := X.2.2.1; have hown := X.2.2.2.1
  unfold f_X1_putOnKey_J36 at hf
  refine lv_iinc (v := x4 + 1) (lv' := [(4, .int (x4 + 1)), (0, .ref (ad x0)), (1, .int x1), (2, .int x2), (3, .int x3)]) hx hb dX1_putOnKey_36 hl (k := 4) rfl rfl (by decide) rfl (fun ls hl => ?_)
  refine lv_goto (tgt := 10) hx hb dX1_putOnKey_39 (by decide) ?_
  exact hkb10 _ _ hf _ _ _ (lv_sub hl [1, 2, 3, 4, 0] rfl) G
set_option maxHeartbeats 4000000 in
set_option maxRecDepth 100000 in
theorem w_X1_putOnKey_B10 {z : Int32 × Dt} (X : aw_X p c cX1_putOnKey 5 s RX1 m meth (some .int)) {kb10 : Int32 → Dt → Option (Int32 × Dt)} {k10 : Dt → Option (Int32 × Dt)} {x0 : Nat} {x1 : Int32} {x2 : Int32} {x3 : Int32} {x4 : Int32} {d : Dt} (hf : f_X1_putOnKey_B10 σ kb10 k10 x0 x1 x2 x3 x4 d = some z) (hkb10 : ∀ (y4 : Int32) (d : Dt), kb10 y4 d = some z → ∀ (H : Heap) (locs : List Loc) (ls : Array Slot), lv_has ls 5 [(0, .ref (ad x0)), (1, .int x1), (2, .int x2), (3, .int x3), (4, .int y4)] → aw_G D cA base ad σ d s H locs → W p l e rm_X1_putOnKey s m args below meth c H locs 0 0 (aw_Ei D cA base ad σ below args s z) (F0 m 10 ls [])) (hk10 : ∀ (d : Dt), k10 d = some z → ∀ (H : Heap) (locs : List Loc) (ls : Array Slot), lv_has ls 5 [(0, .ref (ad x0)), (1, .int x1), (2, .int x2), (3, .int x3)] → aw_G D cA base ad σ d s H locs → W p l e rm_X1_putOnKey s m args below meth c H locs 0 0 (aw_Ei D cA base ad σ below args s z) (F0 m 42 ls [])) {H : Heap} {locs : List Loc} {ls : Array Slot} (hl : lv_has ls 5 [(0, .ref (ad x0)), (1, .int x1), (2, .int x2), (3, .int x3), (4, .int x4)]) (G : aw_G D cA base ad σ d s H locs) : W p l e rm_X1_putOnKey s m args below meth c H locs 0 0 (aw_Ei D cA base ad σ below args s z) (F0 m 10 ls []) := by
  have hx := X.1; have hb := X.2.1; have hml := X.2.2.1; have hown := X.2.2.2.1
  unfold f_X1_putOnKey_B10 at hf
  refine lv_iload hx hb dX1_putOnKey_10 (lv_at hl 4 rfl) ?_
  refine lv_bipush (v := (50 : Int32)) hx hb dX1_putOnKey_12 (by decide) ?_
  refine lv_icmp_ge (tgt := 42) hx hb dX1_putOnKey_14 (by decide) (fun hc => ?_) (fun hc => ?_)
  · have hf := aw_ite_t hc hf
    exact hk10 _ hf _ _ _ (lv_sub hl [0, 1, 2, 3] rfl) G
  · have hf := aw_ite_f hc hf
    refine lv_aload_n hx hb dX1_putOnKey_17 rfl (lv_at hl 0 rfl) ?_
    obtain ⟨hc_5, hf⟩ := aw_chk_some hf
    obtain ⟨q_6, hq_7, hf⟩ := aw_bind_some hf
    refine gf_X1_19 hx hb G hown hc_5 hq_7 dX1_putOnKey_18 ?_
    refine lv_iload hx hb dX1_putOnKey_21 (lv_at hl 4 rfl) ?_
    obtain ⟨hc_8, hf⟩ := aw_chk_some hf
    refine aw_ial hx hb G hc_8 dX1_putOnKey_23 ?_
    refine lv_iload_n hx hb dX1_putOnKey_24 rfl (lv_at hl 2 rfl) ?_
    refine lv_icmp_ne (tgt := 36) hx hb dX1_putOnKey_25 (by decide) (fun hc => ?_) (fun hc => ?_)
    · have hf := aw_ite_f hc hf
      exact w_X1_putOnKey_J36 X hf hkb10 (lv_sub hl [0, 1, 2, 3, 4] rfl) G
    · have hf := aw_ite_t hc hf
      refine lv_aload_n hx hb dX1_putOnKey_28 rfl (lv_at hl 0 rfl) ?_
      refine gf_X1_19 hx hb G hown hc_5 hq_7 dX1_putOnKey_29 ?_
      refine lv_iload hx hb dX1_putOnKey_32 (lv_at hl 4 rfl) ?_
      refine lv_iload_n hx hb dX1_putOnKey_34 rfl (lv_at hl 3 rfl) ?_
      refine aw_ias hx hb G hc_8 dX1_putOnKey_35 (fun H locs G => ?_)
      exact w_X1_putOnKey_J36 X hf hkb10 (lv_sub hl [0, 1, 2, 3, 4] rfl) G
theorem w_X1_putOnKey_L10 {z : Int32 × Dt} (X : aw_X p c cX1_putOnKey 5 s RX1 m meth (some .int)) {k10 : Dt → Option (Int32 × Dt)} {x0 : Nat} {x1 : Int32} {x2 : Int32} {x3 : Int32} (n : Nat) {x4 : Int32} {d : Dt} (hf : f_X1_putOnKey_L10 σ n k10 x0 x1 x2 x3 x4 d = some z) (hk10 : ∀ (d : Dt), k10 d = some z → ∀ (H : Heap) (locs : List Loc) (ls : Array Slot), lv_has ls 5 [(0, .ref (ad x0)), (1, .int x1), (2, .int x2), (3, .int x3)] → aw_G D cA base ad σ d s H locs → W p l e rm_X1_putOnKey s m args below meth c H locs 0 0 (aw_Ei D cA base ad σ below args s z) (F0 m 42 ls [])) {H : Heap} {locs : List Loc} {ls : Array Slot} (hl : lv_has ls 5 [(0, .ref (ad x0)), (1, .int x1), (2, .int x2), (3, .int x3), (4, .int x4)]) (G : aw_G D cA base ad σ d s H locs) : W p l e rm_X1_putOnKey s m args below meth c H locs 0 0 (aw_Ei D cA base ad σ below args s z) (F0 m 10 ls []) := by
  induction n generalizing x4 d H locs ls with
  | zero => exact absurd (show (none : Option (Int32 × Dt)) = some z from hf) (by simp)
  | succ n ih => exact w_X1_putOnKey_B10 X (kb10 := f_X1_putOnKey_L10 σ n k10 x0 x1 x2 x3) hf  (fun x4 d hf H locs ls hl G => ih hf hl G) hk10 hl G
end W_X1_putOnKey
set_option maxHeartbeats 4000000 in
set_option maxRecDepth 100000 in
theorem c_X1_putOnKey (l : Launch) {σ : Sg} {x0 : Nat} {x1 : Int32} {x2 : Int32} {d : Dt} {z : Int32 × Dt} (hf : f_X1_putOnKey σ x0 x1 x2 d = some z) : aw_Mi l yX1_putOnKey (Cond.code yX1_putOnKey cX1_putOnKey 5 (some .int)) rm_X1_putOnKey (fun ad => [.ref (ad x0), .int x1, .int x2]) σ d z := by
  intro D cA base ad
  refine aw_ofW (own := RX1) (cc := cX1_putOnKey) (nL := 5) (ret := some .int) (by decide) rfl rfl ?_
  intro p e s m below meth c X hnm G
  have hx := X.1; have hb := X.2.1; have hml := X.2.2.1; have hown := X.2.2.2.1
  refine aw_ls (lv := [(0, .ref (ad x0)), (1, .int x1), (2, .int x2)]) (Nat.le_of_ble_eq_true rfl) rfl (fun ls hl => ?_)
  unfold f_X1_putOnKey at hf
  refine lv_aload_n hx hb dX1_putOnKey_0 rfl (lv_at hl 0 rfl) ?_
  obtain ⟨hc_1, hf⟩ := aw_chk_some hf
  obtain ⟨q_2, hq_3, hf⟩ := aw_bind_some hf
  refine gf_X1_19 hx hb G hown hc_1 hq_3 dX1_putOnKey_1 ?_
  refine lv_iload_n hx hb dX1_putOnKey_4 rfl (lv_at hl 1 rfl) ?_
  obtain ⟨hc_4, hf⟩ := aw_chk_some hf
  refine aw_ial hx hb G hc_4 dX1_putOnKey_5 ?_
  refine lv_istore_n (lv' := [(3, .int (d.1 q_2 x1.toNatClampNeg)), (0, .ref (ad x0)), (1, .int x1), (2, .int x2)]) hx hb dX1_putOnKey_6 rfl hl (by decide) rfl (fun ls hl => ?_)
  refine lv_iconst (v := (0 : Int32)) hx hb dX1_putOnKey_7 (by decide) ?_
  refine lv_istore (lv' := [(4, .int ((0 : Int32))), (3, .int (d.1 q_2 x1.toNatClampNeg)), (0, .ref (ad x0)), (1, .int x1), (2, .int x2)]) hx hb dX1_putOnKey_8 hl (by decide) rfl (fun ls hl => ?_)
  refine w_X1_putOnKey_L10 X aw_FU hf  (fun d_9 hf H locs ls hl G => ?_) (lv_sub hl [2, 3, 4, 1, 0] rfl) G
  refine lv_aload_n hx hb dX1_putOnKey_42 rfl (lv_at hl 0 rfl) ?_
  refine gf_X1_19 hx hb G hown hc_1 hq_3 dX1_putOnKey_43 ?_
  refine lv_iload_n hx hb dX1_putOnKey_46 rfl (lv_at hl 1 rfl) ?_
  refine lv_iload_n hx hb dX1_putOnKey_47 rfl (lv_at hl 2 rfl) ?_
  refine aw_ias hx hb G hc_4 dX1_putOnKey_48 (fun H locs G => ?_)
  refine lv_iload_n hx hb dX1_putOnKey_49 rfl (lv_at hl 3 rfl) ?_
  exact aw_reti X G hf dX1_putOnKey_50
def rm_X10_distance : Room := { frames := 0, cells := 0, slots := 0, locals := 0 }
def f_X10_distance_J14 (σ : Sg) (t0 : Int32) (d : Dt) : Option (Int32 × Dt) :=
  some (t0, d)
def f_X10_distance (σ : Sg) (x0 : Int32) (x1 : Int32) (d : Dt) : Option (Int32 × Dt) :=
  if x1 ≤ x0 then f_X10_distance_J14 σ (x0 - x1) d else f_X10_distance_J14 σ (x1 - x0) d
section W_X10_distance
variable {p : Program} {l : Launch} {e : Env} {s : State} {m : MethodId} {args : Array Value} {below : List Frame} {meth : Method} {c : Code}
variable {D : va_G} {cA : Nat → ClassId} {base : Nat} {ad : Nat → Nat} {σ : Sg}
set_option maxHeartbeats 4000000 in
set_option maxRecDepth 100000 in
theorem w_X10_distance_J14 {z : Int32 × Dt} (X : aw_X p c cX10_distance 2 s RX10 m meth (some .int)) {t0 : Int32} {d : Dt} (hf : f_X10_distance_J14 σ t0 d = some z)  {H : Heap} {locs : List Loc} {ls : Array Slot} (hl : lv_has ls 2 []) (G : aw_G D cA base ad σ d s H locs) : W p l e rm_X10_distance s m args below meth c H locs 0 0 (aw_Ei D cA base ad σ below args s z) (F0 m 14 ls [.int t0]) := by
  have hx := X.1; have hb := X.2.1; have hml := X.2.2.1; have hown := X.2.2.2.1
  unfold f_X10_distance_J14 at hf
  exact aw_reti X G hf dX10_distance_14
end W_X10_distance
set_option maxHeartbeats 4000000 in
set_option maxRecDepth 100000 in
theorem c_X10_distance (l : Launch) {σ : Sg} {x0 : Int32} {x1 : Int32} {d : Dt} {z : Int32 × Dt} (hf : f_X10_distance σ x0 x1 d = some z) : aw_Mi l yX10_distance (Cond.code yX10_distance cX10_distance 2 (some .int)) rm_X10_distance (fun ad => [.int x0, .int x1]) σ d z := by
  intro D cA base ad
  refine aw_ofW (own := RX10) (cc := cX10_distance) (nL := 2) (ret := some .int) (by decide) rfl rfl ?_
  intro p e s m below meth c X hnm G
  have hx := X.1; have hb := X.2.1; have hml := X.2.2.1; have hown := X.2.2.2.1
  refine aw_ls (lv := [(0, .int x0), (1, .int x1)]) (Nat.le_of_ble_eq_true rfl) rfl (fun ls hl => ?_)
  unfold f_X10_distance at hf
  refine lv_iload_n hx hb dX10_distance_0 rfl (lv_at hl 0 rfl) ?_
  refine lv_iload_n hx hb dX10_distance_1 rfl (lv_at hl 1 rfl) ?_
  refine lv_icmp_ge (tgt := 11) hx hb dX10_distance_2 (by decide) (fun hc => ?_) (fun hc => ?_)
  · have hf := aw_ite_t hc hf
    refine lv_iload_n hx hb dX10_distance_11 rfl (lv_at hl 0 rfl) ?_
    refine lv_iload_n hx hb dX10_distance_12 rfl (lv_at hl 1 rfl) ?_
    refine lv_isub hx hb dX10_distance_13 ?_
    exact w_X10_distance_J14 X hf  (lv_sub hl [] rfl) G
  · have hf := aw_ite_f hc hf
    refine lv_iload_n hx hb dX10_distance_5 rfl (lv_at hl 1 rfl) ?_
    refine lv_iload_n hx hb dX10_distance_6 rfl (lv_at hl 0 rfl) ?_
    refine lv_isub hx hb dX10_distance_7 ?_
    refine lv_goto (tgt := 14) hx hb dX10_distance_8 (by decide) ?_
    exact w_X10_distance_J14 X hf  (lv_sub hl [] rfl) G
def rm_X1_keysGone : Room := { frames := 1, cells := 0, slots := 0, locals := 21 }
def f_X1_keysGone_B5 (σ : Sg) (kb5 : Int32 → Int32 → Dt → Option (Int32 × Dt)) (k5 : Int32 → Dt → Option (Int32 × Dt)) (x0 : Nat) (x1 : Nat) (x2 : Int32) (x3 : Int32) (x4 : Int32) (d : Dt) : Option (Int32 × Dt) :=
  if x2 ≤ x4 then k5 x3 d else aw_chk (aw_O σ 1 5 x0) ((σ.2.2 x0 4).bind (fun q_2 => aw_chk (aw_I σ 20 x1 (x4 - ((1 : Int32)))) (aw_chk (aw_I σ 20 q_2 (d.1 x1 (x4 - ((1 : Int32))).toNatClampNeg)) (aw_chk (aw_I σ 20 x1 x4) (aw_chk (aw_I σ 20 q_2 (d.1 x1 x4.toNatClampNeg)) ((f_X10_distance σ (d.1 q_2 (d.1 x1 (x4 - ((1 : Int32))).toNatClampNeg).toNatClampNeg) (d.1 q_2 (d.1 x1 x4.toNatClampNeg).toNatClampNeg) d).bind (fun z_8 => kb5 (x3 + z_8.1) (x4 + 1) z_8.2)))))))
def f_X1_keysGone_L5 (σ : Sg) (n : Nat) (k5 : Int32 → Dt → Option (Int32 × Dt)) (x0 : Nat) (x1 : Nat) (x2 : Int32) : Int32 → Int32 → Dt → Option (Int32 × Dt) := match n with
  | 0 => fun _ _ _ => none
  | n + 1 => fun x3 x4 d => f_X1_keysGone_B5 σ (f_X1_keysGone_L5 σ n k5 x0 x1 x2) k5 x0 x1 x2 x3 x4 d
def f_X1_keysGone (σ : Sg) (x0 : Nat) (x1 : Nat) (x2 : Int32) (d : Dt) : Option (Int32 × Dt) :=
  f_X1_keysGone_L5 σ aw_FU (fun x3_10 d_11 => some (x3_10, d_11)) x0 x1 x2 ((0 : Int32)) ((1 : Int32)) d
section W_X1_keysGone
variable {p : Program} {l : Launch} {e : Env} {s : State} {m : MethodId} {args : Array Value} {below : List Frame} {meth : Method} {c : Code}
variable {D : va_G} {cA : Nat → ClassId} {base : Nat} {ad : Nat → Nat} {σ : Sg}
set_option maxHeartbeats 4000000 in
set_option maxRecDepth 100000 in
theorem w_X1_keysGone_B5 {z : Int32 × Dt} (X : aw_X p c cX1_keysGone 5 s RX1 m meth (some .int)) {kb5 : Int32 → Int32 → Dt → Option (Int32 × Dt)} {k5 : Int32 → Dt → Option (Int32 × Dt)} {x0 : Nat} {x1 : Nat} {x2 : Int32} {x3 : Int32} {x4 : Int32} {d : Dt} (hf : f_X1_keysGone_B5 σ kb5 k5 x0 x1 x2 x3 x4 d = some z) (hkb5 : ∀ (y3 : Int32) (y4 : Int32) (d : Dt), kb5 y3 y4 d = some z → ∀ (H : Heap) (locs : List Loc) (ls : Array Slot), lv_has ls 5 [(0, .ref (ad x0)), (1, .ref (ad x1)), (2, .int x2), (3, .int y3), (4, .int y4)] → aw_G D cA base ad σ d s H locs → W p l e rm_X1_keysGone s m args below meth c H locs 0 0 (aw_Ei D cA base ad σ below args s z) (F0 m 5 ls [])) (hk5 : ∀ (y3 : Int32) (d : Dt), k5 y3 d = some z → ∀ (H : Heap) (locs : List Loc) (ls : Array Slot), lv_has ls 5 [(3, .int y3)] → aw_G D cA base ad σ d s H locs → W p l e rm_X1_keysGone s m args below meth c H locs 0 0 (aw_Ei D cA base ad σ below args s z) (F0 m 43 ls [])) {H : Heap} {locs : List Loc} {ls : Array Slot} (hl : lv_has ls 5 [(0, .ref (ad x0)), (1, .ref (ad x1)), (2, .int x2), (3, .int x3), (4, .int x4)]) (G : aw_G D cA base ad σ d s H locs) : W p l e rm_X1_keysGone s m args below meth c H locs 0 0 (aw_Ei D cA base ad σ below args s z) (F0 m 5 ls []) := by
  have hx := X.1; have hb := X.2.1; have hml := X.2.2.1; have hown := X.2.2.2.1
  unfold f_X1_keysGone_B5 at hf
  refine lv_iload hx hb dX1_keysGone_5 (lv_at hl 4 rfl) ?_
  refine lv_iload_n hx hb dX1_keysGone_7 rfl (lv_at hl 2 rfl) ?_
  refine lv_icmp_ge (tgt := 43) hx hb dX1_keysGone_8 (by decide) (fun hc => ?_) (fun hc => ?_)
  · have hf := aw_ite_t hc hf
    exact hk5 _ _ hf _ _ _ (lv_sub hl [3] rfl) G
  · have hf := aw_ite_f hc hf
    refine lv_iload_n hx hb dX1_keysGone_11 rfl (lv_at hl 3 rfl) ?_
    refine lv_aload_n hx hb dX1_keysGone_12 rfl (lv_at hl 0 rfl) ?_
    obtain ⟨hc_1, hf⟩ := aw_chk_some hf
    obtain ⟨q_2, hq_3, hf⟩ := aw_bind_some hf
    refine gf_X1_19 hx hb G hown hc_1 hq_3 dX1_keysGone_13 ?_
    refine lv_aload_n hx hb dX1_keysGone_16 rfl (lv_at hl 1 rfl) ?_
    refine lv_iload hx hb dX1_keysGone_17 (lv_at hl 4 rfl) ?_
    refine lv_iconst (v := (1 : Int32)) hx hb dX1_keysGone_19 (by decide) ?_
    refine lv_isub hx hb dX1_keysGone_20 ?_
    obtain ⟨hc_4, hf⟩ := aw_chk_some hf
    refine aw_ial hx hb G hc_4 dX1_keysGone_21 ?_
    obtain ⟨hc_5, hf⟩ := aw_chk_some hf
    refine aw_ial hx hb G hc_5 dX1_keysGone_22 ?_
    refine lv_aload_n hx hb dX1_keysGone_23 rfl (lv_at hl 0 rfl) ?_
    refine gf_X1_19 hx hb G hown hc_1 hq_3 dX1_keysGone_24 ?_
    refine lv_aload_n hx hb dX1_keysGone_27 rfl (lv_at hl 1 rfl) ?_
    refine lv_iload hx hb dX1_keysGone_28 (lv_at hl 4 rfl) ?_
    obtain ⟨hc_6, hf⟩ := aw_chk_some hf
    refine aw_ial hx hb G hc_6 dX1_keysGone_30 ?_
    obtain ⟨hc_7, hf⟩ := aw_chk_some hf
    refine aw_ial hx hb G hc_7 dX1_keysGone_31 ?_
    obtain ⟨z_8, hz_9, hf⟩ := aw_bind_some hf
    refine aw_NI (As := [.int (d.1 q_2 (d.1 x1 (x4 - ((1 : Int32))).toNatClampNeg).toNatClampNeg), .int (d.1 q_2 (d.1 x1 x4.toNatClampNeg).toNatClampNeg)]) (rest := [.int x3]) X G hl.1 cr_X1_41 (c_X10_distance l hz_9) ⟨rfl, rfl⟩ rfl rfl rfl ⟨Nat.le_of_ble_eq_true rfl, Nat.le_of_ble_eq_true rfl⟩ (Nat.le_of_ble_eq_true rfl) dX1_keysGone_32 ⟨Nat.zero_le _, Nat.zero_le _⟩ (fun H locs G => ?_)
    refine lv_iadd hx hb dX1_keysGone_35 ?_
    refine lv_istore_n (lv' := [(3, .int (x3 + z_8.1)), (0, .ref (ad x0)), (1, .ref (ad x1)), (2, .int x2), (4, .int x4)]) hx hb dX1_keysGone_36 rfl hl (by decide) rfl (fun ls hl => ?_)
    refine lv_iinc (v := x4 + 1) (lv' := [(4, .int (x4 + 1)), (3, .int (x3 + z_8.1)), (0, .ref (ad x0)), (1, .ref (ad x1)), (2, .int x2)]) hx hb dX1_keysGone_37 hl (k := 4) rfl rfl (by decide) rfl (fun ls hl => ?_)
    refine lv_goto (tgt := 5) hx hb dX1_keysGone_40 (by decide) ?_
    exact hkb5 _ _ _ hf _ _ _ (lv_sub hl [2, 3, 4, 1, 0] rfl) G
theorem w_X1_keysGone_L5 {z : Int32 × Dt} (X : aw_X p c cX1_keysGone 5 s RX1 m meth (some .int)) {k5 : Int32 → Dt → Option (Int32 × Dt)} {x0 : Nat} {x1 : Nat} {x2 : Int32} (n : Nat) {x3 : Int32} {x4 : Int32} {d : Dt} (hf : f_X1_keysGone_L5 σ n k5 x0 x1 x2 x3 x4 d = some z) (hk5 : ∀ (y3 : Int32) (d : Dt), k5 y3 d = some z → ∀ (H : Heap) (locs : List Loc) (ls : Array Slot), lv_has ls 5 [(3, .int y3)] → aw_G D cA base ad σ d s H locs → W p l e rm_X1_keysGone s m args below meth c H locs 0 0 (aw_Ei D cA base ad σ below args s z) (F0 m 43 ls [])) {H : Heap} {locs : List Loc} {ls : Array Slot} (hl : lv_has ls 5 [(0, .ref (ad x0)), (1, .ref (ad x1)), (2, .int x2), (3, .int x3), (4, .int x4)]) (G : aw_G D cA base ad σ d s H locs) : W p l e rm_X1_keysGone s m args below meth c H locs 0 0 (aw_Ei D cA base ad σ below args s z) (F0 m 5 ls []) := by
  induction n generalizing x3 x4 d H locs ls with
  | zero => exact absurd (show (none : Option (Int32 × Dt)) = some z from hf) (by simp)
  | succ n ih => exact w_X1_keysGone_B5 X (kb5 := f_X1_keysGone_L5 σ n k5 x0 x1 x2) hf  (fun x3 x4 d hf H locs ls hl G => ih hf hl G) hk5 hl G
end W_X1_keysGone
set_option maxHeartbeats 4000000 in
set_option maxRecDepth 100000 in
theorem c_X1_keysGone (l : Launch) {σ : Sg} {x0 : Nat} {x1 : Nat} {x2 : Int32} {d : Dt} {z : Int32 × Dt} (hf : f_X1_keysGone σ x0 x1 x2 d = some z) : aw_Mi l yX1_keysGone (Cond.code yX1_keysGone cX1_keysGone 5 (some .int)) rm_X1_keysGone (fun ad => [.ref (ad x0), .ref (ad x1), .int x2]) σ d z := by
  intro D cA base ad
  refine aw_ofW (own := RX1) (cc := cX1_keysGone) (nL := 5) (ret := some .int) (by decide) rfl rfl ?_
  intro p e s m below meth c X hnm G
  have hx := X.1; have hb := X.2.1; have hml := X.2.2.1; have hown := X.2.2.2.1
  refine aw_ls (lv := [(0, .ref (ad x0)), (1, .ref (ad x1)), (2, .int x2)]) (Nat.le_of_ble_eq_true rfl) rfl (fun ls hl => ?_)
  unfold f_X1_keysGone at hf
  refine lv_iconst (v := (0 : Int32)) hx hb dX1_keysGone_0 (by decide) ?_
  refine lv_istore_n (lv' := [(3, .int ((0 : Int32))), (0, .ref (ad x0)), (1, .ref (ad x1)), (2, .int x2)]) hx hb dX1_keysGone_1 rfl hl (by decide) rfl (fun ls hl => ?_)
  refine lv_iconst (v := (1 : Int32)) hx hb dX1_keysGone_2 (by decide) ?_
  refine lv_istore (lv' := [(4, .int ((1 : Int32))), (3, .int ((0 : Int32))), (0, .ref (ad x0)), (1, .ref (ad x1)), (2, .int x2)]) hx hb dX1_keysGone_3 hl (by decide) rfl (fun ls hl => ?_)
  refine w_X1_keysGone_L5 X aw_FU hf  (fun x3_10 d_11 hf H locs ls hl G => ?_) (lv_sub hl [2, 3, 4, 1, 0] rfl) G
  refine lv_iload_n hx hb dX1_keysGone_43 rfl (lv_at hl 0 rfl) ?_
  exact aw_reti X G hf dX1_keysGone_44
def rm_X10_stepOf : Room := { frames := 0, cells := 0, slots := 0, locals := 0 }
def f_X10_stepOf (σ : Sg) (x0 : Int32) (d : Dt) : Option (Int32 × Dt) :=
  if x0 = 0 then some ((108 : Int32), d) else if x0 = 1 then some ((27 : Int32), d) else if x0 = 2 then some ((3 : Int32), d) else some ((1 : Int32), d)
section W_X10_stepOf
variable {p : Program} {l : Launch} {e : Env} {s : State} {m : MethodId} {args : Array Value} {below : List Frame} {meth : Method} {c : Code}
variable {D : va_G} {cA : Nat → ClassId} {base : Nat} {ad : Nat → Nat} {σ : Sg}
end W_X10_stepOf
set_option maxHeartbeats 4000000 in
set_option maxRecDepth 100000 in
theorem c_X10_stepOf (l : Launch) {σ : Sg} {x0 : Int32} {d : Dt} {z : Int32 × Dt} (hf : f_X10_stepOf σ x0 d = some z) : aw_Mi l yX10_stepOf (Cond.code yX10_stepOf cX10_stepOf 1 (some .int)) rm_X10_stepOf (fun ad => [.int x0]) σ d z := by
  intro D cA base ad
  refine aw_ofW (own := RX10) (cc := cX10_stepOf) (nL := 1) (ret := some .int) (by decide) rfl rfl ?_
  intro p e s m below meth c X hnm G
  have hx := X.1; have hb := X.2.1; have hml := X.2.2.1; have hown := X.2.2.2.1
  refine aw_ls (lv := [(0, .int x0)]) (Nat.le_of_ble_eq_true rfl) rfl (fun ls hl => ?_)
  unfold f_X10_stepOf at hf
  refine lv_iload_n hx hb dX10_stepOf_0 rfl (lv_at hl 0 rfl) ?_
  by_cases hs : x0 = 0
  · have hf := aw_ite_t hs hf
    refine lv_tableIn (off := 27) (tgt := 28) hx hb dX10_stepOf_1 (by rw [hs]; decide) (by rw [hs]; decide) (by rw [hs]; decide) (by decide) ?_
    refine lv_bipush (v := (108 : Int32)) hx hb dX10_stepOf_28 (by decide) ?_
    exact aw_reti X G hf dX10_stepOf_30
  have hf := aw_ite_f hs hf
  have hs0 := hs
  by_cases hs : x0 = 1
  · have hf := aw_ite_t hs hf
    refine lv_tableIn (off := 30) (tgt := 31) hx hb dX10_stepOf_1 (by rw [hs]; decide) (by rw [hs]; decide) (by rw [hs]; decide) (by decide) ?_
    refine lv_bipush (v := (27 : Int32)) hx hb dX10_stepOf_31 (by decide) ?_
    exact aw_reti X G hf dX10_stepOf_33
  have hf := aw_ite_f hs hf
  have hs1 := hs
  by_cases hs : x0 = 2
  · have hf := aw_ite_t hs hf
    refine lv_tableIn (off := 33) (tgt := 34) hx hb dX10_stepOf_1 (by rw [hs]; decide) (by rw [hs]; decide) (by rw [hs]; decide) (by decide) ?_
    refine lv_iconst (v := (3 : Int32)) hx hb dX10_stepOf_34 (by decide) ?_
    exact aw_reti X G hf dX10_stepOf_35
  have hf := aw_ite_f hs hf
  have hs2 := hs
  have hv_1 : x0.toInt < 0 ∨ 2 < x0.toInt := aw_sw2 hs0 hs1 hs2
  refine lv_tableOut (tgt := 36) hx hb dX10_stepOf_1 hv_1 (by decide) ?_
  refine lv_iconst (v := (1 : Int32)) hx hb dX10_stepOf_36 (by decide) ?_
  exact aw_reti X G hf dX10_stepOf_37
def rm_X2_alter : Room := { frames := 1, cells := 0, slots := 0, locals := 21 }
def f_X2_alter_J112 (σ : Sg) (kb37 : Int32 → Dt → Option (Unit × Dt)) (x0 : Nat) (x1 : Int32) (x2 : Int32) (x3 : Int32) (x4 : Int32) (x5 : Int32) (d : Dt) : Option (Unit × Dt) :=
  kb37 (x5 + 1) d
def f_X2_alter_J65 (σ : Sg) (kb37 : Int32 → Dt → Option (Unit × Dt)) (t0 : Int32) (x0 : Nat) (x1 : Int32) (x2 : Int32) (x3 : Int32) (x4 : Int32) (x5 : Int32) (d : Dt) : Option (Unit × Dt) :=
  if t0 = 0 then f_X2_alter_J112 σ kb37 x0 x1 x2 x3 x4 x5 d else aw_chk (aw_O σ 2 8 x0) ((σ.2.2 x0 5).bind (fun q_21 => aw_chk (aw_I σ 23 q_21 x1) ((σ.2.2 q_21 x1.toNatClampNeg).bind (fun q_24 => aw_chk (aw_I σ 20 q_24 x5) ((σ.2.2 x0 0).bind (fun q_27 => aw_chk (aw_I σ 20 q_27 x2) ((f_X10_partOf σ (d.1 q_24 x5.toNatClampNeg) (d.1 q_27 x2.toNatClampNeg) d).bind (fun z_30 => (σ.2.2 x0 1).bind (fun q_32 => aw_chk (aw_I σ 20 q_32 x2) (if z_30.1 = (z_30.2.1 q_32 x2.toNatClampNeg) then f_X2_alter_J112 σ kb37 x0 x1 x2 x3 x4 x5 (aw_sI z_30.2 q_24 x5.toNatClampNeg ((z_30.2.1 q_24 x5.toNatClampNeg) + x3)) else f_X2_alter_J112 σ kb37 x0 x1 x2 x3 x4 x5 z_30.2))))))))))
def f_X2_alter_J60 (σ : Sg) (kb37 : Int32 → Dt → Option (Unit × Dt)) (x0 : Nat) (x1 : Int32) (x2 : Int32) (x3 : Int32) (x4 : Int32) (x5 : Int32) (d : Dt) : Option (Unit × Dt) :=
  f_X2_alter_J65 σ kb37 ((1 : Int32)) x0 x1 x2 x3 x4 x5 d
def f_X2_alter_B37 (σ : Sg) (kb37 : Int32 → Dt → Option (Unit × Dt)) (k37 : Dt → Option (Unit × Dt)) (x0 : Nat) (x1 : Int32) (x2 : Int32) (x3 : Int32) (x4 : Int32) (x5 : Int32) (d : Dt) : Option (Unit × Dt) :=
  if x4 < x5 then k37 d else aw_chk (aw_O σ 2 8 x0) ((σ.2.2 x0 3).bind (fun q_17 => aw_chk (aw_I σ 22 q_17 x2) (if (d.1 q_17 x2.toNatClampNeg) = 0 then f_X2_alter_J60 σ kb37 x0 x1 x2 x3 x4 x5 d else if x5 = x4 then f_X2_alter_J60 σ kb37 x0 x1 x2 x3 x4 x5 d else f_X2_alter_J65 σ kb37 ((0 : Int32)) x0 x1 x2 x3 x4 x5 d)))
def f_X2_alter_L37 (σ : Sg) (n : Nat) (k37 : Dt → Option (Unit × Dt)) (x0 : Nat) (x1 : Int32) (x2 : Int32) (x3 : Int32) (x4 : Int32) : Int32 → Dt → Option (Unit × Dt) := match n with
  | 0 => fun _ _ => none
  | n + 1 => fun x5 d => f_X2_alter_B37 σ (f_X2_alter_L37 σ n k37 x0 x1 x2 x3 x4) k37 x0 x1 x2 x3 x4 x5 d
def f_X2_alter (σ : Sg) (x0 : Nat) (x1 : Int32) (x2 : Int32) (d : Dt) : Option (Unit × Dt) :=
  aw_chk (aw_O σ 2 8 x0) ((σ.2.2 x0 2).bind (fun q_2 => aw_chk (aw_I σ 20 q_2 x2) ((σ.2.2 x0 1).bind (fun q_5 => aw_chk (aw_I σ 20 q_5 x2) ((σ.2.2 x0 0).bind (fun q_8 => aw_chk (aw_I σ 20 q_8 x2) ((f_X10_stepOf σ (d.1 q_8 x2.toNatClampNeg) d).bind (fun z_11 => (σ.2.2 x0 6).bind (fun q_13 => aw_chk (aw_I σ 20 q_13 x1) (f_X2_alter_L37 σ aw_FU (fun d_35 => some ((), d_35)) x0 x1 x2 (((d.1 q_2 x2.toNatClampNeg) - (d.1 q_5 x2.toNatClampNeg)) * z_11.1) ((z_11.2.1 q_13 x1.toNatClampNeg) - ((1 : Int32))) ((0 : Int32)) z_11.2))))))))))
section W_X2_alter
variable {p : Program} {l : Launch} {e : Env} {s : State} {m : MethodId} {args : Array Value} {below : List Frame} {meth : Method} {c : Code}
variable {D : va_G} {cA : Nat → ClassId} {base : Nat} {ad : Nat → Nat} {σ : Sg}
set_option maxHeartbeats 4000000 in
set_option maxRecDepth 100000 in
theorem w_X2_alter_J112 {z : Unit × Dt} (X : aw_X p c cX2_alter 7 s RX2 m meth (none)) {kb37 : Int32 → Dt → Option (Unit × Dt)} {x0 : Nat} {x1 : Int32} {x2 : Int32} {x3 : Int32} {x4 : Int32} {x5 : Int32} {d : Dt} (hf : f_X2_alter_J112 σ kb37 x0 x1 x2 x3 x4 x5 d = some z) (hkb37 : ∀ (y5 : Int32) (d : Dt), kb37 y5 d = some z → ∀ (H : Heap) (locs : List Loc) (ls : Array Slot), lv_has ls 7 [(0, .ref (ad x0)), (1, .int x1), (2, .int x2), (3, .int x3), (4, .int x4), (5, .int y5)] → aw_G D cA base ad σ d s H locs → W p l e rm_X2_alter s m args below meth c H locs 0 0 (aw_Ev D cA base ad σ below args s z) (F0 m 37 ls [])) {H : Heap} {locs : List Loc} {ls : Array Slot} (hl : lv_has ls 7 [(0, .ref (ad x0)), (1, .int x1), (2, .int x2), (3, .int x3), (4, .int x4), (5, .int x5)]) (G : aw_G D cA base ad σ d s H locs) : W p l e rm_X2_alter s m args below meth c H locs 0 0 (aw_Ev D cA base ad σ below args s z) (F0 m 112 ls []) := by
  have hx := X.1; have hb := X.2.1; have hml := X.2.2.1; have hown := X.2.2.2.1
  unfold f_X2_alter_J112 at hf
  refine lv_iinc (v := x5 + 1) (lv' := [(5, .int (x5 + 1)), (0, .ref (ad x0)), (1, .int x1), (2, .int x2), (3, .int x3), (4, .int x4)]) hx hb dX2_alter_112 hl (k := 5) rfl rfl (by decide) rfl (fun ls hl => ?_)
  refine lv_goto (tgt := 37) hx hb dX2_alter_115 (by decide) ?_
  exact hkb37 _ _ hf _ _ _ (lv_sub hl [1, 2, 3, 4, 5, 0] rfl) G
set_option maxHeartbeats 4000000 in
set_option maxRecDepth 100000 in
theorem w_X2_alter_J65 {z : Unit × Dt} (X : aw_X p c cX2_alter 7 s RX2 m meth (none)) {kb37 : Int32 → Dt → Option (Unit × Dt)} {t0 : Int32} {x0 : Nat} {x1 : Int32} {x2 : Int32} {x3 : Int32} {x4 : Int32} {x5 : Int32} {d : Dt} (hf : f_X2_alter_J65 σ kb37 t0 x0 x1 x2 x3 x4 x5 d = some z) (hkb37 : ∀ (y5 : Int32) (d : Dt), kb37 y5 d = some z → ∀ (H : Heap) (locs : List Loc) (ls : Array Slot), lv_has ls 7 [(0, .ref (ad x0)), (1, .int x1), (2, .int x2), (3, .int x3), (4, .int x4), (5, .int y5)] → aw_G D cA base ad σ d s H locs → W p l e rm_X2_alter s m args below meth c H locs 0 0 (aw_Ev D cA base ad σ below args s z) (F0 m 37 ls [])) {H : Heap} {locs : List Loc} {ls : Array Slot} (hl : lv_has ls 7 [(0, .ref (ad x0)), (1, .int x1), (2, .int x2), (3, .int x3), (4, .int x4), (5, .int x5)]) (G : aw_G D cA base ad σ d s H locs) : W p l e rm_X2_alter s m args below meth c H locs 0 0 (aw_Ev D cA base ad σ below args s z) (F0 m 65 ls [.int t0]) := by
  have hx := X.1; have hb := X.2.1; have hml := X.2.2.1; have hown := X.2.2.2.1
  unfold f_X2_alter_J65 at hf
  refine lv_istore (lv' := [(6, .int t0), (0, .ref (ad x0)), (1, .int x1), (2, .int x2), (3, .int x3), (4, .int x4), (5, .int x5)]) hx hb dX2_alter_65 hl (by decide) rfl (fun ls hl => ?_)
  refine lv_iload hx hb dX2_alter_67 (lv_at hl 0 rfl) ?_
  refine lv_if_eq (tgt := 112) hx hb dX2_alter_69 (by decide) (fun hc => ?_) (fun hc => ?_)
  · have hf := aw_ite_t hc hf
    exact w_X2_alter_J112 X hf hkb37 (lv_sub hl [1, 2, 3, 4, 5, 6] rfl) G
  · have hf := aw_ite_f hc hf
    refine lv_aload_n hx hb dX2_alter_72 rfl (lv_at hl 1 rfl) ?_
    obtain ⟨hc_20, hf⟩ := aw_chk_some hf
    obtain ⟨q_21, hq_22, hf⟩ := aw_bind_some hf
    refine gf_X2_31 hx hb G hown hc_20 hq_22 dX2_alter_73 ?_
    refine lv_iload_n hx hb dX2_alter_76 rfl (lv_at hl 2 rfl) ?_
    obtain ⟨hc_23, hf⟩ := aw_chk_some hf
    obtain ⟨q_24, hq_25, hf⟩ := aw_bind_some hf
    refine aw_qal hx hb G 23 _ rfl rfl (by decide) hc_23 hq_25 dX2_alter_77 ?_
    refine lv_iload hx hb dX2_alter_78 (lv_at hl 6 rfl) ?_
    obtain ⟨hc_26, hf⟩ := aw_chk_some hf
    refine aw_ial hx hb G hc_26 dX2_alter_80 ?_
    refine lv_aload_n hx hb dX2_alter_81 rfl (lv_at hl 1 rfl) ?_
    obtain ⟨q_27, hq_28, hf⟩ := aw_bind_some hf
    refine gf_X2_9 hx hb G hown hc_20 hq_28 dX2_alter_82 ?_
    refine lv_iload_n hx hb dX2_alter_85 rfl (lv_at hl 3 rfl) ?_
    obtain ⟨hc_29, hf⟩ := aw_chk_some hf
    refine aw_ial hx hb G hc_29 dX2_alter_86 ?_
    obtain ⟨z_30, hz_31, hf⟩ := aw_bind_some hf
    refine aw_NI (As := [.int (d.1 q_24 x5.toNatClampNeg), .int (d.1 q_27 x2.toNatClampNeg)]) (rest := []) X G hl.1 cr_X2_48 (c_X10_partOf l hz_31) ⟨rfl, rfl⟩ rfl rfl rfl ⟨Nat.le_of_ble_eq_true rfl, Nat.le_of_ble_eq_true rfl⟩ (Nat.le_of_ble_eq_true rfl) dX2_alter_87 ⟨Nat.zero_le _, Nat.zero_le _⟩ (fun H locs G => ?_)
    refine lv_aload_n hx hb dX2_alter_90 rfl (lv_at hl 1 rfl) ?_
    obtain ⟨q_32, hq_33, hf⟩ := aw_bind_some hf
    refine gf_X2_15 hx hb G hown hc_20 hq_33 dX2_alter_91 ?_
    refine lv_iload_n hx hb dX2_alter_94 rfl (lv_at hl 3 rfl) ?_
    obtain ⟨hc_34, hf⟩ := aw_chk_some hf
    refine aw_ial hx hb G hc_34 dX2_alter_95 ?_
    refine lv_icmp_ne (tgt := 112) hx hb dX2_alter_96 (by decide) (fun hc => ?_) (fun hc => ?_)
    · have hf := aw_ite_f hc hf
      exact w_X2_alter_J112 X hf hkb37 (lv_sub hl [1, 2, 3, 4, 5, 6] rfl) G
    · have hf := aw_ite_t hc hf
      refine lv_aload_n hx hb dX2_alter_99 rfl (lv_at hl 1 rfl) ?_
      refine gf_X2_31 hx hb G hown hc_20 hq_22 dX2_alter_100 ?_
      refine lv_iload_n hx hb dX2_alter_103 rfl (lv_at hl 2 rfl) ?_
      refine aw_qal hx hb G 23 _ rfl rfl (by decide) hc_23 hq_25 dX2_alter_104 ?_
      refine lv_iload hx hb dX2_alter_105 (lv_at hl 6 rfl) ?_
      refine lv_dup2_11 hx hb dX2_alter_107 rfl rfl ?_
      refine aw_ial hx hb G hc_26 dX2_alter_108 ?_
      refine lv_iload_n hx hb dX2_alter_109 rfl (lv_at hl 4 rfl) ?_
      refine lv_iadd hx hb dX2_alter_110 ?_
      refine aw_ias hx hb G hc_26 dX2_alter_111 (fun H locs G => ?_)
      exact w_X2_alter_J112 X hf hkb37 (lv_sub hl [1, 2, 3, 4, 5, 6] rfl) G
set_option maxHeartbeats 4000000 in
set_option maxRecDepth 100000 in
theorem w_X2_alter_J60 {z : Unit × Dt} (X : aw_X p c cX2_alter 7 s RX2 m meth (none)) {kb37 : Int32 → Dt → Option (Unit × Dt)} {x0 : Nat} {x1 : Int32} {x2 : Int32} {x3 : Int32} {x4 : Int32} {x5 : Int32} {d : Dt} (hf : f_X2_alter_J60 σ kb37 x0 x1 x2 x3 x4 x5 d = some z) (hkb37 : ∀ (y5 : Int32) (d : Dt), kb37 y5 d = some z → ∀ (H : Heap) (locs : List Loc) (ls : Array Slot), lv_has ls 7 [(0, .ref (ad x0)), (1, .int x1), (2, .int x2), (3, .int x3), (4, .int x4), (5, .int y5)] → aw_G D cA base ad σ d s H locs → W p l e rm_X2_alter s m args below meth c H locs 0 0 (aw_Ev D cA base ad σ below args s z) (F0 m 37 ls [])) {H : Heap} {locs : List Loc} {ls : Array Slot} (hl : lv_has ls 7 [(0, .ref (ad x0)), (1, .int x1), (2, .int x2), (3, .int x3), (4, .int x4), (5, .int x5)]) (G : aw_G D cA base ad σ d s H locs) : W p l e rm_X2_alter s m args below meth c H locs 0 0 (aw_Ev D cA base ad σ below args s z) (F0 m 60 ls []) := by
  have hx := X.1; have hb := X.2.1; have hml := X.2.2.1; have hown := X.2.2.2.1
  unfold f_X2_alter_J60 at hf
  refine lv_iconst (v := (1 : Int32)) hx hb dX2_alter_60 (by decide) ?_
  refine lv_goto (tgt := 65) hx hb dX2_alter_61 (by decide) ?_
  exact w_X2_alter_J65 X hf hkb37 (lv_sub hl [0, 1, 2, 3, 4, 5] rfl) G
set_option maxHeartbeats 4000000 in
set_option maxRecDepth 100000 in
theorem w_X2_alter_B37 {z : Unit × Dt} (X : aw_X p c cX2_alter 7 s RX2 m meth (none)) {kb37 : Int32 → Dt → Option (Unit × Dt)} {k37 : Dt → Option (Unit × Dt)} {x0 : Nat} {x1 : Int32} {x2 : Int32} {x3 : Int32} {x4 : Int32} {x5 : Int32} {d : Dt} (hf : f_X2_alter_B37 σ kb37 k37 x0 x1 x2 x3 x4 x5 d = some z) (hkb37 : ∀ (y5 : Int32) (d : Dt), kb37 y5 d = some z → ∀ (H : Heap) (locs : List Loc) (ls : Array Slot), lv_has ls 7 [(0, .ref (ad x0)), (1, .int x1), (2, .int x2), (3, .int x3), (4, .int x4), (5, .int y5)] → aw_G D cA base ad σ d s H locs → W p l e rm_X2_alter s m args below meth c H locs 0 0 (aw_Ev D cA base ad σ below args s z) (F0 m 37 ls [])) (hk37 : ∀ (d : Dt), k37 d = some z → ∀ (H : Heap) (locs : List Loc) (ls : Array Slot), lv_has ls 7 [] → aw_G D cA base ad σ d s H locs → W p l e rm_X2_alter s m args below meth c H locs 0 0 (aw_Ev D cA base ad σ below args s z) (F0 m 118 ls [])) {H : Heap} {locs : List Loc} {ls : Array Slot} (hl : lv_has ls 7 [(0, .ref (ad x0)), (1, .int x1), (2, .int x2), (3, .int x3), (4, .int x4), (5, .int x5)]) (G : aw_G D cA base ad σ d s H locs) : W p l e rm_X2_alter s m args below meth c H locs 0 0 (aw_Ev D cA base ad σ below args s z) (F0 m 37 ls []) := by
  have hx := X.1; have hb := X.2.1; have hml := X.2.2.1; have hown := X.2.2.2.1
  unfold f_X2_alter_B37 at hf
  refine lv_iload hx hb dX2_alter_37 (lv_at hl 5 rfl) ?_
  refine lv_iload hx hb dX2_alter_39 (lv_at hl 4 rfl) ?_
  refine lv_icmp_gt (tgt := 118) hx hb dX2_alter_41 (by decide) (fun hc => ?_) (fun hc => ?_)
  · have hf := aw_ite_t hc hf
    exact hk37 _ hf _ _ _ (lv_sub hl [] rfl) G
  · have hf := aw_ite_f hc hf
    refine lv_aload_n hx hb dX2_alter_44 rfl (lv_at hl 0 rfl) ?_
    obtain ⟨hc_16, hf⟩ := aw_chk_some hf
    obtain ⟨q_17, hq_18, hf⟩ := aw_bind_some hf
    refine gf_X2_21 hx hb G hown hc_16 hq_18 dX2_alter_45 ?_
    refine lv_iload_n hx hb dX2_alter_48 rfl (lv_at hl 2 rfl) ?_
    obtain ⟨hc_19, hf⟩ := aw_chk_some hf
    refine aw_zal hx hb G hc_19 dX2_alter_49 ?_
    refine lv_if_eq (tgt := 60) hx hb dX2_alter_50 (by decide) (fun hc => ?_) (fun hc => ?_)
    · have hf := aw_ite_t hc hf
      exact w_X2_alter_J60 X hf hkb37 (lv_sub hl [0, 1, 2, 3, 4, 5] rfl) G
    · have hf := aw_ite_f hc hf
      refine lv_iload hx hb dX2_alter_53 (lv_at hl 5 rfl) ?_
      refine lv_iload hx hb dX2_alter_55 (lv_at hl 4 rfl) ?_
      refine lv_icmp_ne (tgt := 64) hx hb dX2_alter_57 (by decide) (fun hc => ?_) (fun hc => ?_)
      · have hf := aw_ite_f hc hf
        refine lv_iconst (v := (0 : Int32)) hx hb dX2_alter_64 (by decide) ?_
        exact w_X2_alter_J65 X hf hkb37 (lv_sub hl [0, 1, 2, 3, 4, 5] rfl) G
      · have hf := aw_ite_t hc hf
        exact w_X2_alter_J60 X hf hkb37 (lv_sub hl [0, 1, 2, 3, 4, 5] rfl) G
theorem w_X2_alter_L37 {z : Unit × Dt} (X : aw_X p c cX2_alter 7 s RX2 m meth (none)) {k37 : Dt → Option (Unit × Dt)} {x0 : Nat} {x1 : Int32} {x2 : Int32} {x3 : Int32} {x4 : Int32} (n : Nat) {x5 : Int32} {d : Dt} (hf : f_X2_alter_L37 σ n k37 x0 x1 x2 x3 x4 x5 d = some z) (hk37 : ∀ (d : Dt), k37 d = some z → ∀ (H : Heap) (locs : List Loc) (ls : Array Slot), lv_has ls 7 [] → aw_G D cA base ad σ d s H locs → W p l e rm_X2_alter s m args below meth c H locs 0 0 (aw_Ev D cA base ad σ below args s z) (F0 m 118 ls [])) {H : Heap} {locs : List Loc} {ls : Array Slot} (hl : lv_has ls 7 [(0, .ref (ad x0)), (1, .int x1), (2, .int x2), (3, .int x3), (4, .int x4), (5, .int x5)]) (G : aw_G D cA base ad σ d s H locs) : W p l e rm_X2_alter s m args below meth c H locs 0 0 (aw_Ev D cA base ad σ below args s z) (F0 m 37 ls []) := by
  induction n generalizing x5 d H locs ls with
  | zero => exact absurd (show (none : Option (Unit × Dt)) = some z from hf) (by simp)
  | succ n ih => exact w_X2_alter_B37 X (kb37 := f_X2_alter_L37 σ n k37 x0 x1 x2 x3 x4) hf  (fun x5 d hf H locs ls hl G => ih hf hl G) hk37 hl G
end W_X2_alter
set_option maxHeartbeats 4000000 in
set_option maxRecDepth 100000 in
theorem c_X2_alter (l : Launch) {σ : Sg} {x0 : Nat} {x1 : Int32} {x2 : Int32} {d : Dt} {z : Unit × Dt} (hf : f_X2_alter σ x0 x1 x2 d = some z) : aw_Mv l yX2_alter (Cond.code yX2_alter cX2_alter 7 (none)) rm_X2_alter (fun ad => [.ref (ad x0), .int x1, .int x2]) σ d z := by
  intro D cA base ad
  refine aw_ofW (own := RX2) (cc := cX2_alter) (nL := 7) (ret := none) (by decide) rfl rfl ?_
  intro p e s m below meth c X hnm G
  have hx := X.1; have hb := X.2.1; have hml := X.2.2.1; have hown := X.2.2.2.1
  refine aw_ls (lv := [(0, .ref (ad x0)), (1, .int x1), (2, .int x2)]) (Nat.le_of_ble_eq_true rfl) rfl (fun ls hl => ?_)
  unfold f_X2_alter at hf
  refine lv_aload_n hx hb dX2_alter_0 rfl (lv_at hl 0 rfl) ?_
  obtain ⟨hc_1, hf⟩ := aw_chk_some hf
  obtain ⟨q_2, hq_3, hf⟩ := aw_bind_some hf
  refine gf_X2_18 hx hb G hown hc_1 hq_3 dX2_alter_1 ?_
  refine lv_iload_n hx hb dX2_alter_4 rfl (lv_at hl 2 rfl) ?_
  obtain ⟨hc_4, hf⟩ := aw_chk_some hf
  refine aw_ial hx hb G hc_4 dX2_alter_5 ?_
  refine lv_aload_n hx hb dX2_alter_6 rfl (lv_at hl 0 rfl) ?_
  obtain ⟨q_5, hq_6, hf⟩ := aw_bind_some hf
  refine gf_X2_15 hx hb G hown hc_1 hq_6 dX2_alter_7 ?_
  refine lv_iload_n hx hb dX2_alter_10 rfl (lv_at hl 2 rfl) ?_
  obtain ⟨hc_7, hf⟩ := aw_chk_some hf
  refine aw_ial hx hb G hc_7 dX2_alter_11 ?_
  refine lv_isub hx hb dX2_alter_12 ?_
  refine lv_aload_n hx hb dX2_alter_13 rfl (lv_at hl 0 rfl) ?_
  obtain ⟨q_8, hq_9, hf⟩ := aw_bind_some hf
  refine gf_X2_9 hx hb G hown hc_1 hq_9 dX2_alter_14 ?_
  refine lv_iload_n hx hb dX2_alter_17 rfl (lv_at hl 2 rfl) ?_
  obtain ⟨hc_10, hf⟩ := aw_chk_some hf
  refine aw_ial hx hb G hc_10 dX2_alter_18 ?_
  obtain ⟨z_11, hz_12, hf⟩ := aw_bind_some hf
  refine aw_NI (As := [.int (d.1 q_8 x2.toNatClampNeg)]) (rest := [.int ((d.1 q_2 x2.toNatClampNeg) - (d.1 q_5 x2.toNatClampNeg))]) X G hl.1 cr_X2_44 (c_X10_stepOf l hz_12) ⟨rfl, rfl⟩ rfl rfl rfl ⟨Nat.le_of_ble_eq_true rfl, Nat.le_of_ble_eq_true rfl⟩ (Nat.le_of_ble_eq_true rfl) dX2_alter_19 ⟨Nat.zero_le _, Nat.zero_le _⟩ (fun H locs G => ?_)
  refine lv_imul hx hb dX2_alter_22 ?_
  refine lv_istore_n (lv' := [(3, .int (((d.1 q_2 x2.toNatClampNeg) - (d.1 q_5 x2.toNatClampNeg)) * z_11.1)), (0, .ref (ad x0)), (1, .int x1), (2, .int x2)]) hx hb dX2_alter_23 rfl hl (by decide) rfl (fun ls hl => ?_)
  refine lv_aload_n hx hb dX2_alter_24 rfl (lv_at hl 1 rfl) ?_
  obtain ⟨q_13, hq_14, hf⟩ := aw_bind_some hf
  refine gf_X2_34 hx hb G hown hc_1 hq_14 dX2_alter_25 ?_
  refine lv_iload_n hx hb dX2_alter_28 rfl (lv_at hl 2 rfl) ?_
  obtain ⟨hc_15, hf⟩ := aw_chk_some hf
  refine aw_ial hx hb G hc_15 dX2_alter_29 ?_
  refine lv_iconst (v := (1 : Int32)) hx hb dX2_alter_30 (by decide) ?_
  refine lv_isub hx hb dX2_alter_31 ?_
  refine lv_istore (lv' := [(4, .int ((z_11.2.1 q_13 x1.toNatClampNeg) - ((1 : Int32)))), (3, .int (((d.1 q_2 x2.toNatClampNeg) - (d.1 q_5 x2.toNatClampNeg)) * z_11.1)), (0, .ref (ad x0)), (1, .int x1), (2, .int x2)]) hx hb dX2_alter_32 hl (by decide) rfl (fun ls hl => ?_)
  refine lv_iconst (v := (0 : Int32)) hx hb dX2_alter_34 (by decide) ?_
  refine lv_istore (lv' := [(5, .int ((0 : Int32))), (4, .int ((z_11.2.1 q_13 x1.toNatClampNeg) - ((1 : Int32)))), (3, .int (((d.1 q_2 x2.toNatClampNeg) - (d.1 q_5 x2.toNatClampNeg)) * z_11.1)), (0, .ref (ad x0)), (1, .int x1), (2, .int x2)]) hx hb dX2_alter_35 hl (by decide) rfl (fun ls hl => ?_)
  refine w_X2_alter_L37 X aw_FU hf  (fun d_35 hf H locs ls hl G => ?_) (lv_sub hl [3, 4, 5, 2, 1, 0] rfl) G
  exact aw_retv X G hf dX2_alter_118
def rm_X2_hear : Room := { frames := 2, cells := 0, slots := 0, locals := 47 }
def f_X2_hear_B2 (σ : Sg) (kb2 : Int32 → Dt → Option (Unit × Dt)) (k2 : Dt → Option (Unit × Dt)) (x0 : Nat) (x1 : Nat) (x2 : Int32) (x3 : Int32) (d : Dt) : Option (Unit × Dt) :=
  if x2 ≤ x3 then k2 d else aw_chk (aw_O σ 2 8 x0) ((σ.2.2 x0 5).bind (fun q_2 => aw_chk (aw_I σ 23 q_2 (d.1 x0 7)) ((σ.2.2 q_2 (d.1 x0 7).toNatClampNeg).bind (fun q_5 => aw_chk (aw_I σ 20 x1 x3) (aw_chk (aw_I σ 20 q_5 x3) (kb2 (x3 + 1) (aw_sI d q_5 x3.toNatClampNeg (d.1 x1 x3.toNatClampNeg))))))))
def f_X2_hear_L2 (σ : Sg) (n : Nat) (k2 : Dt → Option (Unit × Dt)) (x0 : Nat) (x1 : Nat) (x2 : Int32) : Int32 → Dt → Option (Unit × Dt) := match n with
  | 0 => fun _ _ => none
  | n + 1 => fun x3 d => f_X2_hear_B2 σ (f_X2_hear_L2 σ n k2 x0 x1 x2) k2 x0 x1 x2 x3 d
def f_X2_hear_B39 (σ : Sg) (kb39 : Int32 → Dt → Option (Unit × Dt)) (k39 : Dt → Option (Unit × Dt)) (x0 : Nat) (x3 : Int32) (d : Dt) : Option (Unit × Dt) :=
  aw_chk (aw_O σ 2 8 x0) (if (d.1 x0 4) ≤ x3 then k39 d else (f_X2_alter σ x0 (d.1 x0 7) x3 d).bind (fun z_15 => kb39 (x3 + 1) z_15.2))
def f_X2_hear_L39 (σ : Sg) (n : Nat) (k39 : Dt → Option (Unit × Dt)) (x0 : Nat) : Int32 → Dt → Option (Unit × Dt) := match n with
  | 0 => fun _ _ => none
  | n + 1 => fun x3 d => f_X2_hear_B39 σ (f_X2_hear_L39 σ n k39 x0) k39 x0 x3 d
def f_X2_hear (σ : Sg) (x0 : Nat) (x1 : Nat) (x2 : Int32) (d : Dt) : Option (Unit × Dt) :=
  f_X2_hear_L2 σ aw_FU (fun d_9 => aw_chk (aw_O σ 2 8 x0) ((σ.2.2 x0 6).bind (fun q_11 => aw_chk (aw_I σ 20 q_11 (d_9.1 x0 7)) (f_X2_hear_L39 σ aw_FU (fun d_17 => some ((), aw_sI d_17 x0 7 ((d_17.1 x0 7) + ((1 : Int32))))) x0 ((0 : Int32)) (aw_sI d_9 q_11 (d_9.1 x0 7).toNatClampNeg x2))))) x0 x1 x2 ((0 : Int32)) d
section W_X2_hear
variable {p : Program} {l : Launch} {e : Env} {s : State} {m : MethodId} {args : Array Value} {below : List Frame} {meth : Method} {c : Code}
variable {D : va_G} {cA : Nat → ClassId} {base : Nat} {ad : Nat → Nat} {σ : Sg}
set_option maxHeartbeats 4000000 in
set_option maxRecDepth 100000 in
theorem w_X2_hear_B2 {z : Unit × Dt} (X : aw_X p c cX2_hear 4 s RX2 m meth (none)) {kb2 : Int32 → Dt → Option (Unit × Dt)} {k2 : Dt → Option (Unit × Dt)} {x0 : Nat} {x1 : Nat} {x2 : Int32} {x3 : Int32} {d : Dt} (hf : f_X2_hear_B2 σ kb2 k2 x0 x1 x2 x3 d = some z) (hkb2 : ∀ (y3 : Int32) (d : Dt), kb2 y3 d = some z → ∀ (H : Heap) (locs : List Loc) (ls : Array Slot), lv_has ls 4 [(0, .ref (ad x0)), (1, .ref (ad x1)), (2, .int x2), (3, .int y3)] → aw_G D cA base ad σ d s H locs → W p l e rm_X2_hear s m args below meth c H locs 0 0 (aw_Ev D cA base ad σ below args s z) (F0 m 2 ls [])) (hk2 : ∀ (d : Dt), k2 d = some z → ∀ (H : Heap) (locs : List Loc) (ls : Array Slot), lv_has ls 4 [(0, .ref (ad x0)), (2, .int x2)] → aw_G D cA base ad σ d s H locs → W p l e rm_X2_hear s m args below meth c H locs 0 0 (aw_Ev D cA base ad σ below args s z) (F0 m 27 ls [])) {H : Heap} {locs : List Loc} {ls : Array Slot} (hl : lv_has ls 4 [(0, .ref (ad x0)), (1, .ref (ad x1)), (2, .int x2), (3, .int x3)]) (G : aw_G D cA base ad σ d s H locs) : W p l e rm_X2_hear s m args below meth c H locs 0 0 (aw_Ev D cA base ad σ below args s z) (F0 m 2 ls []) := by
  have hx := X.1; have hb := X.2.1; have hml := X.2.2.1; have hown := X.2.2.2.1
  unfold f_X2_hear_B2 at hf
  refine lv_iload_n hx hb dX2_hear_2 rfl (lv_at hl 3 rfl) ?_
  refine lv_iload_n hx hb dX2_hear_3 rfl (lv_at hl 2 rfl) ?_
  refine lv_icmp_ge (tgt := 27) hx hb dX2_hear_4 (by decide) (fun hc => ?_) (fun hc => ?_)
  · have hf := aw_ite_t hc hf
    exact hk2 _ hf _ _ _ (lv_sub hl [0, 2] rfl) G
  · have hf := aw_ite_f hc hf
    refine lv_aload_n hx hb dX2_hear_7 rfl (lv_at hl 0 rfl) ?_
    obtain ⟨hc_1, hf⟩ := aw_chk_some hf
    obtain ⟨q_2, hq_3, hf⟩ := aw_bind_some hf
    refine gf_X2_31 hx hb G hown hc_1 hq_3 dX2_hear_8 ?_
    refine lv_aload_n hx hb dX2_hear_11 rfl (lv_at hl 0 rfl) ?_
    refine gf_X2_37 hx hb G hown hc_1 dX2_hear_12 ?_
    obtain ⟨hc_4, hf⟩ := aw_chk_some hf
    obtain ⟨q_5, hq_6, hf⟩ := aw_bind_some hf
    refine aw_qal hx hb G 23 _ rfl rfl (by decide) hc_4 hq_6 dX2_hear_15 ?_
    refine lv_iload_n hx hb dX2_hear_16 rfl (lv_at hl 3 rfl) ?_
    refine lv_aload_n hx hb dX2_hear_17 rfl (lv_at hl 1 rfl) ?_
    refine lv_iload_n hx hb dX2_hear_18 rfl (lv_at hl 3 rfl) ?_
    obtain ⟨hc_7, hf⟩ := aw_chk_some hf
    refine aw_ial hx hb G hc_7 dX2_hear_19 ?_
    obtain ⟨hc_8, hf⟩ := aw_chk_some hf
    refine aw_ias hx hb G hc_8 dX2_hear_20 (fun H locs G => ?_)
    refine lv_iinc (v := x3 + 1) (lv' := [(3, .int (x3 + 1)), (0, .ref (ad x0)), (1, .ref (ad x1)), (2, .int x2)]) hx hb dX2_hear_21 hl (k := 3) rfl rfl (by decide) rfl (fun ls hl => ?_)
    refine lv_goto (tgt := 2) hx hb dX2_hear_24 (by decide) ?_
    exact hkb2 _ _ hf _ _ _ (lv_sub hl [1, 2, 3, 0] rfl) G
theorem w_X2_hear_L2 {z : Unit × Dt} (X : aw_X p c cX2_hear 4 s RX2 m meth (none)) {k2 : Dt → Option (Unit × Dt)} {x0 : Nat} {x1 : Nat} {x2 : Int32} (n : Nat) {x3 : Int32} {d : Dt} (hf : f_X2_hear_L2 σ n k2 x0 x1 x2 x3 d = some z) (hk2 : ∀ (d : Dt), k2 d = some z → ∀ (H : Heap) (locs : List Loc) (ls : Array Slot), lv_has ls 4 [(0, .ref (ad x0)), (2, .int x2)] → aw_G D cA base ad σ d s H locs → W p l e rm_X2_hear s m args below meth c H locs 0 0 (aw_Ev D cA base ad σ below args s z) (F0 m 27 ls [])) {H : Heap} {locs : List Loc} {ls : Array Slot} (hl : lv_has ls 4 [(0, .ref (ad x0)), (1, .ref (ad x1)), (2, .int x2), (3, .int x3)]) (G : aw_G D cA base ad σ d s H locs) : W p l e rm_X2_hear s m args below meth c H locs 0 0 (aw_Ev D cA base ad σ below args s z) (F0 m 2 ls []) := by
  induction n generalizing x3 d H locs ls with
  | zero => exact absurd (show (none : Option (Unit × Dt)) = some z from hf) (by simp)
  | succ n ih => exact w_X2_hear_B2 X (kb2 := f_X2_hear_L2 σ n k2 x0 x1 x2) hf  (fun x3 d hf H locs ls hl G => ih hf hl G) hk2 hl G
set_option maxHeartbeats 4000000 in
set_option maxRecDepth 100000 in
theorem w_X2_hear_B39 {z : Unit × Dt} (X : aw_X p c cX2_hear 4 s RX2 m meth (none)) {kb39 : Int32 → Dt → Option (Unit × Dt)} {k39 : Dt → Option (Unit × Dt)} {x0 : Nat} {x3 : Int32} {d : Dt} (hf : f_X2_hear_B39 σ kb39 k39 x0 x3 d = some z) (hkb39 : ∀ (y3 : Int32) (d : Dt), kb39 y3 d = some z → ∀ (H : Heap) (locs : List Loc) (ls : Array Slot), lv_has ls 4 [(0, .ref (ad x0)), (3, .int y3)] → aw_G D cA base ad σ d s H locs → W p l e rm_X2_hear s m args below meth c H locs 0 0 (aw_Ev D cA base ad σ below args s z) (F0 m 39 ls [])) (hk39 : ∀ (d : Dt), k39 d = some z → ∀ (H : Heap) (locs : List Loc) (ls : Array Slot), lv_has ls 4 [(0, .ref (ad x0))] → aw_G D cA base ad σ d s H locs → W p l e rm_X2_hear s m args below meth c H locs 0 0 (aw_Ev D cA base ad σ below args s z) (F0 m 62 ls [])) {H : Heap} {locs : List Loc} {ls : Array Slot} (hl : lv_has ls 4 [(0, .ref (ad x0)), (3, .int x3)]) (G : aw_G D cA base ad σ d s H locs) : W p l e rm_X2_hear s m args below meth c H locs 0 0 (aw_Ev D cA base ad σ below args s z) (F0 m 39 ls []) := by
  have hx := X.1; have hb := X.2.1; have hml := X.2.2.1; have hown := X.2.2.2.1
  unfold f_X2_hear_B39 at hf
  refine lv_iload_n hx hb dX2_hear_39 rfl (lv_at hl 1 rfl) ?_
  refine lv_aload_n hx hb dX2_hear_40 rfl (lv_at hl 0 rfl) ?_
  obtain ⟨hc_14, hf⟩ := aw_chk_some hf
  refine gf_X2_25 hx hb G hown hc_14 dX2_hear_41 ?_
  refine lv_icmp_ge (tgt := 62) hx hb dX2_hear_44 (by decide) (fun hc => ?_) (fun hc => ?_)
  · have hf := aw_ite_t hc hf
    exact hk39 _ hf _ _ _ (lv_sub hl [0] rfl) G
  · have hf := aw_ite_f hc hf
    refine lv_aload_n hx hb dX2_hear_47 rfl (lv_at hl 0 rfl) ?_
    refine lv_aload_n hx hb dX2_hear_48 rfl (lv_at hl 0 rfl) ?_
    refine gf_X2_37 hx hb G hown hc_14 dX2_hear_49 ?_
    refine lv_iload_n hx hb dX2_hear_52 rfl (lv_at hl 1 rfl) ?_
    obtain ⟨z_15, hz_16, hf⟩ := aw_bind_some hf
    refine aw_VV (As := [.int (d.1 x0 7), .int x3]) (rest := []) X G hl.1 cr_X2_40 (c_X2_alter l hz_16) ⟨rfl, rfl⟩ rfl rfl rfl (by decide) hc_14 rfl ⟨Nat.le_of_ble_eq_true rfl, Nat.le_of_ble_eq_true rfl⟩ (Nat.le_of_ble_eq_true rfl) dX2_hear_53 ⟨Nat.zero_le _, Nat.zero_le _⟩ (fun H locs G => ?_)
    refine lv_iinc (v := x3 + 1) (lv' := [(3, .int (x3 + 1)), (0, .ref (ad x0))]) hx hb dX2_hear_56 hl (k := 1) rfl rfl (by decide) rfl (fun ls hl => ?_)
    refine lv_goto (tgt := 39) hx hb dX2_hear_59 (by decide) ?_
    exact hkb39 _ _ hf _ _ _ (lv_sub hl [1, 0] rfl) G
theorem w_X2_hear_L39 {z : Unit × Dt} (X : aw_X p c cX2_hear 4 s RX2 m meth (none)) {k39 : Dt → Option (Unit × Dt)} {x0 : Nat} (n : Nat) {x3 : Int32} {d : Dt} (hf : f_X2_hear_L39 σ n k39 x0 x3 d = some z) (hk39 : ∀ (d : Dt), k39 d = some z → ∀ (H : Heap) (locs : List Loc) (ls : Array Slot), lv_has ls 4 [(0, .ref (ad x0))] → aw_G D cA base ad σ d s H locs → W p l e rm_X2_hear s m args below meth c H locs 0 0 (aw_Ev D cA base ad σ below args s z) (F0 m 62 ls [])) {H : Heap} {locs : List Loc} {ls : Array Slot} (hl : lv_has ls 4 [(0, .ref (ad x0)), (3, .int x3)]) (G : aw_G D cA base ad σ d s H locs) : W p l e rm_X2_hear s m args below meth c H locs 0 0 (aw_Ev D cA base ad σ below args s z) (F0 m 39 ls []) := by
  induction n generalizing x3 d H locs ls with
  | zero => exact absurd (show (none : Option (Unit × Dt)) = some z from hf) (by simp)
  | succ n ih => exact w_X2_hear_B39 X (kb39 := f_X2_hear_L39 σ n k39 x0) hf  (fun x3 d hf H locs ls hl G => ih hf hl G) hk39 hl G
end W_X2_hear
set_option maxHeartbeats 4000000 in
set_option maxRecDepth 100000 in
theorem c_X2_hear (l : Launch) {σ : Sg} {x0 : Nat} {x1 : Nat} {x2 : Int32} {d : Dt} {z : Unit × Dt} (hf : f_X2_hear σ x0 x1 x2 d = some z) : aw_Mv l yX2_hear (Cond.code yX2_hear cX2_hear 4 (none)) rm_X2_hear (fun ad => [.ref (ad x0), .ref (ad x1), .int x2]) σ d z := by
  intro D cA base ad
  refine aw_ofW (own := RX2) (cc := cX2_hear) (nL := 4) (ret := none) (by decide) rfl rfl ?_
  intro p e s m below meth c X hnm G
  have hx := X.1; have hb := X.2.1; have hml := X.2.2.1; have hown := X.2.2.2.1
  refine aw_ls (lv := [(0, .ref (ad x0)), (1, .ref (ad x1)), (2, .int x2)]) (Nat.le_of_ble_eq_true rfl) rfl (fun ls hl => ?_)
  unfold f_X2_hear at hf
  refine lv_iconst (v := (0 : Int32)) hx hb dX2_hear_0 (by decide) ?_
  refine lv_istore_n (lv' := [(3, .int ((0 : Int32))), (0, .ref (ad x0)), (1, .ref (ad x1)), (2, .int x2)]) hx hb dX2_hear_1 rfl hl (by decide) rfl (fun ls hl => ?_)
  refine w_X2_hear_L2 X aw_FU hf  (fun d_9 hf H locs ls hl G => ?_) (lv_sub hl [1, 2, 3, 0] rfl) G
  refine lv_aload_n hx hb dX2_hear_27 rfl (lv_at hl 0 rfl) ?_
  obtain ⟨hc_10, hf⟩ := aw_chk_some hf
  obtain ⟨q_11, hq_12, hf⟩ := aw_bind_some hf
  refine gf_X2_34 hx hb G hown hc_10 hq_12 dX2_hear_28 ?_
  refine lv_aload_n hx hb dX2_hear_31 rfl (lv_at hl 0 rfl) ?_
  refine gf_X2_37 hx hb G hown hc_10 dX2_hear_32 ?_
  refine lv_iload_n hx hb dX2_hear_35 rfl (lv_at hl 1 rfl) ?_
  obtain ⟨hc_13, hf⟩ := aw_chk_some hf
  refine aw_ias hx hb G hc_13 dX2_hear_36 (fun H locs G => ?_)
  refine lv_iconst (v := (0 : Int32)) hx hb dX2_hear_37 (by decide) ?_
  refine lv_istore_n (lv' := [(3, .int ((0 : Int32))), (0, .ref (ad x0)), (2, .int x2)]) hx hb dX2_hear_38 rfl hl (by decide) rfl (fun ls hl => ?_)
  refine w_X2_hear_L39 X aw_FU hf  (fun d_17 hf H locs ls hl G => ?_) (lv_sub hl [1, 0] rfl) G
  refine lv_aload_n hx hb dX2_hear_62 rfl (lv_at hl 0 rfl) ?_
  refine lv_dup hx hb dX2_hear_63 rfl ?_
  refine gf_X2_37 hx hb G hown hc_10 dX2_hear_64 ?_
  refine lv_iconst (v := (1 : Int32)) hx hb dX2_hear_67 (by decide) ?_
  refine lv_iadd hx hb dX2_hear_68 ?_
  refine pf_X2_37 hx hb G hown hc_10 dX2_hear_69 (fun H locs G => ?_)
  exact aw_retv X G hf dX2_hear_72
def rm_X2_append : Room := { frames := 2, cells := 0, slots := 0, locals := 47 }
def f_X2_append_B44 (σ : Sg) (kb44 : Int32 → Dt → Option (Int32 × Dt)) (k44 : Dt → Option (Int32 × Dt)) (x0 : Nat) (x5 : Int32) (d : Dt) : Option (Int32 × Dt) :=
  aw_chk (aw_O σ 2 8 x0) (if (d.1 x0 7) ≤ x5 then k44 d else (f_X2_alter σ x0 x5 (d.1 x0 4) d).bind (fun z_15 => kb44 (x5 + 1) z_15.2))
def f_X2_append_L44 (σ : Sg) (n : Nat) (k44 : Dt → Option (Int32 × Dt)) (x0 : Nat) : Int32 → Dt → Option (Int32 × Dt) := match n with
  | 0 => fun _ _ => none
  | n + 1 => fun x5 d => f_X2_append_B44 σ (f_X2_append_L44 σ n k44 x0) k44 x0 x5 d
def f_X2_append (σ : Sg) (x0 : Nat) (x1 : Int32) (x2 : Int32) (x3 : Int32) (x4 : Int32) (d : Dt) : Option (Int32 × Dt) :=
  aw_chk (aw_O σ 2 8 x0) ((σ.2.2 x0 0).bind (fun q_2 => aw_chk (aw_I σ 20 q_2 (d.1 x0 4)) ((σ.2.2 x0 1).bind (fun q_5 => aw_chk (aw_I σ 20 q_5 ((aw_sI d q_2 (d.1 x0 4).toNatClampNeg x1).1 x0 4)) ((σ.2.2 x0 2).bind (fun q_8 => aw_chk (aw_I σ 20 q_8 ((aw_sI (aw_sI d q_2 (d.1 x0 4).toNatClampNeg x1) q_5 ((aw_sI d q_2 (d.1 x0 4).toNatClampNeg x1).1 x0 4).toNatClampNeg x2).1 x0 4)) ((σ.2.2 x0 3).bind (fun q_11 => aw_chk (aw_I σ 22 q_11 ((aw_sI (aw_sI (aw_sI d q_2 (d.1 x0 4).toNatClampNeg x1) q_5 ((aw_sI d q_2 (d.1 x0 4).toNatClampNeg x1).1 x0 4).toNatClampNeg x2) q_8 ((aw_sI (aw_sI d q_2 (d.1 x0 4).toNatClampNeg x1) q_5 ((aw_sI d q_2 (d.1 x0 4).toNatClampNeg x1).1 x0 4).toNatClampNeg x2).1 x0 4).toNatClampNeg x3).1 x0 4)) (f_X2_append_L44 σ aw_FU (fun d_17 => some ((aw_sI d_17 x0 4 ((d_17.1 x0 4) + ((1 : Int32)))).1 x0 4, aw_sI d_17 x0 4 ((d_17.1 x0 4) + ((1 : Int32))))) x0 ((0 : Int32)) (aw_sI (aw_sI (aw_sI (aw_sI d q_2 (d.1 x0 4).toNatClampNeg x1) q_5 ((aw_sI d q_2 (d.1 x0 4).toNatClampNeg x1).1 x0 4).toNatClampNeg x2) q_8 ((aw_sI (aw_sI d q_2 (d.1 x0 4).toNatClampNeg x1) q_5 ((aw_sI d q_2 (d.1 x0 4).toNatClampNeg x1).1 x0 4).toNatClampNeg x2).1 x0 4).toNatClampNeg x3) q_11 ((aw_sI (aw_sI (aw_sI d q_2 (d.1 x0 4).toNatClampNeg x1) q_5 ((aw_sI d q_2 (d.1 x0 4).toNatClampNeg x1).1 x0 4).toNatClampNeg x2) q_8 ((aw_sI (aw_sI d q_2 (d.1 x0 4).toNatClampNeg x1) q_5 ((aw_sI d q_2 (d.1 x0 4).toNatClampNeg x1).1 x0 4).toNatClampNeg x2).1 x0 4).toNatClampNeg x3).1 x0 4).toNatClampNeg (vp_nar .boolean x4)))))))))))
section W_X2_append
variable {p : Program} {l : Launch} {e : Env} {s : State} {m : MethodId} {args : Array Value} {below : List Frame} {meth : Method} {c : Code}
variable {D : va_G} {cA : Nat → ClassId} {base : Nat} {ad : Nat → Nat} {σ : Sg}
set_option maxHeartbeats 4000000 in
set_option maxRecDepth 100000 in
theorem w_X2_append_B44 {z : Int32 × Dt} (X : aw_X p c cX2_append 6 s RX2 m meth (some .int)) {kb44 : Int32 → Dt → Option (Int32 × Dt)} {k44 : Dt → Option (Int32 × Dt)} {x0 : Nat} {x5 : Int32} {d : Dt} (hf : f_X2_append_B44 σ kb44 k44 x0 x5 d = some z) (hkb44 : ∀ (y5 : Int32) (d : Dt), kb44 y5 d = some z → ∀ (H : Heap) (locs : List Loc) (ls : Array Slot), lv_has ls 6 [(0, .ref (ad x0)), (5, .int y5)] → aw_G D cA base ad σ d s H locs → W p l e rm_X2_append s m args below meth c H locs 0 0 (aw_Ei D cA base ad σ below args s z) (F0 m 44 ls [])) (hk44 : ∀ (d : Dt), k44 d = some z → ∀ (H : Heap) (locs : List Loc) (ls : Array Slot), lv_has ls 6 [(0, .ref (ad x0))] → aw_G D cA base ad σ d s H locs → W p l e rm_X2_append s m args below meth c H locs 0 0 (aw_Ei D cA base ad σ below args s z) (F0 m 69 ls [])) {H : Heap} {locs : List Loc} {ls : Array Slot} (hl : lv_has ls 6 [(0, .ref (ad x0)), (5, .int x5)]) (G : aw_G D cA base ad σ d s H locs) : W p l e rm_X2_append s m args below meth c H locs 0 0 (aw_Ei D cA base ad σ below args s z) (F0 m 44 ls []) := by
  have hx := X.1; have hb := X.2.1; have hml := X.2.2.1; have hown := X.2.2.2.1
  unfold f_X2_append_B44 at hf
  refine lv_iload hx hb dX2_append_44 (lv_at hl 1 rfl) ?_
  refine lv_aload_n hx hb dX2_append_46 rfl (lv_at hl 0 rfl) ?_
  obtain ⟨hc_14, hf⟩ := aw_chk_some hf
  refine gf_X2_37 hx hb G hown hc_14 dX2_append_47 ?_
  refine lv_icmp_ge (tgt := 69) hx hb dX2_append_50 (by decide) (fun hc => ?_) (fun hc => ?_)
  · have hf := aw_ite_t hc hf
    exact hk44 _ hf _ _ _ (lv_sub hl [0] rfl) G
  · have hf := aw_ite_f hc hf
    refine lv_aload_n hx hb dX2_append_53 rfl (lv_at hl 0 rfl) ?_
    refine lv_iload hx hb dX2_append_54 (lv_at hl 1 rfl) ?_
    refine lv_aload_n hx hb dX2_append_56 rfl (lv_at hl 0 rfl) ?_
    refine gf_X2_25 hx hb G hown hc_14 dX2_append_57 ?_
    obtain ⟨z_15, hz_16, hf⟩ := aw_bind_some hf
    refine aw_VV (As := [.int x5, .int (d.1 x0 4)]) (rest := []) X G hl.1 cr_X2_40 (c_X2_alter l hz_16) ⟨rfl, rfl⟩ rfl rfl rfl (by decide) hc_14 rfl ⟨Nat.le_of_ble_eq_true rfl, Nat.le_of_ble_eq_true rfl⟩ (Nat.le_of_ble_eq_true rfl) dX2_append_60 ⟨Nat.zero_le _, Nat.zero_le _⟩ (fun H locs G => ?_)
    refine lv_iinc (v := x5 + 1) (lv' := [(5, .int (x5 + 1)), (0, .ref (ad x0))]) hx hb dX2_append_63 hl (k := 1) rfl rfl (by decide) rfl (fun ls hl => ?_)
    refine lv_goto (tgt := 44) hx hb dX2_append_66 (by decide) ?_
    exact hkb44 _ _ hf _ _ _ (lv_sub hl [1, 0] rfl) G
theorem w_X2_append_L44 {z : Int32 × Dt} (X : aw_X p c cX2_append 6 s RX2 m meth (some .int)) {k44 : Dt → Option (Int32 × Dt)} {x0 : Nat} (n : Nat) {x5 : Int32} {d : Dt} (hf : f_X2_append_L44 σ n k44 x0 x5 d = some z) (hk44 : ∀ (d : Dt), k44 d = some z → ∀ (H : Heap) (locs : List Loc) (ls : Array Slot), lv_has ls 6 [(0, .ref (ad x0))] → aw_G D cA base ad σ d s H locs → W p l e rm_X2_append s m args below meth c H locs 0 0 (aw_Ei D cA base ad σ below args s z) (F0 m 69 ls [])) {H : Heap} {locs : List Loc} {ls : Array Slot} (hl : lv_has ls 6 [(0, .ref (ad x0)), (5, .int x5)]) (G : aw_G D cA base ad σ d s H locs) : W p l e rm_X2_append s m args below meth c H locs 0 0 (aw_Ei D cA base ad σ below args s z) (F0 m 44 ls []) := by
  induction n generalizing x5 d H locs ls with
  | zero => exact absurd (show (none : Option (Int32 × Dt)) = some z from hf) (by simp)
  | succ n ih => exact w_X2_append_B44 X (kb44 := f_X2_append_L44 σ n k44 x0) hf  (fun x5 d hf H locs ls hl G => ih hf hl G) hk44 hl G
end W_X2_append
set_option maxHeartbeats 4000000 in
set_option maxRecDepth 100000 in
theorem c_X2_append (l : Launch) {σ : Sg} {x0 : Nat} {x1 : Int32} {x2 : Int32} {x3 : Int32} {x4 : Int32} {d : Dt} {z : Int32 × Dt} (hf : f_X2_append σ x0 x1 x2 x3 x4 d = some z) : aw_Mi l yX2_append (Cond.code yX2_append cX2_append 6 (some .int)) rm_X2_append (fun ad => [.ref (ad x0), .int x1, .int x2, .int x3, .int x4]) σ d z := by
  intro D cA base ad
  refine aw_ofW (own := RX2) (cc := cX2_append) (nL := 6) (ret := some .int) (by decide) rfl rfl ?_
  intro p e s m below meth c X hnm G
  have hx := X.1; have hb := X.2.1; have hml := X.2.2.1; have hown := X.2.2.2.1
  refine aw_ls (lv := [(0, .ref (ad x0)), (1, .int x1), (2, .int x2), (3, .int x3), (4, .int x4)]) (Nat.le_of_ble_eq_true rfl) rfl (fun ls hl => ?_)
  unfold f_X2_append at hf
  refine lv_aload_n hx hb dX2_append_0 rfl (lv_at hl 0 rfl) ?_
  obtain ⟨hc_1, hf⟩ := aw_chk_some hf
  obtain ⟨q_2, hq_3, hf⟩ := aw_bind_some hf
  refine gf_X2_9 hx hb G hown hc_1 hq_3 dX2_append_1 ?_
  refine lv_aload_n hx hb dX2_append_4 rfl (lv_at hl 0 rfl) ?_
  refine gf_X2_25 hx hb G hown hc_1 dX2_append_5 ?_
  refine lv_iload_n hx hb dX2_append_8 rfl (lv_at hl 1 rfl) ?_
  obtain ⟨hc_4, hf⟩ := aw_chk_some hf
  refine aw_ias hx hb G hc_4 dX2_append_9 (fun H locs G => ?_)
  refine lv_aload_n hx hb dX2_append_10 rfl (lv_at hl 0 rfl) ?_
  obtain ⟨q_5, hq_6, hf⟩ := aw_bind_some hf
  refine gf_X2_15 hx hb G hown hc_1 hq_6 dX2_append_11 ?_
  refine lv_aload_n hx hb dX2_append_14 rfl (lv_at hl 0 rfl) ?_
  refine gf_X2_25 hx hb G hown hc_1 dX2_append_15 ?_
  refine lv_iload_n hx hb dX2_append_18 rfl (lv_at hl 2 rfl) ?_
  obtain ⟨hc_7, hf⟩ := aw_chk_some hf
  refine aw_ias hx hb G hc_7 dX2_append_19 (fun H locs G => ?_)
  refine lv_aload_n hx hb dX2_append_20 rfl (lv_at hl 0 rfl) ?_
  obtain ⟨q_8, hq_9, hf⟩ := aw_bind_some hf
  refine gf_X2_18 hx hb G hown hc_1 hq_9 dX2_append_21 ?_
  refine lv_aload_n hx hb dX2_append_24 rfl (lv_at hl 0 rfl) ?_
  refine gf_X2_25 hx hb G hown hc_1 dX2_append_25 ?_
  refine lv_iload_n hx hb dX2_append_28 rfl (lv_at hl 3 rfl) ?_
  obtain ⟨hc_10, hf⟩ := aw_chk_some hf
  refine aw_ias hx hb G hc_10 dX2_append_29 (fun H locs G => ?_)
  refine lv_aload_n hx hb dX2_append_30 rfl (lv_at hl 0 rfl) ?_
  obtain ⟨q_11, hq_12, hf⟩ := aw_bind_some hf
  refine gf_X2_21 hx hb G hown hc_1 hq_12 dX2_append_31 ?_
  refine lv_aload_n hx hb dX2_append_34 rfl (lv_at hl 0 rfl) ?_
  refine gf_X2_25 hx hb G hown hc_1 dX2_append_35 ?_
  refine lv_iload hx hb dX2_append_38 (lv_at hl 4 rfl) ?_
  obtain ⟨hc_13, hf⟩ := aw_chk_some hf
  refine aw_zas hx hb G hc_13 dX2_append_40 (fun H locs G => ?_)
  refine lv_iconst (v := (0 : Int32)) hx hb dX2_append_41 (by decide) ?_
  refine lv_istore (lv' := [(5, .int ((0 : Int32))), (0, .ref (ad x0)), (1, .int x1), (2, .int x2), (3, .int x3), (4, .int x4)]) hx hb dX2_append_42 hl (by decide) rfl (fun ls hl => ?_)
  refine w_X2_append_L44 X aw_FU hf  (fun d_17 hf H locs ls hl G => ?_) (lv_sub hl [1, 0] rfl) G
  refine lv_aload_n hx hb dX2_append_69 rfl (lv_at hl 0 rfl) ?_
  refine lv_dup hx hb dX2_append_70 rfl ?_
  refine gf_X2_25 hx hb G hown hc_1 dX2_append_71 ?_
  refine lv_iconst (v := (1 : Int32)) hx hb dX2_append_74 (by decide) ?_
  refine lv_iadd hx hb dX2_append_75 ?_
  refine pf_X2_25 hx hb G hown hc_1 dX2_append_76 (fun H locs G => ?_)
  refine lv_aload_n hx hb dX2_append_79 rfl (lv_at hl 0 rfl) ?_
  refine gf_X2_25 hx hb G hown hc_1 dX2_append_80 ?_
  exact aw_reti X G hf dX2_append_83
def rm_X7_signsOf : Room := { frames := 0, cells := 0, slots := 0, locals := 0 }
def f_X7_signsOf_B5 (σ : Sg) (kb5 : Int64 → Int32 → Dt → Option (Int64 × Dt)) (k5 : Int64 → Dt → Option (Int64 × Dt)) (x0 : Nat) (x1 : Int32) (x2 : Int64) (x4 : Int32) (d : Dt) : Option (Int64 × Dt) :=
  aw_chk (aw_O σ 7 3 x0) ((σ.2.2 x0 1).bind (fun q_2 => aw_chk (aw_I σ 20 q_2 x1) (if (d.1 q_2 x1.toNatClampNeg) ≤ x4 then k5 x2 d else (σ.2.2 x0 0).bind (fun q_5 => aw_chk (aw_I σ 23 q_5 x1) ((σ.2.2 q_5 x1.toNatClampNeg).bind (fun q_8 => aw_chk (aw_I σ 20 q_8 x4) (kb5 (x2 ||| (((1 : Int64)) <<< ((d.1 q_8 x4.toNatClampNeg).toInt64 &&& 63))) (x4 + 1) d)))))))
def f_X7_signsOf_L5 (σ : Sg) (n : Nat) (k5 : Int64 → Dt → Option (Int64 × Dt)) (x0 : Nat) (x1 : Int32) : Int64 → Int32 → Dt → Option (Int64 × Dt) := match n with
  | 0 => fun _ _ _ => none
  | n + 1 => fun x2 x4 d => f_X7_signsOf_B5 σ (f_X7_signsOf_L5 σ n k5 x0 x1) k5 x0 x1 x2 x4 d
def f_X7_signsOf (σ : Sg) (x0 : Nat) (x1 : Int32) (d : Dt) : Option (Int64 × Dt) :=
  f_X7_signsOf_L5 σ aw_FU (fun x2_11 d_12 => some (x2_11, d_12)) x0 x1 ((0 : Int64)) ((0 : Int32)) d
section W_X7_signsOf
variable {p : Program} {l : Launch} {e : Env} {s : State} {m : MethodId} {args : Array Value} {below : List Frame} {meth : Method} {c : Code}
variable {D : va_G} {cA : Nat → ClassId} {base : Nat} {ad : Nat → Nat} {σ : Sg}
set_option maxHeartbeats 4000000 in
set_option maxRecDepth 100000 in
theorem w_X7_signsOf_B5 {z : Int64 × Dt} (X : aw_X p c cX7_signsOf 5 s RX7 m meth (some .long)) {kb5 : Int64 → Int32 → Dt → Option (Int64 × Dt)} {k5 : Int64 → Dt → Option (Int64 × Dt)} {x0 : Nat} {x1 : Int32} {x2 : Int64} {x4 : Int32} {d : Dt} (hf : f_X7_signsOf_B5 σ kb5 k5 x0 x1 x2 x4 d = some z) (hkb5 : ∀ (y2 : Int64) (y4 : Int32) (d : Dt), kb5 y2 y4 d = some z → ∀ (H : Heap) (locs : List Loc) (ls : Array Slot), lv_has ls 5 [(0, .ref (ad x0)), (1, .int x1), (2, .long y2), (4, .int y4)] → aw_G D cA base ad σ d s H locs → W p l e rm_X7_signsOf s m args below meth c H locs 0 0 (aw_El D cA base ad σ below args s z) (F0 m 5 ls [])) (hk5 : ∀ (y2 : Int64) (d : Dt), k5 y2 d = some z → ∀ (H : Heap) (locs : List Loc) (ls : Array Slot), lv_has ls 5 [(2, .long y2)] → aw_G D cA base ad σ d s H locs → W p l e rm_X7_signsOf s m args below meth c H locs 0 0 (aw_El D cA base ad σ below args s z) (F0 m 36 ls [])) {H : Heap} {locs : List Loc} {ls : Array Slot} (hl : lv_has ls 5 [(0, .ref (ad x0)), (1, .int x1), (2, .long x2), (4, .int x4)]) (G : aw_G D cA base ad σ d s H locs) : W p l e rm_X7_signsOf s m args below meth c H locs 0 0 (aw_El D cA base ad σ below args s z) (F0 m 5 ls []) := by
  have hx := X.1; have hb := X.2.1; have hml := X.2.2.1; have hown := X.2.2.2.1
  unfold f_X7_signsOf_B5 at hf
  refine lv_iload hx hb dX7_signsOf_5 (lv_at hl 3 rfl) ?_
  refine lv_aload_n hx hb dX7_signsOf_7 rfl (lv_at hl 0 rfl) ?_
  obtain ⟨hc_1, hf⟩ := aw_chk_some hf
  obtain ⟨q_2, hq_3, hf⟩ := aw_bind_some hf
  refine gf_X7_16 hx hb G hown hc_1 hq_3 dX7_signsOf_8 ?_
  refine lv_iload_n hx hb dX7_signsOf_11 rfl (lv_at hl 1 rfl) ?_
  obtain ⟨hc_4, hf⟩ := aw_chk_some hf
  refine aw_ial hx hb G hc_4 dX7_signsOf_12 ?_
  refine lv_icmp_ge (tgt := 36) hx hb dX7_signsOf_13 (by decide) (fun hc => ?_) (fun hc => ?_)
  · have hf := aw_ite_t hc hf
    exact hk5 _ _ hf _ _ _ (lv_sub hl [2] rfl) G
  · have hf := aw_ite_f hc hf
    refine lv_lload_n hx hb dX7_signsOf_16 rfl (lv_at hl 2 rfl) ?_
    refine lv_lconst (v := (1 : Int64)) hx hb dX7_signsOf_17 (by decide) ?_
    refine lv_aload_n hx hb dX7_signsOf_18 rfl (lv_at hl 0 rfl) ?_
    obtain ⟨q_5, hq_6, hf⟩ := aw_bind_some hf
    refine gf_X7_11 hx hb G hown hc_1 hq_6 dX7_signsOf_19 ?_
    refine lv_iload_n hx hb dX7_signsOf_22 rfl (lv_at hl 1 rfl) ?_
    obtain ⟨hc_7, hf⟩ := aw_chk_some hf
    obtain ⟨q_8, hq_9, hf⟩ := aw_bind_some hf
    refine aw_qal hx hb G 23 _ rfl rfl (by decide) hc_7 hq_9 dX7_signsOf_23 ?_
    refine lv_iload hx hb dX7_signsOf_24 (lv_at hl 3 rfl) ?_
    obtain ⟨hc_10, hf⟩ := aw_chk_some hf
    refine aw_ial hx hb G hc_10 dX7_signsOf_26 ?_
    refine lv_lshl hx hb dX7_signsOf_27 rfl ?_
    refine lv_lor hx hb dX7_signsOf_28 ?_
    refine lv_lstore_n (lv' := [(2, .long (x2 ||| (((1 : Int64)) <<< ((d.1 q_8 x4.toNatClampNeg).toInt64 &&& 63)))), (0, .ref (ad x0)), (1, .int x1), (4, .int x4)]) hx hb dX7_signsOf_29 rfl hl (by decide) rfl (fun ls hl => ?_)
    refine lv_iinc (v := x4 + 1) (lv' := [(4, .int (x4 + 1)), (2, .long (x2 ||| (((1 : Int64)) <<< ((d.1 q_8 x4.toNatClampNeg).toInt64 &&& 63)))), (0, .ref (ad x0)), (1, .int x1)]) hx hb dX7_signsOf_30 hl (k := 3) rfl rfl (by decide) rfl (fun ls hl => ?_)
    refine lv_goto (tgt := 5) hx hb dX7_signsOf_33 (by decide) ?_
    exact hkb5 _ _ _ hf _ _ _ (lv_sub hl [2, 3, 1, 0] rfl) G
theorem w_X7_signsOf_L5 {z : Int64 × Dt} (X : aw_X p c cX7_signsOf 5 s RX7 m meth (some .long)) {k5 : Int64 → Dt → Option (Int64 × Dt)} {x0 : Nat} {x1 : Int32} (n : Nat) {x2 : Int64} {x4 : Int32} {d : Dt} (hf : f_X7_signsOf_L5 σ n k5 x0 x1 x2 x4 d = some z) (hk5 : ∀ (y2 : Int64) (d : Dt), k5 y2 d = some z → ∀ (H : Heap) (locs : List Loc) (ls : Array Slot), lv_has ls 5 [(2, .long y2)] → aw_G D cA base ad σ d s H locs → W p l e rm_X7_signsOf s m args below meth c H locs 0 0 (aw_El D cA base ad σ below args s z) (F0 m 36 ls [])) {H : Heap} {locs : List Loc} {ls : Array Slot} (hl : lv_has ls 5 [(0, .ref (ad x0)), (1, .int x1), (2, .long x2), (4, .int x4)]) (G : aw_G D cA base ad σ d s H locs) : W p l e rm_X7_signsOf s m args below meth c H locs 0 0 (aw_El D cA base ad σ below args s z) (F0 m 5 ls []) := by
  induction n generalizing x2 x4 d H locs ls with
  | zero => exact absurd (show (none : Option (Int64 × Dt)) = some z from hf) (by simp)
  | succ n ih => exact w_X7_signsOf_B5 X (kb5 := f_X7_signsOf_L5 σ n k5 x0 x1) hf  (fun x2 x4 d hf H locs ls hl G => ih hf hl G) hk5 hl G
end W_X7_signsOf
set_option maxHeartbeats 4000000 in
set_option maxRecDepth 100000 in
theorem c_X7_signsOf (l : Launch) {σ : Sg} {x0 : Nat} {x1 : Int32} {d : Dt} {z : Int64 × Dt} (hf : f_X7_signsOf σ x0 x1 d = some z) : aw_Ml l yX7_signsOf (Cond.code yX7_signsOf cX7_signsOf 5 (some .long)) rm_X7_signsOf (fun ad => [.ref (ad x0), .int x1]) σ d z := by
  intro D cA base ad
  refine aw_ofW (own := RX7) (cc := cX7_signsOf) (nL := 5) (ret := some .long) (by decide) rfl rfl ?_
  intro p e s m below meth c X hnm G
  have hx := X.1; have hb := X.2.1; have hml := X.2.2.1; have hown := X.2.2.2.1
  refine aw_ls (lv := [(0, .ref (ad x0)), (1, .int x1)]) (Nat.le_of_ble_eq_true rfl) rfl (fun ls hl => ?_)
  unfold f_X7_signsOf at hf
  refine lv_lconst (v := (0 : Int64)) hx hb dX7_signsOf_0 (by decide) ?_
  refine lv_lstore_n (lv' := [(2, .long ((0 : Int64))), (0, .ref (ad x0)), (1, .int x1)]) hx hb dX7_signsOf_1 rfl hl (by decide) rfl (fun ls hl => ?_)
  refine lv_iconst (v := (0 : Int32)) hx hb dX7_signsOf_2 (by decide) ?_
  refine lv_istore (lv' := [(4, .int ((0 : Int32))), (2, .long ((0 : Int64))), (0, .ref (ad x0)), (1, .int x1)]) hx hb dX7_signsOf_3 hl (by decide) rfl (fun ls hl => ?_)
  refine w_X7_signsOf_L5 X aw_FU hf  (fun x2_11 d_12 hf H locs ls hl G => ?_) (lv_sub hl [2, 3, 1, 0] rfl) G
  refine lv_lload_n hx hb dX7_signsOf_36 rfl (lv_at hl 0 rfl) ?_
  exact aw_retl X G hf dX7_signsOf_37
