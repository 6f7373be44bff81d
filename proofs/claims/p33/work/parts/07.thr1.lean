/-! X10_reform X10_score X10_shape X10_spelled X10_spoken X10_syllable X10_travel X10_votes X10_word -/
def rm_X10_reform : Room := { frames := 7, cells := 2, slots := 12, locals := 117 }
def f_X10_reform_B21 (σ : Sg) (kb21 : Int32 → Int32 → Dt → Option ((Nat ⊕ Int32) × Dt)) (k21 : Int32 → Dt → Option ((Nat ⊕ Int32) × Dt)) (x0 : Nat) (x3 : Int32) (x4 : Int32) (d : Dt) : Option ((Nat ⊕ Int32) × Dt) :=
  aw_chk (aw_O σ 10 13 x0) ((σ.2.2 x0 0).bind (fun q_9 => aw_chk (aw_O σ 9 4 q_9) (if (d.1 q_9 3) ≤ x4 then k21 x3 d else (σ.2.2 x0 9).bind (fun q_12 => (σ.2.2 x0 7).bind (fun q_14 => aw_chk (aw_O σ 7 3 q_14) ((σ.2.2 q_14 0).bind (fun q_17 => aw_chk (aw_I σ 23 q_17 x4) ((σ.2.2 q_17 x4.toNatClampNeg).bind (fun q_20 => (σ.2.2 q_14 1).bind (fun q_22 => aw_chk (aw_I σ 20 q_22 x4) ((σ.2.2 x0 8).bind (fun q_25 => aw_chk (aw_O σ 7 3 q_25) ((σ.2.2 q_25 0).bind (fun q_28 => aw_chk (aw_I σ 23 q_28 x4) ((σ.2.2 q_28 x4.toNatClampNeg).bind (fun q_31 => (σ.2.2 q_25 1).bind (fun q_33 => aw_chk (aw_I σ 20 q_33 x4) (aw_chk (aw_O σ 8 1 q_12) ((f_X8_between σ q_12 q_20 (d.1 q_22 x4.toNatClampNeg) q_31 (d.1 q_33 x4.toNatClampNeg) d).bind (fun z_36 => (σ.2.2 q_9 2).bind (fun q_39 => aw_chk (aw_I σ 20 q_39 x4) (kb21 (x3 + ((z_36.2.1 q_39 x4.toNatClampNeg) * z_36.1)) (x4 + 1) z_36.2))))))))))))))))))))))
def f_X10_reform_L21 (σ : Sg) (n : Nat) (k21 : Int32 → Dt → Option ((Nat ⊕ Int32) × Dt)) (x0 : Nat) : Int32 → Int32 → Dt → Option ((Nat ⊕ Int32) × Dt) := match n with
  | 0 => fun _ _ _ => none
  | n + 1 => fun x3 x4 d => f_X10_reform_B21 σ (f_X10_reform_L21 σ n k21 x0) k21 x0 x3 x4 d
def f_X10_reform (σ : Sg) (x0 : Nat) (x1 : Int32) (x2 : Int32) (d : Dt) : Option ((Nat ⊕ Int32) × Dt) :=
  aw_chk (aw_O σ 10 13 x0) ((f_X10_requireDesign σ x0 x1 d).bind (fun z_1 => aw_th z_1 (fun _ => (f_X10_requireDesign σ x0 x2 z_1.2).bind (fun z_4 => aw_th z_4 (fun _ => (f_X10_spellBoth σ x0 x1 x2 z_4.2).bind (fun z_6 => f_X10_reform_L21 σ aw_FU (fun x3_42 d_43 => some (Sum.inr x3_42, d_43)) x0 ((0 : Int32)) ((0 : Int32)) z_6.2))))))
section W_X10_reform
variable {p : Program} {l : Launch} {e : Env} {s : State} {m : MethodId} {args : Array Value} {below : List Frame} {meth : Method} {c : Code}
variable {D : va_G} {cA : Nat → ClassId} {base : Nat} {ad : Nat → Nat} {σ : Sg}
set_option maxHeartbeats 4000000 in
set_option maxRecDepth 100000 in
theorem w_X10_reform_B21 {z : (Nat ⊕ Int32) × Dt} (X : aw_X p c cX10_reform 6 s RX10 m meth (some .int)) (XT : aw_XT l c) {kb21 : Int32 → Int32 → Dt → Option ((Nat ⊕ Int32) × Dt)} {k21 : Int32 → Dt → Option ((Nat ⊕ Int32) × Dt)} {x0 : Nat} {x3 : Int32} {x4 : Int32} {d : Dt} (hf : f_X10_reform_B21 σ kb21 k21 x0 x3 x4 d = some z) (hkb21 : ∀ (y3 : Int32) (y4 : Int32) (d : Dt), kb21 y3 y4 d = some z → ∀ (H : Heap) (locs : List Loc) (ls : Array Slot), lv_has ls 6 [(0, .ref (ad x0)), (3, .int y3), (4, .int y4)] → aw_G D cA base ad σ d s H locs → W p l e rm_X10_reform s m args below meth c H locs 2 12 (aw_Exi D cA base ad σ below args s 2 12 z) (F0 m 21 ls [])) (hk21 : ∀ (y3 : Int32) (d : Dt), k21 y3 d = some z → ∀ (H : Heap) (locs : List Loc) (ls : Array Slot), lv_has ls 6 [(3, .int y3)] → aw_G D cA base ad σ d s H locs → W p l e rm_X10_reform s m args below meth c H locs 2 12 (aw_Exi D cA base ad σ below args s 2 12 z) (F0 m 104 ls [])) {H : Heap} {locs : List Loc} {ls : Array Slot} (hl : lv_has ls 6 [(0, .ref (ad x0)), (3, .int x3), (4, .int x4)]) (G : aw_G D cA base ad σ d s H locs) : W p l e rm_X10_reform s m args below meth c H locs 2 12 (aw_Exi D cA base ad σ below args s 2 12 z) (F0 m 21 ls []) := by
  have hx := X.1; have hb := X.2.1; have hml := X.2.2.1; have hown := X.2.2.2.1
  unfold f_X10_reform_B21 at hf
  refine lv_iload hx hb dX10_reform_21 (lv_at hl 2 rfl) ?_
  refine lv_aload_n hx hb dX10_reform_23 rfl (lv_at hl 0 rfl) ?_
  obtain ⟨hc_8, hf⟩ := aw_chk_some hf
  obtain ⟨q_9, hq_10, hf⟩ := aw_bind_some hf
  refine gf_X10_12 hx hb G hown hc_8 hq_10 dX10_reform_24 ?_
  obtain ⟨hc_11, hf⟩ := aw_chk_some hf
  refine gf_X10_112 hx hb G hown hc_11 dX10_reform_27 ?_
  refine lv_icmp_ge (tgt := 104) hx hb dX10_reform_30 (by decide) (fun hc => ?_) (fun hc => ?_)
  · have hf := aw_ite_t hc hf
    refine W.widen (k := 2) (n := 12) (Nat.le_of_ble_eq_true rfl) (Nat.le_of_ble_eq_true rfl) ?_
    exact hk21 _ _ hf _ _ _ (lv_sub hl [1] rfl) G
  · have hf := aw_ite_f hc hf
    refine lv_aload_n hx hb dX10_reform_33 rfl (lv_at hl 0 rfl) ?_
    obtain ⟨q_12, hq_13, hf⟩ := aw_bind_some hf
    refine gf_X10_64 hx hb G hown hc_8 hq_13 dX10_reform_34 ?_
    refine lv_aload_n hx hb dX10_reform_37 rfl (lv_at hl 0 rfl) ?_
    obtain ⟨q_14, hq_15, hf⟩ := aw_bind_some hf
    refine gf_X10_54 hx hb G hown hc_8 hq_15 dX10_reform_38 ?_
    obtain ⟨hc_16, hf⟩ := aw_chk_some hf
    obtain ⟨q_17, hq_18, hf⟩ := aw_bind_some hf
    refine gf_X10_208 hx hb G hown hc_16 hq_18 dX10_reform_41 ?_
    refine lv_iload hx hb dX10_reform_44 (lv_at hl 2 rfl) ?_
    obtain ⟨hc_19, hf⟩ := aw_chk_some hf
    obtain ⟨q_20, hq_21, hf⟩ := aw_bind_some hf
    refine aw_qal hx hb G 23 _ rfl rfl (by decide) hc_19 hq_21 dX10_reform_46 ?_
    refine lv_aload_n hx hb dX10_reform_47 rfl (lv_at hl 0 rfl) ?_
    refine gf_X10_54 hx hb G hown hc_8 hq_15 dX10_reform_48 ?_
    obtain ⟨q_22, hq_23, hf⟩ := aw_bind_some hf
    refine gf_X10_207 hx hb G hown hc_16 hq_23 dX10_reform_51 ?_
    refine lv_iload hx hb dX10_reform_54 (lv_at hl 2 rfl) ?_
    obtain ⟨hc_24, hf⟩ := aw_chk_some hf
    refine aw_ial hx hb G hc_24 dX10_reform_56 ?_
    refine lv_aload_n hx hb dX10_reform_57 rfl (lv_at hl 0 rfl) ?_
    obtain ⟨q_25, hq_26, hf⟩ := aw_bind_some hf
    refine gf_X10_58 hx hb G hown hc_8 hq_26 dX10_reform_58 ?_
    obtain ⟨hc_27, hf⟩ := aw_chk_some hf
    obtain ⟨q_28, hq_29, hf⟩ := aw_bind_some hf
    refine gf_X10_208 hx hb G hown hc_27 hq_29 dX10_reform_61 ?_
    refine lv_iload hx hb dX10_reform_64 (lv_at hl 2 rfl) ?_
    obtain ⟨hc_30, hf⟩ := aw_chk_some hf
    obtain ⟨q_31, hq_32, hf⟩ := aw_bind_some hf
    refine aw_qal hx hb G 23 _ rfl rfl (by decide) hc_30 hq_32 dX10_reform_66 ?_
    refine lv_aload_n hx hb dX10_reform_67 rfl (lv_at hl 0 rfl) ?_
    refine gf_X10_58 hx hb G hown hc_8 hq_26 dX10_reform_68 ?_
    obtain ⟨q_33, hq_34, hf⟩ := aw_bind_some hf
    refine gf_X10_207 hx hb G hown hc_27 hq_34 dX10_reform_71 ?_
    refine lv_iload hx hb dX10_reform_74 (lv_at hl 2 rfl) ?_
    obtain ⟨hc_35, hf⟩ := aw_chk_some hf
    refine aw_ial hx hb G hc_35 dX10_reform_76 ?_
    obtain ⟨hc_38, hf⟩ := aw_chk_some hf
    obtain ⟨z_36, hz_37, hf⟩ := aw_bind_some hf
    refine aw_VI (As := [.ref (ad q_20), .int (d.1 q_22 x4.toNatClampNeg), .ref (ad q_31), .int (d.1 q_33 x4.toNatClampNeg)]) (rest := []) X G hl.1 cr_X10_356 (c_X8_between l hz_37) ⟨rfl, rfl⟩ rfl rfl rfl (by decide) hc_38 rfl ⟨Nat.le_of_ble_eq_true rfl, Nat.le_of_ble_eq_true rfl⟩ (Nat.le_of_ble_eq_true rfl) dX10_reform_77 ⟨Nat.le_of_ble_eq_true rfl, Nat.le_of_ble_eq_true rfl⟩ (fun H locs G => ?_)
    refine lv_istore (lv' := [(5, .int z_36.1), (0, .ref (ad x0)), (3, .int x3), (4, .int x4)]) hx hb dX10_reform_80 hl (by decide) rfl (fun ls hl => ?_)
    refine lv_iload_n hx hb dX10_reform_82 rfl (lv_at hl 2 rfl) ?_
    refine lv_aload_n hx hb dX10_reform_83 rfl (lv_at hl 1 rfl) ?_
    refine gf_X10_12 hx hb G hown hc_8 hq_10 dX10_reform_84 ?_
    obtain ⟨q_39, hq_40, hf⟩ := aw_bind_some hf
    refine gf_X10_212 hx hb G hown hc_11 hq_40 dX10_reform_87 ?_
    refine lv_iload hx hb dX10_reform_90 (lv_at hl 3 rfl) ?_
    obtain ⟨hc_41, hf⟩ := aw_chk_some hf
    refine aw_ial hx hb G hc_41 dX10_reform_92 ?_
    refine lv_iload hx hb dX10_reform_93 (lv_at hl 0 rfl) ?_
    refine lv_imul hx hb dX10_reform_95 ?_
    refine lv_iadd hx hb dX10_reform_96 ?_
    refine lv_istore_n (lv' := [(3, .int (x3 + ((z_36.2.1 q_39 x4.toNatClampNeg) * z_36.1))), (5, .int z_36.1), (0, .ref (ad x0)), (4, .int x4)]) hx hb dX10_reform_97 rfl hl (by decide) rfl (fun ls hl => ?_)
    refine lv_iinc (v := x4 + 1) (lv' := [(4, .int (x4 + 1)), (3, .int (x3 + ((z_36.2.1 q_39 x4.toNatClampNeg) * z_36.1))), (5, .int z_36.1), (0, .ref (ad x0))]) hx hb dX10_reform_98 hl (k := 3) rfl rfl (by decide) rfl (fun ls hl => ?_)
    refine lv_goto (tgt := 21) hx hb dX10_reform_101 (by decide) ?_
    refine W.widen (k := 2) (n := 12) (Nat.le_of_ble_eq_true rfl) (Nat.le_of_ble_eq_true rfl) ?_
    exact hkb21 _ _ _ hf _ _ _ (lv_sub hl [3, 1, 0] rfl) G
theorem w_X10_reform_L21 {z : (Nat ⊕ Int32) × Dt} (X : aw_X p c cX10_reform 6 s RX10 m meth (some .int)) (XT : aw_XT l c) {k21 : Int32 → Dt → Option ((Nat ⊕ Int32) × Dt)} {x0 : Nat} (n : Nat) {x3 : Int32} {x4 : Int32} {d : Dt} (hf : f_X10_reform_L21 σ n k21 x0 x3 x4 d = some z) (hk21 : ∀ (y3 : Int32) (d : Dt), k21 y3 d = some z → ∀ (H : Heap) (locs : List Loc) (ls : Array Slot), lv_has ls 6 [(3, .int y3)] → aw_G D cA base ad σ d s H locs → W p l e rm_X10_reform s m args below meth c H locs 2 12 (aw_Exi D cA base ad σ below args s 2 12 z) (F0 m 104 ls [])) {H : Heap} {locs : List Loc} {ls : Array Slot} (hl : lv_has ls 6 [(0, .ref (ad x0)), (3, .int x3), (4, .int x4)]) (G : aw_G D cA base ad σ d s H locs) : W p l e rm_X10_reform s m args below meth c H locs 2 12 (aw_Exi D cA base ad σ below args s 2 12 z) (F0 m 21 ls []) := by
  induction n generalizing x3 x4 d H locs ls with
  | zero => exact absurd (show (none : Option ((Nat ⊕ Int32) × Dt)) = some z from hf) (by simp)
  | succ n ih => exact w_X10_reform_B21 X XT (kb21 := f_X10_reform_L21 σ n k21 x0) hf  (fun x3 x4 d hf H locs ls hl G => ih hf hl G) hk21 hl G
end W_X10_reform
set_option maxHeartbeats 4000000 in
set_option maxRecDepth 100000 in
theorem c_X10_reform (l : Launch) (hst : l.stackTraces = false) {σ : Sg} {x0 : Nat} {x1 : Int32} {x2 : Int32} {d : Dt} {z : (Nat ⊕ Int32) × Dt} (hf : f_X10_reform σ x0 x1 x2 d = some z) : aw_Xi l yX10_reform (Cond.code yX10_reform cX10_reform 6 (some .int)) rm_X10_reform (fun ad => [.ref (ad x0), .int x1, .int x2]) σ d z := by
  intro D cA base ad
  refine aw_ofX (own := RX10) (cc := cX10_reform) (nL := 6) (ret := some .int) hst (by decide) rfl rfl ?_
  intro p e s m below meth c X XT G
  have hx := X.1; have hb := X.2.1; have hml := X.2.2.1; have hown := X.2.2.2.1
  refine aw_ls (lv := [(0, .ref (ad x0)), (1, .int x1), (2, .int x2)]) (Nat.le_of_ble_eq_true rfl) rfl (fun ls hl => ?_)
  unfold f_X10_reform at hf
  refine lv_aload_n hx hb dX10_reform_0 rfl (lv_at hl 0 rfl) ?_
  refine lv_iload_n hx hb dX10_reform_1 rfl (lv_at hl 1 rfl) ?_
  obtain ⟨hc_3, hf⟩ := aw_chk_some hf
  obtain ⟨z_1, hz_2, hf⟩ := aw_bind_some hf
  refine aw_XVV (As := [.int x1]) (rest := []) X XT G hl.1 cr_X10_176 (c_X10_requireDesign l XT.1 hz_2) rfl rfl rfl (by decide) hc_3 rfl ⟨Nat.le_of_ble_eq_true rfl, Nat.le_of_ble_eq_true rfl⟩ (Nat.le_of_ble_eq_true rfl) dX10_reform_2 ⟨Nat.le_of_ble_eq_true rfl, Nat.le_of_ble_eq_true rfl⟩ hf (Nat.le_of_ble_eq_true rfl) (Nat.le_of_ble_eq_true rfl) (fun H locs G hf => ?_)
  refine lv_aload_n hx hb dX10_reform_5 rfl (lv_at hl 0 rfl) ?_
  refine lv_iload_n hx hb dX10_reform_6 rfl (lv_at hl 2 rfl) ?_
  obtain ⟨z_4, hz_5, hf⟩ := aw_bind_some hf
  refine aw_XVV (As := [.int x2]) (rest := []) X XT G hl.1 cr_X10_176 (c_X10_requireDesign l XT.1 hz_5) rfl rfl rfl (by decide) hc_3 rfl ⟨Nat.le_of_ble_eq_true rfl, Nat.le_of_ble_eq_true rfl⟩ (Nat.le_of_ble_eq_true rfl) dX10_reform_7 ⟨Nat.le_of_ble_eq_true rfl, Nat.le_of_ble_eq_true rfl⟩ hf (Nat.le_of_ble_eq_true rfl) (Nat.le_of_ble_eq_true rfl) (fun H locs G hf => ?_)
  refine lv_aload_n hx hb dX10_reform_10 rfl (lv_at hl 0 rfl) ?_
  refine lv_iload_n hx hb dX10_reform_11 rfl (lv_at hl 1 rfl) ?_
  refine lv_iload_n hx hb dX10_reform_12 rfl (lv_at hl 2 rfl) ?_
  obtain ⟨z_6, hz_7, hf⟩ := aw_bind_some hf
  refine aw_VV (As := [.int x1, .int x2]) (rest := []) X G hl.1 cr_X10_353 (c_X10_spellBoth l hz_7) ⟨rfl, rfl⟩ rfl rfl rfl (by decide) hc_3 rfl ⟨Nat.le_of_ble_eq_true rfl, Nat.le_of_ble_eq_true rfl⟩ (Nat.le_of_ble_eq_true rfl) dX10_reform_13 ⟨Nat.le_of_ble_eq_true rfl, Nat.le_of_ble_eq_true rfl⟩ (fun H locs G => ?_)
  refine lv_iconst (v := (0 : Int32)) hx hb dX10_reform_16 (by decide) ?_
  refine lv_istore_n (lv' := [(3, .int ((0 : Int32))), (0, .ref (ad x0)), (1, .int x1), (2, .int x2)]) hx hb dX10_reform_17 rfl hl (by decide) rfl (fun ls hl => ?_)
  refine lv_iconst (v := (0 : Int32)) hx hb dX10_reform_18 (by decide) ?_
  refine lv_istore (lv' := [(4, .int ((0 : Int32))), (3, .int ((0 : Int32))), (0, .ref (ad x0)), (1, .int x1), (2, .int x2)]) hx hb dX10_reform_19 hl (by decide) rfl (fun ls hl => ?_)
  refine W.widen (k := 2) (n := 12) (Nat.le_of_ble_eq_true rfl) (Nat.le_of_ble_eq_true rfl) ?_
  refine w_X10_reform_L21 X XT aw_FU hf  (fun x3_42 d_43 hf H locs ls hl G => ?_) (lv_sub hl [2, 1, 0] rfl) G
  refine lv_iload_n hx hb dX10_reform_104 rfl (lv_at hl 0 rfl) ?_
  exact aw_xreti X G hf dX10_reform_105 (Nat.le_of_ble_eq_true rfl) (Nat.le_of_ble_eq_true rfl)
def rm_X10_score : Room := { frames := 7, cells := 2, slots := 12, locals := 125 }
def f_X10_score (σ : Sg) (x0 : Nat) (x1 : Int32) (x2 : Int32) (d : Dt) : Option ((Nat ⊕ Int32) × Dt) :=
  aw_chk (aw_O σ 10 13 x0) ((f_X10_requireGroup σ x0 x1 d).bind (fun z_1 => aw_th z_1 (fun _ => (f_X10_requireDesign σ x0 x2 z_1.2).bind (fun z_4 => aw_th z_4 (fun _ => (σ.2.2 x0 3).bind (fun q_6 => aw_chk (aw_I σ 26 q_6 x2) ((σ.2.2 q_6 x2.toNatClampNeg).bind (fun q_9 => (f_X10_scoreOf σ x0 x1 q_9 z_4.2).bind (fun z_11 => some (Sum.inr z_11.1, z_11.2))))))))))
section W_X10_score
variable {p : Program} {l : Launch} {e : Env} {s : State} {m : MethodId} {args : Array Value} {below : List Frame} {meth : Method} {c : Code}
variable {D : va_G} {cA : Nat → ClassId} {base : Nat} {ad : Nat → Nat} {σ : Sg}
end W_X10_score
set_option maxHeartbeats 4000000 in
set_option maxRecDepth 100000 in
theorem c_X10_score (l : Launch) (hst : l.stackTraces = false) {σ : Sg} {x0 : Nat} {x1 : Int32} {x2 : Int32} {d : Dt} {z : (Nat ⊕ Int32) × Dt} (hf : f_X10_score σ x0 x1 x2 d = some z) : aw_Xi l yX10_score (Cond.code yX10_score cX10_score 3 (some .int)) rm_X10_score (fun ad => [.ref (ad x0), .int x1, .int x2]) σ d z := by
  intro D cA base ad
  refine aw_ofX (own := RX10) (cc := cX10_score) (nL := 3) (ret := some .int) hst (by decide) rfl rfl ?_
  intro p e s m below meth c X XT G
  have hx := X.1; have hb := X.2.1; have hml := X.2.2.1; have hown := X.2.2.2.1
  refine aw_ls (lv := [(0, .ref (ad x0)), (1, .int x1), (2, .int x2)]) (Nat.le_of_ble_eq_true rfl) rfl (fun ls hl => ?_)
  unfold f_X10_score at hf
  refine lv_aload_n hx hb dX10_score_0 rfl (lv_at hl 0 rfl) ?_
  refine lv_iload_n hx hb dX10_score_1 rfl (lv_at hl 1 rfl) ?_
  obtain ⟨hc_3, hf⟩ := aw_chk_some hf
  obtain ⟨z_1, hz_2, hf⟩ := aw_bind_some hf
  refine aw_XVV (As := [.int x1]) (rest := []) X XT G hl.1 cr_X10_317 (c_X10_requireGroup l XT.1 hz_2) rfl rfl rfl (by decide) hc_3 rfl ⟨Nat.le_of_ble_eq_true rfl, Nat.le_of_ble_eq_true rfl⟩ (Nat.le_of_ble_eq_true rfl) dX10_score_2 ⟨Nat.le_of_ble_eq_true rfl, Nat.le_of_ble_eq_true rfl⟩ hf (Nat.le_of_ble_eq_true rfl) (Nat.le_of_ble_eq_true rfl) (fun H locs G hf => ?_)
  refine lv_aload_n hx hb dX10_score_5 rfl (lv_at hl 0 rfl) ?_
  refine lv_iload_n hx hb dX10_score_6 rfl (lv_at hl 2 rfl) ?_
  obtain ⟨z_4, hz_5, hf⟩ := aw_bind_some hf
  refine aw_XVV (As := [.int x2]) (rest := []) X XT G hl.1 cr_X10_176 (c_X10_requireDesign l XT.1 hz_5) rfl rfl rfl (by decide) hc_3 rfl ⟨Nat.le_of_ble_eq_true rfl, Nat.le_of_ble_eq_true rfl⟩ (Nat.le_of_ble_eq_true rfl) dX10_score_7 ⟨Nat.le_of_ble_eq_true rfl, Nat.le_of_ble_eq_true rfl⟩ hf (Nat.le_of_ble_eq_true rfl) (Nat.le_of_ble_eq_true rfl) (fun H locs G hf => ?_)
  refine lv_aload_n hx hb dX10_score_10 rfl (lv_at hl 0 rfl) ?_
  refine lv_iload_n hx hb dX10_score_11 rfl (lv_at hl 1 rfl) ?_
  refine lv_aload_n hx hb dX10_score_12 rfl (lv_at hl 0 rfl) ?_
  obtain ⟨q_6, hq_7, hf⟩ := aw_bind_some hf
  refine gf_X10_29 hx hb G hown hc_3 hq_7 dX10_score_13 ?_
  refine lv_iload_n hx hb dX10_score_16 rfl (lv_at hl 2 rfl) ?_
  obtain ⟨hc_8, hf⟩ := aw_chk_some hf
  obtain ⟨q_9, hq_10, hf⟩ := aw_bind_some hf
  refine aw_qal hx hb G 26 _ rfl rfl (by decide) hc_8 hq_10 dX10_score_17 ?_
  obtain ⟨z_11, hz_12, hf⟩ := aw_bind_some hf
  refine aw_VI (As := [.int x1, .ref (ad q_9)]) (rest := []) X G hl.1 cr_X10_332 (c_X10_scoreOf l hz_12) ⟨rfl, rfl⟩ rfl rfl rfl (by decide) hc_3 rfl ⟨Nat.le_of_ble_eq_true rfl, Nat.le_of_ble_eq_true rfl⟩ (Nat.le_of_ble_eq_true rfl) dX10_score_18 ⟨Nat.le_of_ble_eq_true rfl, Nat.le_of_ble_eq_true rfl⟩ (fun H locs G => ?_)
  exact aw_xreti X G hf dX10_score_21 (Nat.le_of_ble_eq_true rfl) (Nat.le_of_ble_eq_true rfl)
def rm_X10_shape : Room := { frames := 7, cells := 2, slots := 12, locals := 111 }
def f_X10_shape (σ : Sg) (x0 : Nat) (x1 : Int32) (x2 : Int32) (d : Dt) : Option ((Nat ⊕ Int32) × Dt) :=
  aw_chk (aw_O σ 10 13 x0) ((f_X10_requireSign σ x0 x1 d).bind (fun z_1 => aw_th z_1 (fun _ => (f_X6_isOne σ x2 z_1.2).bind (fun z_4 => if z_4.1 = 0 then some (Sum.inl 2, z_4.2) else (σ.2.2 x0 5).bind (fun q_6 => aw_chk (aw_O σ 6 4 q_6) ((σ.2.2 q_6 1).bind (fun q_9 => aw_chk (aw_I σ 20 q_9 x1) ((f_X6_put σ q_6 x1 x2 z_4.2).bind (fun z_12 => some (Sum.inr (z_4.2.1 q_9 x1.toNatClampNeg), z_12.2))))))))))
section W_X10_shape
variable {p : Program} {l : Launch} {e : Env} {s : State} {m : MethodId} {args : Array Value} {below : List Frame} {meth : Method} {c : Code}
variable {D : va_G} {cA : Nat → ClassId} {base : Nat} {ad : Nat → Nat} {σ : Sg}
end W_X10_shape
set_option maxHeartbeats 4000000 in
set_option maxRecDepth 100000 in
theorem c_X10_shape (l : Launch) (hst : l.stackTraces = false) {σ : Sg} {x0 : Nat} {x1 : Int32} {x2 : Int32} {d : Dt} {z : (Nat ⊕ Int32) × Dt} (hf : f_X10_shape σ x0 x1 x2 d = some z) : aw_Xi l yX10_shape (Cond.code yX10_shape cX10_shape 4 (some .int)) rm_X10_shape (fun ad => [.ref (ad x0), .int x1, .int x2]) σ d z := by
  intro D cA base ad
  refine aw_ofX (own := RX10) (cc := cX10_shape) (nL := 4) (ret := some .int) hst (by decide) rfl rfl ?_
  intro p e s m below meth c X XT G
  have hx := X.1; have hb := X.2.1; have hml := X.2.2.1; have hown := X.2.2.2.1
  refine aw_ls (lv := [(0, .ref (ad x0)), (1, .int x1), (2, .int x2)]) (Nat.le_of_ble_eq_true rfl) rfl (fun ls hl => ?_)
  unfold f_X10_shape at hf
  refine lv_aload_n hx hb dX10_shape_0 rfl (lv_at hl 0 rfl) ?_
  refine lv_iload_n hx hb dX10_shape_1 rfl (lv_at hl 1 rfl) ?_
  obtain ⟨hc_3, hf⟩ := aw_chk_some hf
  obtain ⟨z_1, hz_2, hf⟩ := aw_bind_some hf
  refine aw_XVV (As := [.int x1]) (rest := []) X XT G hl.1 cr_X10_230 (c_X10_requireSign l XT.1 hz_2) rfl rfl rfl (by decide) hc_3 rfl ⟨Nat.le_of_ble_eq_true rfl, Nat.le_of_ble_eq_true rfl⟩ (Nat.le_of_ble_eq_true rfl) dX10_shape_2 ⟨Nat.le_of_ble_eq_true rfl, Nat.le_of_ble_eq_true rfl⟩ hf (Nat.le_of_ble_eq_true rfl) (Nat.le_of_ble_eq_true rfl) (fun H locs G hf => ?_)
  refine lv_iload_n hx hb dX10_shape_5 rfl (lv_at hl 2 rfl) ?_
  obtain ⟨z_4, hz_5, hf⟩ := aw_bind_some hf
  refine aw_SI (As := [.int x2]) (rest := []) X G hl.1 cr_X10_233 (c_X6_isOne l hz_5) ⟨rfl, rfl⟩ rfl rfl rfl ⟨Nat.le_of_ble_eq_true rfl, Nat.le_of_ble_eq_true rfl⟩ (Nat.le_of_ble_eq_true rfl) dX10_shape_6 ⟨Nat.le_of_ble_eq_true rfl, Nat.le_of_ble_eq_true rfl⟩ (fun H locs G => ?_)
  refine lv_if_ne (tgt := 22) hx hb dX10_shape_9 (by decide) (fun hc => ?_) (fun hc => ?_)
  · have hf := aw_ite_f hc hf
    refine lv_aload_n hx hb dX10_shape_22 rfl (lv_at hl 0 rfl) ?_
    obtain ⟨q_6, hq_7, hf⟩ := aw_bind_some hf
    refine gf_X10_40 hx hb G hown hc_3 hq_7 dX10_shape_23 ?_
    obtain ⟨hc_8, hf⟩ := aw_chk_some hf
    obtain ⟨q_9, hq_10, hf⟩ := aw_bind_some hf
    refine gf_X10_238 hx hb G hown hc_8 hq_10 dX10_shape_26 ?_
    refine lv_iload_n hx hb dX10_shape_29 rfl (lv_at hl 1 rfl) ?_
    obtain ⟨hc_11, hf⟩ := aw_chk_some hf
    refine aw_ial hx hb G hc_11 dX10_shape_30 ?_
    refine lv_istore_n (lv' := [(3, .int (z_4.2.1 q_9 x1.toNatClampNeg)), (0, .ref (ad x0)), (1, .int x1), (2, .int x2)]) hx hb dX10_shape_31 rfl hl (by decide) rfl (fun ls hl => ?_)
    refine lv_aload_n hx hb dX10_shape_32 rfl (lv_at hl 1 rfl) ?_
    refine gf_X10_40 hx hb G hown hc_3 hq_7 dX10_shape_33 ?_
    refine lv_iload_n hx hb dX10_shape_36 rfl (lv_at hl 2 rfl) ?_
    refine lv_iload_n hx hb dX10_shape_37 rfl (lv_at hl 3 rfl) ?_
    obtain ⟨z_12, hz_13, hf⟩ := aw_bind_some hf
    refine aw_VV (As := [.int x1, .int x2]) (rest := []) X G hl.1 cr_X10_241 (c_X6_put l hz_13) ⟨rfl, rfl⟩ rfl rfl rfl (by decide) hc_8 rfl ⟨Nat.le_of_ble_eq_true rfl, Nat.le_of_ble_eq_true rfl⟩ (Nat.le_of_ble_eq_true rfl) dX10_shape_38 ⟨Nat.le_of_ble_eq_true rfl, Nat.le_of_ble_eq_true rfl⟩ (fun H locs G => ?_)
    refine lv_iload_n hx hb dX10_shape_41 rfl (lv_at hl 0 rfl) ?_
    exact aw_xreti X G hf dX10_shape_42 (Nat.le_of_ble_eq_true rfl) (Nat.le_of_ble_eq_true rfl)
  · have hf := aw_ite_t hc hf
    exact aw_throw X XT G hl.1 2 hf tw_X10_89_93 "no shape" (by decide +kernel) dX10_shape_12 dX10_shape_15 dX10_shape_16 dX10_shape_18 dX10_shape_21 ⟨Nat.le_of_ble_eq_true rfl, Nat.le_of_ble_eq_true rfl, Nat.le_of_ble_eq_true rfl, Nat.le_of_ble_eq_true rfl⟩ (Nat.le_of_ble_eq_true rfl) (Nat.le_of_ble_eq_true rfl)
def rm_X10_spelled : Room := { frames := 7, cells := 3, slots := 18, locals := 111 }
def f_X10_spelled_J53 (σ : Sg) (t0 : Int32) (d : Dt) : Option ((Nat ⊕ Int32) × Dt) :=
  some (Sum.inr t0, d)
def f_X10_spelled (σ : Sg) (x0 : Nat) (x1 : Int32) (x2 : Int32) (x3 : Int32) (d : Dt) : Option ((Nat ⊕ Int32) × Dt) :=
  aw_chk (aw_O σ 10 13 x0) ((f_X10_requireDesign σ x0 x1 d).bind (fun z_1 => aw_th z_1 (fun _ => (f_X10_requireWord σ x0 x2 z_1.2).bind (fun z_4 => aw_th z_4 (fun _ => (f_X10_requirePlace σ x0 x3 z_4.2).bind (fun z_6 => aw_th z_6 (fun _ => (σ.2.2 x0 3).bind (fun q_8 => aw_chk (aw_I σ 26 q_8 x1) ((σ.2.2 q_8 x1.toNatClampNeg).bind (fun q_11 => (f_X10_spellAll σ x0 q_11 z_6.2).bind (fun z_13 => (σ.2.2 x0 7).bind (fun q_15 => aw_chk (aw_O σ 7 3 q_15) ((σ.2.2 q_15 1).bind (fun q_18 => aw_chk (aw_I σ 20 q_18 x2) (if (z_13.2.1 q_18 x2.toNatClampNeg) ≤ x3 then f_X10_spelled_J53 σ ((-1 : Int32)) z_13.2 else (σ.2.2 q_15 0).bind (fun q_21 => aw_chk (aw_I σ 23 q_21 x2) ((σ.2.2 q_21 x2.toNatClampNeg).bind (fun q_24 => aw_chk (aw_I σ 20 q_24 x3) (f_X10_spelled_J53 σ (z_13.2.1 q_24 x3.toNatClampNeg) z_13.2)))))))))))))))))))
section W_X10_spelled
variable {p : Program} {l : Launch} {e : Env} {s : State} {m : MethodId} {args : Array Value} {below : List Frame} {meth : Method} {c : Code}
variable {D : va_G} {cA : Nat → ClassId} {base : Nat} {ad : Nat → Nat} {σ : Sg}
set_option maxHeartbeats 4000000 in
set_option maxRecDepth 100000 in
theorem w_X10_spelled_J53 {z : (Nat ⊕ Int32) × Dt} (X : aw_X p c cX10_spelled 4 s RX10 m meth (some .int)) (XT : aw_XT l c) {t0 : Int32} {d : Dt} (hf : f_X10_spelled_J53 σ t0 d = some z)  {H : Heap} {locs : List Loc} {ls : Array Slot} (hl : lv_has ls 4 []) (G : aw_G D cA base ad σ d s H locs) : W p l e rm_X10_spelled s m args below meth c H locs 3 18 (aw_Exi D cA base ad σ below args s 3 18 z) (F0 m 53 ls [.int t0]) := by
  have hx := X.1; have hb := X.2.1; have hml := X.2.2.1; have hown := X.2.2.2.1
  unfold f_X10_spelled_J53 at hf
  exact aw_xreti X G hf dX10_spelled_53 (Nat.le_of_ble_eq_true rfl) (Nat.le_of_ble_eq_true rfl)
end W_X10_spelled
set_option maxHeartbeats 4000000 in
set_option maxRecDepth 100000 in
theorem c_X10_spelled (l : Launch) (hst : l.stackTraces = false) {σ : Sg} {x0 : Nat} {x1 : Int32} {x2 : Int32} {x3 : Int32} {d : Dt} {z : (Nat ⊕ Int32) × Dt} (hf : f_X10_spelled σ x0 x1 x2 x3 d = some z) : aw_Xi l yX10_spelled (Cond.code yX10_spelled cX10_spelled 4 (some .int)) rm_X10_spelled (fun ad => [.ref (ad x0), .int x1, .int x2, .int x3]) σ d z := by
  intro D cA base ad
  refine aw_ofX (own := RX10) (cc := cX10_spelled) (nL := 4) (ret := some .int) hst (by decide) rfl rfl ?_
  intro p e s m below meth c X XT G
  have hx := X.1; have hb := X.2.1; have hml := X.2.2.1; have hown := X.2.2.2.1
  refine aw_ls (lv := [(0, .ref (ad x0)), (1, .int x1), (2, .int x2), (3, .int x3)]) (Nat.le_of_ble_eq_true rfl) rfl (fun ls hl => ?_)
  unfold f_X10_spelled at hf
  refine lv_aload_n hx hb dX10_spelled_0 rfl (lv_at hl 0 rfl) ?_
  refine lv_iload_n hx hb dX10_spelled_1 rfl (lv_at hl 1 rfl) ?_
  obtain ⟨hc_3, hf⟩ := aw_chk_some hf
  obtain ⟨z_1, hz_2, hf⟩ := aw_bind_some hf
  refine aw_XVV (As := [.int x1]) (rest := []) X XT G hl.1 cr_X10_176 (c_X10_requireDesign l XT.1 hz_2) rfl rfl rfl (by decide) hc_3 rfl ⟨Nat.le_of_ble_eq_true rfl, Nat.le_of_ble_eq_true rfl⟩ (Nat.le_of_ble_eq_true rfl) dX10_spelled_2 ⟨Nat.le_of_ble_eq_true rfl, Nat.le_of_ble_eq_true rfl⟩ hf (Nat.le_of_ble_eq_true rfl) (Nat.le_of_ble_eq_true rfl) (fun H locs G hf => ?_)
  refine lv_aload_n hx hb dX10_spelled_5 rfl (lv_at hl 0 rfl) ?_
  refine lv_iload_n hx hb dX10_spelled_6 rfl (lv_at hl 2 rfl) ?_
  obtain ⟨z_4, hz_5, hf⟩ := aw_bind_some hf
  refine aw_XVV (As := [.int x2]) (rest := []) X XT G hl.1 cr_X10_150 (c_X10_requireWord l XT.1 hz_5) rfl rfl rfl (by decide) hc_3 rfl ⟨Nat.le_of_ble_eq_true rfl, Nat.le_of_ble_eq_true rfl⟩ (Nat.le_of_ble_eq_true rfl) dX10_spelled_7 ⟨Nat.le_of_ble_eq_true rfl, Nat.le_of_ble_eq_true rfl⟩ hf (Nat.le_of_ble_eq_true rfl) (Nat.le_of_ble_eq_true rfl) (fun H locs G hf => ?_)
  refine lv_aload_n hx hb dX10_spelled_10 rfl (lv_at hl 0 rfl) ?_
  refine lv_iload_n hx hb dX10_spelled_11 rfl (lv_at hl 3 rfl) ?_
  obtain ⟨z_6, hz_7, hf⟩ := aw_bind_some hf
  refine aw_XVV (As := [.int x3]) (rest := []) X XT G hl.1 cr_X10_153 (c_X10_requirePlace l XT.1 hz_7) rfl rfl rfl (by decide) hc_3 rfl ⟨Nat.le_of_ble_eq_true rfl, Nat.le_of_ble_eq_true rfl⟩ (Nat.le_of_ble_eq_true rfl) dX10_spelled_12 ⟨Nat.le_of_ble_eq_true rfl, Nat.le_of_ble_eq_true rfl⟩ hf (Nat.le_of_ble_eq_true rfl) (Nat.le_of_ble_eq_true rfl) (fun H locs G hf => ?_)
  refine lv_aload_n hx hb dX10_spelled_15 rfl (lv_at hl 0 rfl) ?_
  refine lv_aload_n hx hb dX10_spelled_16 rfl (lv_at hl 0 rfl) ?_
  obtain ⟨q_8, hq_9, hf⟩ := aw_bind_some hf
  refine gf_X10_29 hx hb G hown hc_3 hq_9 dX10_spelled_17 ?_
  refine lv_iload_n hx hb dX10_spelled_20 rfl (lv_at hl 1 rfl) ?_
  obtain ⟨hc_10, hf⟩ := aw_chk_some hf
  obtain ⟨q_11, hq_12, hf⟩ := aw_bind_some hf
  refine aw_qal hx hb G 26 _ rfl rfl (by decide) hc_10 hq_12 dX10_spelled_21 ?_
  obtain ⟨z_13, hz_14, hf⟩ := aw_bind_some hf
  refine aw_VV (As := [.ref (ad q_11)]) (rest := []) X G hl.1 cr_X10_203 (c_X10_spellAll l hz_14) ⟨rfl, rfl⟩ rfl rfl rfl (by decide) hc_3 rfl ⟨Nat.le_of_ble_eq_true rfl, Nat.le_of_ble_eq_true rfl⟩ (Nat.le_of_ble_eq_true rfl) dX10_spelled_22 ⟨Nat.le_of_ble_eq_true rfl, Nat.le_of_ble_eq_true rfl⟩ (fun H locs G => ?_)
  refine lv_iload_n hx hb dX10_spelled_25 rfl (lv_at hl 3 rfl) ?_
  refine lv_aload_n hx hb dX10_spelled_26 rfl (lv_at hl 0 rfl) ?_
  obtain ⟨q_15, hq_16, hf⟩ := aw_bind_some hf
  refine gf_X10_54 hx hb G hown hc_3 hq_16 dX10_spelled_27 ?_
  obtain ⟨hc_17, hf⟩ := aw_chk_some hf
  obtain ⟨q_18, hq_19, hf⟩ := aw_bind_some hf
  refine gf_X10_207 hx hb G hown hc_17 hq_19 dX10_spelled_30 ?_
  refine lv_iload_n hx hb dX10_spelled_33 rfl (lv_at hl 2 rfl) ?_
  obtain ⟨hc_20, hf⟩ := aw_chk_some hf
  refine aw_ial hx hb G hc_20 dX10_spelled_34 ?_
  refine lv_icmp_ge (tgt := 52) hx hb dX10_spelled_35 (by decide) (fun hc => ?_) (fun hc => ?_)
  · have hf := aw_ite_t hc hf
    refine lv_iconst (v := (-1 : Int32)) hx hb dX10_spelled_52 (by decide) ?_
    refine W.widen (k := 3) (n := 18) (Nat.le_of_ble_eq_true rfl) (Nat.le_of_ble_eq_true rfl) ?_
    exact w_X10_spelled_J53 X XT hf  (lv_sub hl [] rfl) G
  · have hf := aw_ite_f hc hf
    refine lv_aload_n hx hb dX10_spelled_38 rfl (lv_at hl 0 rfl) ?_
    refine gf_X10_54 hx hb G hown hc_3 hq_16 dX10_spelled_39 ?_
    obtain ⟨q_21, hq_22, hf⟩ := aw_bind_some hf
    refine gf_X10_208 hx hb G hown hc_17 hq_22 dX10_spelled_42 ?_
    refine lv_iload_n hx hb dX10_spelled_45 rfl (lv_at hl 2 rfl) ?_
    obtain ⟨hc_23, hf⟩ := aw_chk_some hf
    obtain ⟨q_24, hq_25, hf⟩ := aw_bind_some hf
    refine aw_qal hx hb G 23 _ rfl rfl (by decide) hc_23 hq_25 dX10_spelled_46 ?_
    refine lv_iload_n hx hb dX10_spelled_47 rfl (lv_at hl 3 rfl) ?_
    obtain ⟨hc_26, hf⟩ := aw_chk_some hf
    refine aw_ial hx hb G hc_26 dX10_spelled_48 ?_
    refine lv_goto (tgt := 53) hx hb dX10_spelled_49 (by decide) ?_
    refine W.widen (k := 3) (n := 18) (Nat.le_of_ble_eq_true rfl) (Nat.le_of_ble_eq_true rfl) ?_
    exact w_X10_spelled_J53 X XT hf  (lv_sub hl [] rfl) G
def rm_X10_spoken : Room := { frames := 7, cells := 3, slots := 18, locals := 111 }
def f_X10_spoken_J51 (σ : Sg) (t0 : Int32) (d : Dt) : Option ((Nat ⊕ Int32) × Dt) :=
  some (Sum.inr t0, d)
def f_X10_spoken_J10 (σ : Sg) (x0 : Nat) (x1 : Int32) (x2 : Int32) (x3 : Int32) (d : Dt) : Option ((Nat ⊕ Int32) × Dt) :=
  aw_chk (aw_O σ 10 13 x0) ((f_X10_requireWord σ x0 x2 d).bind (fun z_1 => aw_th z_1 (fun _ => (f_X10_requirePlace σ x0 x3 z_1.2).bind (fun z_4 => aw_th z_4 (fun _ => (f_X10_speaker σ x0 x1 z_4.2).bind (fun z_6 => aw_chk (aw_O σ 2 8 z_6.1) ((σ.2.2 z_6.1 6).bind (fun q_9 => aw_chk (aw_I σ 20 q_9 x2) (if (z_6.2.1 q_9 x2.toNatClampNeg) ≤ x3 then f_X10_spoken_J51 σ ((-1 : Int32)) z_6.2 else (σ.2.2 z_6.1 5).bind (fun q_12 => aw_chk (aw_I σ 23 q_12 x2) ((σ.2.2 q_12 x2.toNatClampNeg).bind (fun q_15 => aw_chk (aw_I σ 20 q_15 x3) (f_X10_spoken_J51 σ (z_6.2.1 q_15 x3.toNatClampNeg) z_6.2)))))))))))))
def f_X10_spoken (σ : Sg) (x0 : Nat) (x1 : Int32) (x2 : Int32) (x3 : Int32) (d : Dt) : Option ((Nat ⊕ Int32) × Dt) :=
  if x1 = ((-1 : Int32)) then f_X10_spoken_J10 σ x0 x1 x2 x3 d else aw_chk (aw_O σ 10 13 x0) ((f_X10_requireDialect σ x0 x1 d).bind (fun z_18 => aw_th z_18 (fun _ => f_X10_spoken_J10 σ x0 x1 x2 x3 z_18.2)))
section W_X10_spoken
variable {p : Program} {l : Launch} {e : Env} {s : State} {m : MethodId} {args : Array Value} {below : List Frame} {meth : Method} {c : Code}
variable {D : va_G} {cA : Nat → ClassId} {base : Nat} {ad : Nat → Nat} {σ : Sg}
set_option maxHeartbeats 4000000 in
set_option maxRecDepth 100000 in
theorem w_X10_spoken_J51 {z : (Nat ⊕ Int32) × Dt} (X : aw_X p c cX10_spoken 5 s RX10 m meth (some .int)) (XT : aw_XT l c) {t0 : Int32} {d : Dt} (hf : f_X10_spoken_J51 σ t0 d = some z)  {H : Heap} {locs : List Loc} {ls : Array Slot} (hl : lv_has ls 5 []) (G : aw_G D cA base ad σ d s H locs) : W p l e rm_X10_spoken s m args below meth c H locs 3 18 (aw_Exi D cA base ad σ below args s 3 18 z) (F0 m 51 ls [.int t0]) := by
  have hx := X.1; have hb := X.2.1; have hml := X.2.2.1; have hown := X.2.2.2.1
  unfold f_X10_spoken_J51 at hf
  exact aw_xreti X G hf dX10_spoken_51 (Nat.le_of_ble_eq_true rfl) (Nat.le_of_ble_eq_true rfl)
set_option maxHeartbeats 4000000 in
set_option maxRecDepth 100000 in
theorem w_X10_spoken_J10 {z : (Nat ⊕ Int32) × Dt} (X : aw_X p c cX10_spoken 5 s RX10 m meth (some .int)) (XT : aw_XT l c) {x0 : Nat} {x1 : Int32} {x2 : Int32} {x3 : Int32} {d : Dt} (hf : f_X10_spoken_J10 σ x0 x1 x2 x3 d = some z)  {H : Heap} {locs : List Loc} {ls : Array Slot} (hl : lv_has ls 5 [(0, .ref (ad x0)), (1, .int x1), (2, .int x2), (3, .int x3)]) (G : aw_G D cA base ad σ d s H locs) : W p l e rm_X10_spoken s m args below meth c H locs 1 6 (aw_Exi D cA base ad σ below args s 3 18 z) (F0 m 10 ls []) := by
  have hx := X.1; have hb := X.2.1; have hml := X.2.2.1; have hown := X.2.2.2.1
  unfold f_X10_spoken_J10 at hf
  refine lv_aload_n hx hb dX10_spoken_10 rfl (lv_at hl 0 rfl) ?_
  refine lv_iload_n hx hb dX10_spoken_11 rfl (lv_at hl 2 rfl) ?_
  obtain ⟨hc_3, hf⟩ := aw_chk_some hf
  obtain ⟨z_1, hz_2, hf⟩ := aw_bind_some hf
  refine aw_XVV (As := [.int x2]) (rest := []) X XT G hl.1 cr_X10_150 (c_X10_requireWord l XT.1 hz_2) rfl rfl rfl (by decide) hc_3 rfl ⟨Nat.le_of_ble_eq_true rfl, Nat.le_of_ble_eq_true rfl⟩ (Nat.le_of_ble_eq_true rfl) dX10_spoken_12 ⟨Nat.le_of_ble_eq_true rfl, Nat.le_of_ble_eq_true rfl⟩ hf (Nat.le_of_ble_eq_true rfl) (Nat.le_of_ble_eq_true rfl) (fun H locs G hf => ?_)
  refine lv_aload_n hx hb dX10_spoken_15 rfl (lv_at hl 0 rfl) ?_
  refine lv_iload_n hx hb dX10_spoken_16 rfl (lv_at hl 3 rfl) ?_
  obtain ⟨z_4, hz_5, hf⟩ := aw_bind_some hf
  refine aw_XVV (As := [.int x3]) (rest := []) X XT G hl.1 cr_X10_153 (c_X10_requirePlace l XT.1 hz_5) rfl rfl rfl (by decide) hc_3 rfl ⟨Nat.le_of_ble_eq_true rfl, Nat.le_of_ble_eq_true rfl⟩ (Nat.le_of_ble_eq_true rfl) dX10_spoken_17 ⟨Nat.le_of_ble_eq_true rfl, Nat.le_of_ble_eq_true rfl⟩ hf (Nat.le_of_ble_eq_true rfl) (Nat.le_of_ble_eq_true rfl) (fun H locs G hf => ?_)
  refine lv_aload_n hx hb dX10_spoken_20 rfl (lv_at hl 0 rfl) ?_
  refine lv_iload_n hx hb dX10_spoken_21 rfl (lv_at hl 1 rfl) ?_
  obtain ⟨z_6, hz_7, hf⟩ := aw_bind_some hf
  refine aw_VR (As := [.int x1]) (rest := []) X G hl.1 cr_X10_156 (c_X10_speaker l hz_7) ⟨rfl, rfl⟩ rfl rfl rfl (by decide) hc_3 rfl ⟨Nat.le_of_ble_eq_true rfl, Nat.le_of_ble_eq_true rfl⟩ (Nat.le_of_ble_eq_true rfl) dX10_spoken_22 ⟨Nat.le_of_ble_eq_true rfl, Nat.le_of_ble_eq_true rfl⟩ (fun H locs G => ?_)
  refine lv_astore (lv' := [(4, .ref (ad z_6.1)), (0, .ref (ad x0)), (1, .int x1), (2, .int x2), (3, .int x3)]) hx hb dX10_spoken_25 hl (by decide) rfl (fun ls hl => ?_)
  refine lv_iload_n hx hb dX10_spoken_27 rfl (lv_at hl 4 rfl) ?_
  refine lv_aload hx hb dX10_spoken_28 (lv_at hl 0 rfl) ?_
  obtain ⟨hc_8, hf⟩ := aw_chk_some hf
  obtain ⟨q_9, hq_10, hf⟩ := aw_bind_some hf
  refine gf_X10_160 hx hb G hown hc_8 hq_10 dX10_spoken_30 ?_
  refine lv_iload_n hx hb dX10_spoken_33 rfl (lv_at hl 3 rfl) ?_
  obtain ⟨hc_11, hf⟩ := aw_chk_some hf
  refine aw_ial hx hb G hc_11 dX10_spoken_34 ?_
  refine lv_icmp_ge (tgt := 50) hx hb dX10_spoken_35 (by decide) (fun hc => ?_) (fun hc => ?_)
  · have hf := aw_ite_t hc hf
    refine lv_iconst (v := (-1 : Int32)) hx hb dX10_spoken_50 (by decide) ?_
    refine W.widen (k := 3) (n := 18) (Nat.le_of_ble_eq_true rfl) (Nat.le_of_ble_eq_true rfl) ?_
    exact w_X10_spoken_J51 X XT hf  (lv_sub hl [] rfl) G
  · have hf := aw_ite_f hc hf
    refine lv_aload hx hb dX10_spoken_38 (lv_at hl 0 rfl) ?_
    obtain ⟨q_12, hq_13, hf⟩ := aw_bind_some hf
    refine gf_X10_163 hx hb G hown hc_8 hq_13 dX10_spoken_40 ?_
    refine lv_iload_n hx hb dX10_spoken_43 rfl (lv_at hl 3 rfl) ?_
    obtain ⟨hc_14, hf⟩ := aw_chk_some hf
    obtain ⟨q_15, hq_16, hf⟩ := aw_bind_some hf
    refine aw_qal hx hb G 23 _ rfl rfl (by decide) hc_14 hq_16 dX10_spoken_44 ?_
    refine lv_iload_n hx hb dX10_spoken_45 rfl (lv_at hl 4 rfl) ?_
    obtain ⟨hc_17, hf⟩ := aw_chk_some hf
    refine aw_ial hx hb G hc_17 dX10_spoken_46 ?_
    refine lv_goto (tgt := 51) hx hb dX10_spoken_47 (by decide) ?_
    refine W.widen (k := 3) (n := 18) (Nat.le_of_ble_eq_true rfl) (Nat.le_of_ble_eq_true rfl) ?_
    exact w_X10_spoken_J51 X XT hf  (lv_sub hl [] rfl) G
end W_X10_spoken
set_option maxHeartbeats 4000000 in
set_option maxRecDepth 100000 in
theorem c_X10_spoken (l : Launch) (hst : l.stackTraces = false) {σ : Sg} {x0 : Nat} {x1 : Int32} {x2 : Int32} {x3 : Int32} {d : Dt} {z : (Nat ⊕ Int32) × Dt} (hf : f_X10_spoken σ x0 x1 x2 x3 d = some z) : aw_Xi l yX10_spoken (Cond.code yX10_spoken cX10_spoken 5 (some .int)) rm_X10_spoken (fun ad => [.ref (ad x0), .int x1, .int x2, .int x3]) σ d z := by
  intro D cA base ad
  refine aw_ofX (own := RX10) (cc := cX10_spoken) (nL := 5) (ret := some .int) hst (by decide) rfl rfl ?_
  intro p e s m below meth c X XT G
  have hx := X.1; have hb := X.2.1; have hml := X.2.2.1; have hown := X.2.2.2.1
  refine aw_ls (lv := [(0, .ref (ad x0)), (1, .int x1), (2, .int x2), (3, .int x3)]) (Nat.le_of_ble_eq_true rfl) rfl (fun ls hl => ?_)
  unfold f_X10_spoken at hf
  refine lv_iload_n hx hb dX10_spoken_0 rfl (lv_at hl 1 rfl) ?_
  refine lv_iconst (v := (-1 : Int32)) hx hb dX10_spoken_1 (by decide) ?_
  refine lv_icmp_eq (tgt := 10) hx hb dX10_spoken_2 (by decide) (fun hc => ?_) (fun hc => ?_)
  · have hf := aw_ite_t hc hf
    refine W.widen (k := 1) (n := 6) (Nat.le_of_ble_eq_true rfl) (Nat.le_of_ble_eq_true rfl) ?_
    exact w_X10_spoken_J10 X XT hf  (lv_sub hl [0, 1, 2, 3] rfl) G
  · have hf := aw_ite_f hc hf
    refine lv_aload_n hx hb dX10_spoken_5 rfl (lv_at hl 0 rfl) ?_
    refine lv_iload_n hx hb dX10_spoken_6 rfl (lv_at hl 1 rfl) ?_
    obtain ⟨hc_20, hf⟩ := aw_chk_some hf
    obtain ⟨z_18, hz_19, hf⟩ := aw_bind_some hf
    refine aw_XVV (As := [.int x1]) (rest := []) X XT G hl.1 cr_X10_128 (c_X10_requireDialect l XT.1 hz_19) rfl rfl rfl (by decide) hc_20 rfl ⟨Nat.le_of_ble_eq_true rfl, Nat.le_of_ble_eq_true rfl⟩ (Nat.le_of_ble_eq_true rfl) dX10_spoken_7 ⟨Nat.le_of_ble_eq_true rfl, Nat.le_of_ble_eq_true rfl⟩ hf (Nat.le_of_ble_eq_true rfl) (Nat.le_of_ble_eq_true rfl) (fun H locs G hf => ?_)
    refine W.widen (k := 1) (n := 6) (Nat.le_of_ble_eq_true rfl) (Nat.le_of_ble_eq_true rfl) ?_
    exact w_X10_spoken_J10 X XT hf  (lv_sub hl [0, 1, 2, 3] rfl) G
def rm_X10_syllable : Room := { frames := 6, cells := 1, slots := 6, locals := 90 }
def f_X10_syllable_J11 (σ : Sg)  (d : Dt) : Option ((Nat ⊕ Int32) × Dt) :=
  some (Sum.inl 2, d)
def f_X10_syllable (σ : Sg) (x0 : Nat) (x1 : Int32) (d : Dt) : Option ((Nat ⊕ Int32) × Dt) :=
  if x1 < 0 then f_X10_syllable_J11 σ d else if x1 < ((972 : Int32)) then aw_chk (aw_O σ 10 13 x0) ((σ.2.2 x0 0).bind (fun q_2 => aw_chk (aw_O σ 9 4 q_2) (if (d.1 q_2 1) < ((4 : Int32)) then (f_X9_append σ q_2 x1 d).bind (fun z_5 => some (Sum.inr z_5.1, z_5.2)) else some (Sum.inl 3, d)))) else f_X10_syllable_J11 σ d
section W_X10_syllable
variable {p : Program} {l : Launch} {e : Env} {s : State} {m : MethodId} {args : Array Value} {below : List Frame} {meth : Method} {c : Code}
variable {D : va_G} {cA : Nat → ClassId} {base : Nat} {ad : Nat → Nat} {σ : Sg}
set_option maxHeartbeats 4000000 in
set_option maxRecDepth 100000 in
theorem w_X10_syllable_J11 {z : (Nat ⊕ Int32) × Dt} (X : aw_X p c cX10_syllable 2 s RX10 m meth (some .int)) (XT : aw_XT l c)  {d : Dt} (hf : f_X10_syllable_J11 σ d = some z)  {H : Heap} {locs : List Loc} {ls : Array Slot} (hl : lv_has ls 2 []) (G : aw_G D cA base ad σ d s H locs) : W p l e rm_X10_syllable s m args below meth c H locs 0 0 (aw_Exi D cA base ad σ below args s 1 6 z) (F0 m 11 ls []) := by
  have hx := X.1; have hb := X.2.1; have hml := X.2.2.1; have hown := X.2.2.2.1
  unfold f_X10_syllable_J11 at hf
  exact aw_throw X XT G hl.1 2 hf tw_X10_89_93 "code is out of range" (by decide +kernel) dX10_syllable_11 dX10_syllable_14 dX10_syllable_15 dX10_syllable_17 dX10_syllable_20 ⟨Nat.le_of_ble_eq_true rfl, Nat.le_of_ble_eq_true rfl, Nat.le_of_ble_eq_true rfl, Nat.le_of_ble_eq_true rfl⟩ (Nat.le_of_ble_eq_true rfl) (Nat.le_of_ble_eq_true rfl)
end W_X10_syllable
set_option maxHeartbeats 4000000 in
set_option maxRecDepth 100000 in
theorem c_X10_syllable (l : Launch) (hst : l.stackTraces = false) {σ : Sg} {x0 : Nat} {x1 : Int32} {d : Dt} {z : (Nat ⊕ Int32) × Dt} (hf : f_X10_syllable σ x0 x1 d = some z) : aw_Xi l yX10_syllable (Cond.code yX10_syllable cX10_syllable 2 (some .int)) rm_X10_syllable (fun ad => [.ref (ad x0), .int x1]) σ d z := by
  intro D cA base ad
  refine aw_ofX (own := RX10) (cc := cX10_syllable) (nL := 2) (ret := some .int) hst (by decide) rfl rfl ?_
  intro p e s m below meth c X XT G
  have hx := X.1; have hb := X.2.1; have hml := X.2.2.1; have hown := X.2.2.2.1
  refine aw_ls (lv := [(0, .ref (ad x0)), (1, .int x1)]) (Nat.le_of_ble_eq_true rfl) rfl (fun ls hl => ?_)
  unfold f_X10_syllable at hf
  refine lv_iload_n hx hb dX10_syllable_0 rfl (lv_at hl 1 rfl) ?_
  refine lv_if_lt (tgt := 11) hx hb dX10_syllable_1 (by decide) (fun hc => ?_) (fun hc => ?_)
  · have hf := aw_ite_t hc hf
    exact w_X10_syllable_J11 X XT hf  (lv_sub hl [] rfl) G
  · have hf := aw_ite_f hc hf
    refine lv_iload_n hx hb dX10_syllable_4 rfl (lv_at hl 1 rfl) ?_
    refine lv_sipush (v := (972 : Int32)) hx hb dX10_syllable_5 (by decide) ?_
    refine lv_icmp_lt (tgt := 21) hx hb dX10_syllable_8 (by decide) (fun hc => ?_) (fun hc => ?_)
    · have hf := aw_ite_t hc hf
      refine lv_aload_n hx hb dX10_syllable_21 rfl (lv_at hl 0 rfl) ?_
      obtain ⟨hc_1, hf⟩ := aw_chk_some hf
      obtain ⟨q_2, hq_3, hf⟩ := aw_bind_some hf
      refine gf_X10_12 hx hb G hown hc_1 hq_3 dX10_syllable_22 ?_
      obtain ⟨hc_4, hf⟩ := aw_chk_some hf
      refine gf_X10_96 hx hb G hown hc_4 dX10_syllable_25 ?_
      refine lv_iconst (v := (4 : Int32)) hx hb dX10_syllable_28 (by decide) ?_
      refine lv_icmp_lt (tgt := 42) hx hb dX10_syllable_29 (by decide) (fun hc => ?_) (fun hc => ?_)
      · have hf := aw_ite_t hc hf
        refine lv_aload_n hx hb dX10_syllable_42 rfl (lv_at hl 0 rfl) ?_
        refine gf_X10_12 hx hb G hown hc_1 hq_3 dX10_syllable_43 ?_
        refine lv_iload_n hx hb dX10_syllable_46 rfl (lv_at hl 1 rfl) ?_
        obtain ⟨z_5, hz_6, hf⟩ := aw_bind_some hf
        refine aw_VI (As := [.int x1]) (rest := []) X G hl.1 cr_X10_104 (c_X9_append l hz_6) ⟨rfl, rfl⟩ rfl rfl rfl (by decide) hc_4 rfl ⟨Nat.le_of_ble_eq_true rfl, Nat.le_of_ble_eq_true rfl⟩ (Nat.le_of_ble_eq_true rfl) dX10_syllable_47 ⟨Nat.le_of_ble_eq_true rfl, Nat.le_of_ble_eq_true rfl⟩ (fun H locs G => ?_)
        exact aw_xreti X G hf dX10_syllable_50 (Nat.le_of_ble_eq_true rfl) (Nat.le_of_ble_eq_true rfl)
      · have hf := aw_ite_f hc hf
        exact aw_throw X XT G hl.1 3 hf tw_X10_99_103 "the draft has 4 syllables" (by decide +kernel) dX10_syllable_32 dX10_syllable_35 dX10_syllable_36 dX10_syllable_38 dX10_syllable_41 ⟨Nat.le_of_ble_eq_true rfl, Nat.le_of_ble_eq_true rfl, Nat.le_of_ble_eq_true rfl, Nat.le_of_ble_eq_true rfl⟩ (Nat.le_of_ble_eq_true rfl) (Nat.le_of_ble_eq_true rfl)
    · have hf := aw_ite_f hc hf
      exact w_X10_syllable_J11 X XT hf  (lv_sub hl [] rfl) G
def rm_X10_travel : Room := { frames := 7, cells := 1, slots := 6, locals := 111 }
def f_X10_travel_B19 (σ : Sg) (kb19 : Int32 → Int32 → Dt → Option ((Nat ⊕ Int32) × Dt)) (k19 : Int32 → Dt → Option ((Nat ⊕ Int32) × Dt)) (x0 : Nat) (x1 : Int32) (x2 : Int32) (x3 : Int32) (d : Dt) : Option ((Nat ⊕ Int32) × Dt) :=
  aw_chk (aw_O σ 10 13 x0) ((σ.2.2 x0 0).bind (fun q_12 => aw_chk (aw_O σ 9 4 q_12) (if (d.1 q_12 3) ≤ x3 then k19 x2 d else (σ.2.2 x0 3).bind (fun q_15 => aw_chk (aw_I σ 26 q_15 x1) ((σ.2.2 q_15 x1.toNatClampNeg).bind (fun q_18 => (σ.2.2 x0 7).bind (fun q_20 => aw_chk (aw_O σ 7 3 q_20) ((σ.2.2 q_20 0).bind (fun q_23 => aw_chk (aw_I σ 23 q_23 x3) ((σ.2.2 q_23 x3.toNatClampNeg).bind (fun q_26 => (σ.2.2 q_20 1).bind (fun q_28 => aw_chk (aw_I σ 20 q_28 x3) (aw_chk (aw_O σ 1 5 q_18) ((f_X1_keysGone σ q_18 q_26 (d.1 q_28 x3.toNatClampNeg) d).bind (fun z_31 => (σ.2.2 q_12 2).bind (fun q_34 => aw_chk (aw_I σ 20 q_34 x3) (kb19 (x2 + ((z_31.2.1 q_34 x3.toNatClampNeg) * z_31.1)) (x3 + 1) z_31.2)))))))))))))))))
def f_X10_travel_L19 (σ : Sg) (n : Nat) (k19 : Int32 → Dt → Option ((Nat ⊕ Int32) × Dt)) (x0 : Nat) (x1 : Int32) : Int32 → Int32 → Dt → Option ((Nat ⊕ Int32) × Dt) := match n with
  | 0 => fun _ _ _ => none
  | n + 1 => fun x2 x3 d => f_X10_travel_B19 σ (f_X10_travel_L19 σ n k19 x0 x1) k19 x0 x1 x2 x3 d
def f_X10_travel (σ : Sg) (x0 : Nat) (x1 : Int32) (d : Dt) : Option ((Nat ⊕ Int32) × Dt) :=
  aw_chk (aw_O σ 10 13 x0) ((f_X10_requireDesign σ x0 x1 d).bind (fun z_1 => aw_th z_1 (fun _ => (σ.2.2 x0 3).bind (fun q_4 => aw_chk (aw_I σ 26 q_4 x1) ((σ.2.2 q_4 x1.toNatClampNeg).bind (fun q_7 => (f_X10_spellAll σ x0 q_7 z_1.2).bind (fun z_9 => f_X10_travel_L19 σ aw_FU (fun x2_37 d_38 => some (Sum.inr x2_37, d_38)) x0 x1 ((0 : Int32)) ((0 : Int32)) z_9.2)))))))
section W_X10_travel
variable {p : Program} {l : Launch} {e : Env} {s : State} {m : MethodId} {args : Array Value} {below : List Frame} {meth : Method} {c : Code}
variable {D : va_G} {cA : Nat → ClassId} {base : Nat} {ad : Nat → Nat} {σ : Sg}
set_option maxHeartbeats 4000000 in
set_option maxRecDepth 100000 in
theorem w_X10_travel_B19 {z : (Nat ⊕ Int32) × Dt} (X : aw_X p c cX10_travel 5 s RX10 m meth (some .int)) (XT : aw_XT l c) {kb19 : Int32 → Int32 → Dt → Option ((Nat ⊕ Int32) × Dt)} {k19 : Int32 → Dt → Option ((Nat ⊕ Int32) × Dt)} {x0 : Nat} {x1 : Int32} {x2 : Int32} {x3 : Int32} {d : Dt} (hf : f_X10_travel_B19 σ kb19 k19 x0 x1 x2 x3 d = some z) (hkb19 : ∀ (y2 : Int32) (y3 : Int32) (d : Dt), kb19 y2 y3 d = some z → ∀ (H : Heap) (locs : List Loc) (ls : Array Slot), lv_has ls 5 [(0, .ref (ad x0)), (1, .int x1), (2, .int y2), (3, .int y3)] → aw_G D cA base ad σ d s H locs → W p l e rm_X10_travel s m args below meth c H locs 1 6 (aw_Exi D cA base ad σ below args s 1 6 z) (F0 m 19 ls [])) (hk19 : ∀ (y2 : Int32) (d : Dt), k19 y2 d = some z → ∀ (H : Heap) (locs : List Loc) (ls : Array Slot), lv_has ls 5 [(2, .int y2)] → aw_G D cA base ad σ d s H locs → W p l e rm_X10_travel s m args below meth c H locs 1 6 (aw_Exi D cA base ad σ below args s 1 6 z) (F0 m 80 ls [])) {H : Heap} {locs : List Loc} {ls : Array Slot} (hl : lv_has ls 5 [(0, .ref (ad x0)), (1, .int x1), (2, .int x2), (3, .int x3)]) (G : aw_G D cA base ad σ d s H locs) : W p l e rm_X10_travel s m args below meth c H locs 1 6 (aw_Exi D cA base ad σ below args s 1 6 z) (F0 m 19 ls []) := by
  have hx := X.1; have hb := X.2.1; have hml := X.2.2.1; have hown := X.2.2.2.1
  unfold f_X10_travel_B19 at hf
  refine lv_iload_n hx hb dX10_travel_19 rfl (lv_at hl 3 rfl) ?_
  refine lv_aload_n hx hb dX10_travel_20 rfl (lv_at hl 0 rfl) ?_
  obtain ⟨hc_11, hf⟩ := aw_chk_some hf
  obtain ⟨q_12, hq_13, hf⟩ := aw_bind_some hf
  refine gf_X10_12 hx hb G hown hc_11 hq_13 dX10_travel_21 ?_
  obtain ⟨hc_14, hf⟩ := aw_chk_some hf
  refine gf_X10_112 hx hb G hown hc_14 dX10_travel_24 ?_
  refine lv_icmp_ge (tgt := 80) hx hb dX10_travel_27 (by decide) (fun hc => ?_) (fun hc => ?_)
  · have hf := aw_ite_t hc hf
    refine W.widen (k := 1) (n := 6) (Nat.le_of_ble_eq_true rfl) (Nat.le_of_ble_eq_true rfl) ?_
    exact hk19 _ _ hf _ _ _ (lv_sub hl [2] rfl) G
  · have hf := aw_ite_f hc hf
    refine lv_aload_n hx hb dX10_travel_30 rfl (lv_at hl 0 rfl) ?_
    obtain ⟨q_15, hq_16, hf⟩ := aw_bind_some hf
    refine gf_X10_29 hx hb G hown hc_11 hq_16 dX10_travel_31 ?_
    refine lv_iload_n hx hb dX10_travel_34 rfl (lv_at hl 1 rfl) ?_
    obtain ⟨hc_17, hf⟩ := aw_chk_some hf
    obtain ⟨q_18, hq_19, hf⟩ := aw_bind_some hf
    refine aw_qal hx hb G 26 _ rfl rfl (by decide) hc_17 hq_19 dX10_travel_35 ?_
    refine lv_aload_n hx hb dX10_travel_36 rfl (lv_at hl 0 rfl) ?_
    obtain ⟨q_20, hq_21, hf⟩ := aw_bind_some hf
    refine gf_X10_54 hx hb G hown hc_11 hq_21 dX10_travel_37 ?_
    obtain ⟨hc_22, hf⟩ := aw_chk_some hf
    obtain ⟨q_23, hq_24, hf⟩ := aw_bind_some hf
    refine gf_X10_208 hx hb G hown hc_22 hq_24 dX10_travel_40 ?_
    refine lv_iload_n hx hb dX10_travel_43 rfl (lv_at hl 3 rfl) ?_
    obtain ⟨hc_25, hf⟩ := aw_chk_some hf
    obtain ⟨q_26, hq_27, hf⟩ := aw_bind_some hf
    refine aw_qal hx hb G 23 _ rfl rfl (by decide) hc_25 hq_27 dX10_travel_44 ?_
    refine lv_aload_n hx hb dX10_travel_45 rfl (lv_at hl 0 rfl) ?_
    refine gf_X10_54 hx hb G hown hc_11 hq_21 dX10_travel_46 ?_
    obtain ⟨q_28, hq_29, hf⟩ := aw_bind_some hf
    refine gf_X10_207 hx hb G hown hc_22 hq_29 dX10_travel_49 ?_
    refine lv_iload_n hx hb dX10_travel_52 rfl (lv_at hl 3 rfl) ?_
    obtain ⟨hc_30, hf⟩ := aw_chk_some hf
    refine aw_ial hx hb G hc_30 dX10_travel_53 ?_
    obtain ⟨hc_33, hf⟩ := aw_chk_some hf
    obtain ⟨z_31, hz_32, hf⟩ := aw_bind_some hf
    refine aw_VI (As := [.ref (ad q_26), .int (d.1 q_28 x3.toNatClampNeg)]) (rest := []) X G hl.1 cr_X10_305 (c_X1_keysGone l hz_32) ⟨rfl, rfl⟩ rfl rfl rfl (by decide) hc_33 rfl ⟨Nat.le_of_ble_eq_true rfl, Nat.le_of_ble_eq_true rfl⟩ (Nat.le_of_ble_eq_true rfl) dX10_travel_54 ⟨Nat.le_of_ble_eq_true rfl, Nat.le_of_ble_eq_true rfl⟩ (fun H locs G => ?_)
    refine lv_istore (lv' := [(4, .int z_31.1), (0, .ref (ad x0)), (1, .int x1), (2, .int x2), (3, .int x3)]) hx hb dX10_travel_57 hl (by decide) rfl (fun ls hl => ?_)
    refine lv_iload_n hx hb dX10_travel_59 rfl (lv_at hl 3 rfl) ?_
    refine lv_aload_n hx hb dX10_travel_60 rfl (lv_at hl 1 rfl) ?_
    refine gf_X10_12 hx hb G hown hc_11 hq_13 dX10_travel_61 ?_
    obtain ⟨q_34, hq_35, hf⟩ := aw_bind_some hf
    refine gf_X10_212 hx hb G hown hc_14 hq_35 dX10_travel_64 ?_
    refine lv_iload_n hx hb dX10_travel_67 rfl (lv_at hl 4 rfl) ?_
    obtain ⟨hc_36, hf⟩ := aw_chk_some hf
    refine aw_ial hx hb G hc_36 dX10_travel_68 ?_
    refine lv_iload hx hb dX10_travel_69 (lv_at hl 0 rfl) ?_
    refine lv_imul hx hb dX10_travel_71 ?_
    refine lv_iadd hx hb dX10_travel_72 ?_
    refine lv_istore_n (lv' := [(2, .int (x2 + ((z_31.2.1 q_34 x3.toNatClampNeg) * z_31.1))), (4, .int z_31.1), (0, .ref (ad x0)), (1, .int x1), (3, .int x3)]) hx hb dX10_travel_73 rfl hl (by decide) rfl (fun ls hl => ?_)
    refine lv_iinc (v := x3 + 1) (lv' := [(3, .int (x3 + 1)), (2, .int (x2 + ((z_31.2.1 q_34 x3.toNatClampNeg) * z_31.1))), (4, .int z_31.1), (0, .ref (ad x0)), (1, .int x1)]) hx hb dX10_travel_74 hl (k := 4) rfl rfl (by decide) rfl (fun ls hl => ?_)
    refine lv_goto (tgt := 19) hx hb dX10_travel_77 (by decide) ?_
    refine W.widen (k := 1) (n := 6) (Nat.le_of_ble_eq_true rfl) (Nat.le_of_ble_eq_true rfl) ?_
    exact hkb19 _ _ _ hf _ _ _ (lv_sub hl [3, 4, 1, 0] rfl) G
theorem w_X10_travel_L19 {z : (Nat ⊕ Int32) × Dt} (X : aw_X p c cX10_travel 5 s RX10 m meth (some .int)) (XT : aw_XT l c) {k19 : Int32 → Dt → Option ((Nat ⊕ Int32) × Dt)} {x0 : Nat} {x1 : Int32} (n : Nat) {x2 : Int32} {x3 : Int32} {d : Dt} (hf : f_X10_travel_L19 σ n k19 x0 x1 x2 x3 d = some z) (hk19 : ∀ (y2 : Int32) (d : Dt), k19 y2 d = some z → ∀ (H : Heap) (locs : List Loc) (ls : Array Slot), lv_has ls 5 [(2, .int y2)] → aw_G D cA base ad σ d s H locs → W p l e rm_X10_travel s m args below meth c H locs 1 6 (aw_Exi D cA base ad σ below args s 1 6 z) (F0 m 80 ls [])) {H : Heap} {locs : List Loc} {ls : Array Slot} (hl : lv_has ls 5 [(0, .ref (ad x0)), (1, .int x1), (2, .int x2), (3, .int x3)]) (G : aw_G D cA base ad σ d s H locs) : W p l e rm_X10_travel s m args below meth c H locs 1 6 (aw_Exi D cA base ad σ below args s 1 6 z) (F0 m 19 ls []) := by
  induction n generalizing x2 x3 d H locs ls with
  | zero => exact absurd (show (none : Option ((Nat ⊕ Int32) × Dt)) = some z from hf) (by simp)
  | succ n ih => exact w_X10_travel_B19 X XT (kb19 := f_X10_travel_L19 σ n k19 x0 x1) hf  (fun x2 x3 d hf H locs ls hl G => ih hf hl G) hk19 hl G
end W_X10_travel
set_option maxHeartbeats 4000000 in
set_option maxRecDepth 100000 in
theorem c_X10_travel (l : Launch) (hst : l.stackTraces = false) {σ : Sg} {x0 : Nat} {x1 : Int32} {d : Dt} {z : (Nat ⊕ Int32) × Dt} (hf : f_X10_travel σ x0 x1 d = some z) : aw_Xi l yX10_travel (Cond.code yX10_travel cX10_travel 5 (some .int)) rm_X10_travel (fun ad => [.ref (ad x0), .int x1]) σ d z := by
  intro D cA base ad
  refine aw_ofX (own := RX10) (cc := cX10_travel) (nL := 5) (ret := some .int) hst (by decide) rfl rfl ?_
  intro p e s m below meth c X XT G
  have hx := X.1; have hb := X.2.1; have hml := X.2.2.1; have hown := X.2.2.2.1
  refine aw_ls (lv := [(0, .ref (ad x0)), (1, .int x1)]) (Nat.le_of_ble_eq_true rfl) rfl (fun ls hl => ?_)
  unfold f_X10_travel at hf
  refine lv_aload_n hx hb dX10_travel_0 rfl (lv_at hl 0 rfl) ?_
  refine lv_iload_n hx hb dX10_travel_1 rfl (lv_at hl 1 rfl) ?_
  obtain ⟨hc_3, hf⟩ := aw_chk_some hf
  obtain ⟨z_1, hz_2, hf⟩ := aw_bind_some hf
  refine aw_XVV (As := [.int x1]) (rest := []) X XT G hl.1 cr_X10_176 (c_X10_requireDesign l XT.1 hz_2) rfl rfl rfl (by decide) hc_3 rfl ⟨Nat.le_of_ble_eq_true rfl, Nat.le_of_ble_eq_true rfl⟩ (Nat.le_of_ble_eq_true rfl) dX10_travel_2 ⟨Nat.le_of_ble_eq_true rfl, Nat.le_of_ble_eq_true rfl⟩ hf (Nat.le_of_ble_eq_true rfl) (Nat.le_of_ble_eq_true rfl) (fun H locs G hf => ?_)
  refine lv_aload_n hx hb dX10_travel_5 rfl (lv_at hl 0 rfl) ?_
  refine lv_aload_n hx hb dX10_travel_6 rfl (lv_at hl 0 rfl) ?_
  obtain ⟨q_4, hq_5, hf⟩ := aw_bind_some hf
  refine gf_X10_29 hx hb G hown hc_3 hq_5 dX10_travel_7 ?_
  refine lv_iload_n hx hb dX10_travel_10 rfl (lv_at hl 1 rfl) ?_
  obtain ⟨hc_6, hf⟩ := aw_chk_some hf
  obtain ⟨q_7, hq_8, hf⟩ := aw_bind_some hf
  refine aw_qal hx hb G 26 _ rfl rfl (by decide) hc_6 hq_8 dX10_travel_11 ?_
  obtain ⟨z_9, hz_10, hf⟩ := aw_bind_some hf
  refine aw_VV (As := [.ref (ad q_7)]) (rest := []) X G hl.1 cr_X10_203 (c_X10_spellAll l hz_10) ⟨rfl, rfl⟩ rfl rfl rfl (by decide) hc_3 rfl ⟨Nat.le_of_ble_eq_true rfl, Nat.le_of_ble_eq_true rfl⟩ (Nat.le_of_ble_eq_true rfl) dX10_travel_12 ⟨Nat.le_of_ble_eq_true rfl, Nat.le_of_ble_eq_true rfl⟩ (fun H locs G => ?_)
  refine lv_iconst (v := (0 : Int32)) hx hb dX10_travel_15 (by decide) ?_
  refine lv_istore_n (lv' := [(2, .int ((0 : Int32))), (0, .ref (ad x0)), (1, .int x1)]) hx hb dX10_travel_16 rfl hl (by decide) rfl (fun ls hl => ?_)
  refine lv_iconst (v := (0 : Int32)) hx hb dX10_travel_17 (by decide) ?_
  refine lv_istore_n (lv' := [(3, .int ((0 : Int32))), (2, .int ((0 : Int32))), (0, .ref (ad x0)), (1, .int x1)]) hx hb dX10_travel_18 rfl hl (by decide) rfl (fun ls hl => ?_)
  refine W.widen (k := 1) (n := 6) (Nat.le_of_ble_eq_true rfl) (Nat.le_of_ble_eq_true rfl) ?_
  refine w_X10_travel_L19 X XT aw_FU hf  (fun x2_37 d_38 hf H locs ls hl G => ?_) (lv_sub hl [2, 3, 1, 0] rfl) G
  refine lv_iload_n hx hb dX10_travel_80 rfl (lv_at hl 0 rfl) ?_
  exact aw_xreti X G hf dX10_travel_81 (Nat.le_of_ble_eq_true rfl) (Nat.le_of_ble_eq_true rfl)
def rm_X10_votes : Room := { frames := 7, cells := 1, slots := 6, locals := 147 }
def f_X10_votes (σ : Sg) (x0 : Nat) (x1 : Int32) (d : Dt) : Option ((Nat ⊕ Int32) × Dt) :=
  aw_chk (aw_O σ 10 13 x0) ((f_X10_requireDesign σ x0 x1 d).bind (fun z_1 => aw_th z_1 (fun _ => (f_X10_prepareBallot σ x0 z_1.2).bind (fun z_4 => (σ.2.2 x0 6).bind (fun q_6 => aw_chk (aw_O σ 0 7 q_6) ((f_X0_countVotes σ q_6 z_4.2).bind (fun z_8 => (σ.2.2 q_6 4).bind (fun q_11 => aw_chk (aw_I σ 20 q_11 x1) (some (Sum.inr (z_8.2.1 q_11 x1.toNatClampNeg), z_8.2))))))))))
section W_X10_votes
variable {p : Program} {l : Launch} {e : Env} {s : State} {m : MethodId} {args : Array Value} {below : List Frame} {meth : Method} {c : Code}
variable {D : va_G} {cA : Nat → ClassId} {base : Nat} {ad : Nat → Nat} {σ : Sg}
end W_X10_votes
set_option maxHeartbeats 4000000 in
set_option maxRecDepth 100000 in
theorem c_X10_votes (l : Launch) (hst : l.stackTraces = false) {σ : Sg} {x0 : Nat} {x1 : Int32} {d : Dt} {z : (Nat ⊕ Int32) × Dt} (hf : f_X10_votes σ x0 x1 d = some z) : aw_Xi l yX10_votes (Cond.code yX10_votes cX10_votes 2 (some .int)) rm_X10_votes (fun ad => [.ref (ad x0), .int x1]) σ d z := by
  intro D cA base ad
  refine aw_ofX (own := RX10) (cc := cX10_votes) (nL := 2) (ret := some .int) hst (by decide) rfl rfl ?_
  intro p e s m below meth c X XT G
  have hx := X.1; have hb := X.2.1; have hml := X.2.2.1; have hown := X.2.2.2.1
  refine aw_ls (lv := [(0, .ref (ad x0)), (1, .int x1)]) (Nat.le_of_ble_eq_true rfl) rfl (fun ls hl => ?_)
  unfold f_X10_votes at hf
  refine lv_aload_n hx hb dX10_votes_0 rfl (lv_at hl 0 rfl) ?_
  refine lv_iload_n hx hb dX10_votes_1 rfl (lv_at hl 1 rfl) ?_
  obtain ⟨hc_3, hf⟩ := aw_chk_some hf
  obtain ⟨z_1, hz_2, hf⟩ := aw_bind_some hf
  refine aw_XVV (As := [.int x1]) (rest := []) X XT G hl.1 cr_X10_176 (c_X10_requireDesign l XT.1 hz_2) rfl rfl rfl (by decide) hc_3 rfl ⟨Nat.le_of_ble_eq_true rfl, Nat.le_of_ble_eq_true rfl⟩ (Nat.le_of_ble_eq_true rfl) dX10_votes_2 ⟨Nat.le_of_ble_eq_true rfl, Nat.le_of_ble_eq_true rfl⟩ hf (Nat.le_of_ble_eq_true rfl) (Nat.le_of_ble_eq_true rfl) (fun H locs G hf => ?_)
  refine lv_aload_n hx hb dX10_votes_5 rfl (lv_at hl 0 rfl) ?_
  obtain ⟨z_4, hz_5, hf⟩ := aw_bind_some hf
  refine aw_VV (As := []) (rest := []) X G hl.1 cr_X10_336 (c_X10_prepareBallot l hz_5) ⟨rfl, rfl⟩ rfl rfl rfl (by decide) hc_3 rfl ⟨Nat.le_of_ble_eq_true rfl, Nat.le_of_ble_eq_true rfl⟩ (Nat.le_of_ble_eq_true rfl) dX10_votes_6 ⟨Nat.le_of_ble_eq_true rfl, Nat.le_of_ble_eq_true rfl⟩ (fun H locs G => ?_)
  refine lv_aload_n hx hb dX10_votes_9 rfl (lv_at hl 0 rfl) ?_
  obtain ⟨q_6, hq_7, hf⟩ := aw_bind_some hf
  refine gf_X10_47 hx hb G hown hc_3 hq_7 dX10_votes_10 ?_
  obtain ⟨hc_10, hf⟩ := aw_chk_some hf
  obtain ⟨z_8, hz_9, hf⟩ := aw_bind_some hf
  refine aw_VV (As := []) (rest := []) X G hl.1 cr_X10_339 (c_X0_countVotes l hz_9) ⟨rfl, rfl⟩ rfl rfl rfl (by decide) hc_10 rfl ⟨Nat.le_of_ble_eq_true rfl, Nat.le_of_ble_eq_true rfl⟩ (Nat.le_of_ble_eq_true rfl) dX10_votes_13 ⟨Nat.le_of_ble_eq_true rfl, Nat.le_of_ble_eq_true rfl⟩ (fun H locs G => ?_)
  refine lv_aload_n hx hb dX10_votes_16 rfl (lv_at hl 0 rfl) ?_
  refine gf_X10_47 hx hb G hown hc_3 hq_7 dX10_votes_17 ?_
  obtain ⟨q_11, hq_12, hf⟩ := aw_bind_some hf
  refine gf_X10_342 hx hb G hown hc_10 hq_12 dX10_votes_20 ?_
  refine lv_iload_n hx hb dX10_votes_23 rfl (lv_at hl 1 rfl) ?_
  obtain ⟨hc_13, hf⟩ := aw_chk_some hf
  refine aw_ial hx hb G hc_13 dX10_votes_24 ?_
  exact aw_xreti X G hf dX10_votes_25 (Nat.le_of_ble_eq_true rfl) (Nat.le_of_ble_eq_true rfl)
def rm_X10_word : Room := { frames := 6, cells := 1, slots := 6, locals := 90 }
def f_X10_word_J12 (σ : Sg)  (d : Dt) : Option ((Nat ⊕ Int32) × Dt) :=
  some (Sum.inl 2, d)
def f_X10_word_B87 (σ : Sg) (kb87 : Int32 → Dt → Option ((Nat ⊕ Int32) × Dt)) (k87 : Dt → Option ((Nat ⊕ Int32) × Dt)) (x0 : Nat) (x1 : Int32) (x2 : Int32) (d : Dt) : Option ((Nat ⊕ Int32) × Dt) :=
  if ((3 : Int32)) ≤ x2 then k87 d else aw_chk (aw_O σ 10 13 x0) ((σ.2.2 x0 2).bind (fun q_13 => aw_chk (aw_I σ 25 q_13 x2) ((σ.2.2 q_13 x2.toNatClampNeg).bind (fun q_16 => (σ.2.2 x0 0).bind (fun q_18 => aw_chk (aw_O σ 9 4 q_18) ((σ.2.2 q_18 0).bind (fun q_21 => aw_chk (aw_O σ 2 8 q_16) ((f_X2_hear σ q_16 q_21 (d.1 q_18 1) d).bind (fun z_23 => kb87 (x2 + 1) z_23.2)))))))))
def f_X10_word_L87 (σ : Sg) (n : Nat) (k87 : Dt → Option ((Nat ⊕ Int32) × Dt)) (x0 : Nat) (x1 : Int32) : Int32 → Dt → Option ((Nat ⊕ Int32) × Dt) := match n with
  | 0 => fun _ _ => none
  | n + 1 => fun x2 d => f_X10_word_B87 σ (f_X10_word_L87 σ n k87 x0 x1) k87 x0 x1 x2 d
def f_X10_word (σ : Sg) (x0 : Nat) (x1 : Int32) (d : Dt) : Option ((Nat ⊕ Int32) × Dt) :=
  if x1 < ((1 : Int32)) then f_X10_word_J12 σ d else if x1 ≤ ((999 : Int32)) then aw_chk (aw_O σ 10 13 x0) ((σ.2.2 x0 0).bind (fun q_2 => aw_chk (aw_O σ 9 4 q_2) (if (d.1 q_2 1) = 0 then some (Sum.inl 3, d) else if (d.1 q_2 3) < ((20 : Int32)) then (σ.2.2 x0 1).bind (fun q_5 => (σ.2.2 q_2 0).bind (fun q_7 => aw_chk (aw_O σ 2 8 q_5) ((f_X2_hear σ q_5 q_7 (d.1 q_2 1) d).bind (fun z_9 => f_X10_word_L87 σ aw_FU (fun d_26 => (f_X9_endDraft σ q_2 x1 d_26).bind (fun z_27 => some (Sum.inr z_27.1, z_27.2))) x0 x1 ((0 : Int32)) z_9.2)))) else some (Sum.inl 3, d)))) else f_X10_word_J12 σ d
section W_X10_word
variable {p : Program} {l : Launch} {e : Env} {s : State} {m : MethodId} {args : Array Value} {below : List Frame} {meth : Method} {c : Code}
variable {D : va_G} {cA : Nat → ClassId} {base : Nat} {ad : Nat → Nat} {σ : Sg}
set_option maxHeartbeats 4000000 in
set_option maxRecDepth 100000 in
theorem w_X10_word_J12 {z : (Nat ⊕ Int32) × Dt} (X : aw_X p c cX10_word 3 s RX10 m meth (some .int)) (XT : aw_XT l c)  {d : Dt} (hf : f_X10_word_J12 σ d = some z)  {H : Heap} {locs : List Loc} {ls : Array Slot} (hl : lv_has ls 3 []) (G : aw_G D cA base ad σ d s H locs) : W p l e rm_X10_word s m args below meth c H locs 0 0 (aw_Exi D cA base ad σ below args s 1 6 z) (F0 m 12 ls []) := by
  have hx := X.1; have hb := X.2.1; have hml := X.2.2.1; have hown := X.2.2.2.1
  unfold f_X10_word_J12 at hf
  exact aw_throw X XT G hl.1 2 hf tw_X10_89_93 "weight is out of range" (by decide +kernel) dX10_word_12 dX10_word_15 dX10_word_16 dX10_word_18 dX10_word_21 ⟨Nat.le_of_ble_eq_true rfl, Nat.le_of_ble_eq_true rfl, Nat.le_of_ble_eq_true rfl, Nat.le_of_ble_eq_true rfl⟩ (Nat.le_of_ble_eq_true rfl) (Nat.le_of_ble_eq_true rfl)
set_option maxHeartbeats 4000000 in
set_option maxRecDepth 100000 in
theorem w_X10_word_B87 {z : (Nat ⊕ Int32) × Dt} (X : aw_X p c cX10_word 3 s RX10 m meth (some .int)) (XT : aw_XT l c) {kb87 : Int32 → Dt → Option ((Nat ⊕ Int32) × Dt)} {k87 : Dt → Option ((Nat ⊕ Int32) × Dt)} {x0 : Nat} {x1 : Int32} {x2 : Int32} {d : Dt} (hf : f_X10_word_B87 σ kb87 k87 x0 x1 x2 d = some z) (hkb87 : ∀ (y2 : Int32) (d : Dt), kb87 y2 d = some z → ∀ (H : Heap) (locs : List Loc) (ls : Array Slot), lv_has ls 3 [(0, .ref (ad x0)), (1, .int x1), (2, .int y2)] → aw_G D cA base ad σ d s H locs → W p l e rm_X10_word s m args below meth c H locs 0 0 (aw_Exi D cA base ad σ below args s 1 6 z) (F0 m 87 ls [])) (hk87 : ∀ (d : Dt), k87 d = some z → ∀ (H : Heap) (locs : List Loc) (ls : Array Slot), lv_has ls 3 [(0, .ref (ad x0)), (1, .int x1)] → aw_G D cA base ad σ d s H locs → W p l e rm_X10_word s m args below meth c H locs 0 0 (aw_Exi D cA base ad σ below args s 1 6 z) (F0 m 121 ls [])) {H : Heap} {locs : List Loc} {ls : Array Slot} (hl : lv_has ls 3 [(0, .ref (ad x0)), (1, .int x1), (2, .int x2)]) (G : aw_G D cA base ad σ d s H locs) : W p l e rm_X10_word s m args below meth c H locs 0 0 (aw_Exi D cA base ad σ below args s 1 6 z) (F0 m 87 ls []) := by
  have hx := X.1; have hb := X.2.1; have hml := X.2.2.1; have hown := X.2.2.2.1
  unfold f_X10_word_B87 at hf
  refine lv_iload_n hx hb dX10_word_87 rfl (lv_at hl 2 rfl) ?_
  refine lv_iconst (v := (3 : Int32)) hx hb dX10_word_88 (by decide) ?_
  refine lv_icmp_ge (tgt := 121) hx hb dX10_word_89 (by decide) (fun hc => ?_) (fun hc => ?_)
  · have hf := aw_ite_t hc hf
    exact hk87 _ hf _ _ _ (lv_sub hl [0, 1] rfl) G
  · have hf := aw_ite_f hc hf
    refine lv_aload_n hx hb dX10_word_92 rfl (lv_at hl 0 rfl) ?_
    obtain ⟨hc_12, hf⟩ := aw_chk_some hf
    obtain ⟨q_13, hq_14, hf⟩ := aw_bind_some hf
    refine gf_X10_23 hx hb G hown hc_12 hq_14 dX10_word_93 ?_
    refine lv_iload_n hx hb dX10_word_96 rfl (lv_at hl 2 rfl) ?_
    obtain ⟨hc_15, hf⟩ := aw_chk_some hf
    obtain ⟨q_16, hq_17, hf⟩ := aw_bind_some hf
    refine aw_qal hx hb G 25 _ rfl rfl (by decide) hc_15 hq_17 dX10_word_97 ?_
    refine lv_aload_n hx hb dX10_word_98 rfl (lv_at hl 0 rfl) ?_
    obtain ⟨q_18, hq_19, hf⟩ := aw_bind_some hf
    refine gf_X10_12 hx hb G hown hc_12 hq_19 dX10_word_99 ?_
    obtain ⟨hc_20, hf⟩ := aw_chk_some hf
    obtain ⟨q_21, hq_22, hf⟩ := aw_bind_some hf
    refine gf_X10_117 hx hb G hown hc_20 hq_22 dX10_word_102 ?_
    refine lv_aload_n hx hb dX10_word_105 rfl (lv_at hl 0 rfl) ?_
    refine gf_X10_12 hx hb G hown hc_12 hq_19 dX10_word_106 ?_
    refine gf_X10_96 hx hb G hown hc_20 dX10_word_109 ?_
    obtain ⟨hc_25, hf⟩ := aw_chk_some hf
    obtain ⟨z_23, hz_24, hf⟩ := aw_bind_some hf
    refine aw_VV (As := [.ref (ad q_21), .int (d.1 q_18 1)]) (rest := []) X G hl.1 cr_X10_121 (c_X2_hear l hz_24) ⟨rfl, rfl⟩ rfl rfl rfl (by decide) hc_25 rfl ⟨Nat.le_of_ble_eq_true rfl, Nat.le_of_ble_eq_true rfl⟩ (Nat.le_of_ble_eq_true rfl) dX10_word_112 ⟨Nat.le_of_ble_eq_true rfl, Nat.le_of_ble_eq_true rfl⟩ (fun H locs G => ?_)
    refine lv_iinc (v := x2 + 1) (lv' := [(2, .int (x2 + 1)), (0, .ref (ad x0)), (1, .int x1)]) hx hb dX10_word_115 hl (k := 2) rfl rfl (by decide) rfl (fun ls hl => ?_)
    refine lv_goto (tgt := 87) hx hb dX10_word_118 (by decide) ?_
    exact hkb87 _ _ hf _ _ _ (lv_sub hl [1, 2, 0] rfl) G
theorem w_X10_word_L87 {z : (Nat ⊕ Int32) × Dt} (X : aw_X p c cX10_word 3 s RX10 m meth (some .int)) (XT : aw_XT l c) {k87 : Dt → Option ((Nat ⊕ Int32) × Dt)} {x0 : Nat} {x1 : Int32} (n : Nat) {x2 : Int32} {d : Dt} (hf : f_X10_word_L87 σ n k87 x0 x1 x2 d = some z) (hk87 : ∀ (d : Dt), k87 d = some z → ∀ (H : Heap) (locs : List Loc) (ls : Array Slot), lv_has ls 3 [(0, .ref (ad x0)), (1, .int x1)] → aw_G D cA base ad σ d s H locs → W p l e rm_X10_word s m args below meth c H locs 0 0 (aw_Exi D cA base ad σ below args s 1 6 z) (F0 m 121 ls [])) {H : Heap} {locs : List Loc} {ls : Array Slot} (hl : lv_has ls 3 [(0, .ref (ad x0)), (1, .int x1), (2, .int x2)]) (G : aw_G D cA base ad σ d s H locs) : W p l e rm_X10_word s m args below meth c H locs 0 0 (aw_Exi D cA base ad σ below args s 1 6 z) (F0 m 87 ls []) := by
  induction n generalizing x2 d H locs ls with
  | zero => exact absurd (show (none : Option ((Nat ⊕ Int32) × Dt)) = some z from hf) (by simp)
  | succ n ih => exact w_X10_word_B87 X XT (kb87 := f_X10_word_L87 σ n k87 x0 x1) hf  (fun x2 d hf H locs ls hl G => ih hf hl G) hk87 hl G
end W_X10_word
set_option maxHeartbeats 4000000 in
set_option maxRecDepth 100000 in
theorem c_X10_word (l : Launch) (hst : l.stackTraces = false) {σ : Sg} {x0 : Nat} {x1 : Int32} {d : Dt} {z : (Nat ⊕ Int32) × Dt} (hf : f_X10_word σ x0 x1 d = some z) : aw_Xi l yX10_word (Cond.code yX10_word cX10_word 3 (some .int)) rm_X10_word (fun ad => [.ref (ad x0), .int x1]) σ d z := by
  intro D cA base ad
  refine aw_ofX (own := RX10) (cc := cX10_word) (nL := 3) (ret := some .int) hst (by decide) rfl rfl ?_
  intro p e s m below meth c X XT G
  have hx := X.1; have hb := X.2.1; have hml := X.2.2.1; have hown := X.2.2.2.1
  refine aw_ls (lv := [(0, .ref (ad x0)), (1, .int x1)]) (Nat.le_of_ble_eq_true rfl) rfl (fun ls hl => ?_)
  unfold f_X10_word at hf
  refine lv_iload_n hx hb dX10_word_0 rfl (lv_at hl 1 rfl) ?_
  refine lv_iconst (v := (1 : Int32)) hx hb dX10_word_1 (by decide) ?_
  refine lv_icmp_lt (tgt := 12) hx hb dX10_word_2 (by decide) (fun hc => ?_) (fun hc => ?_)
  · have hf := aw_ite_t hc hf
    exact w_X10_word_J12 X XT hf  (lv_sub hl [] rfl) G
  · have hf := aw_ite_f hc hf
    refine lv_iload_n hx hb dX10_word_5 rfl (lv_at hl 1 rfl) ?_
    refine lv_sipush (v := (999 : Int32)) hx hb dX10_word_6 (by decide) ?_
    refine lv_icmp_le (tgt := 22) hx hb dX10_word_9 (by decide) (fun hc => ?_) (fun hc => ?_)
    · have hf := aw_ite_t hc hf
      refine lv_aload_n hx hb dX10_word_22 rfl (lv_at hl 0 rfl) ?_
      obtain ⟨hc_1, hf⟩ := aw_chk_some hf
      obtain ⟨q_2, hq_3, hf⟩ := aw_bind_some hf
      refine gf_X10_12 hx hb G hown hc_1 hq_3 dX10_word_23 ?_
      obtain ⟨hc_4, hf⟩ := aw_chk_some hf
      refine gf_X10_96 hx hb G hown hc_4 dX10_word_26 ?_
      refine lv_if_ne (tgt := 42) hx hb dX10_word_29 (by decide) (fun hc => ?_) (fun hc => ?_)
      · have hf := aw_ite_f hc hf
        refine lv_aload_n hx hb dX10_word_42 rfl (lv_at hl 0 rfl) ?_
        refine gf_X10_12 hx hb G hown hc_1 hq_3 dX10_word_43 ?_
        refine gf_X10_112 hx hb G hown hc_4 dX10_word_46 ?_
        refine lv_bipush (v := (20 : Int32)) hx hb dX10_word_49 (by decide) ?_
        refine lv_icmp_lt (tgt := 64) hx hb dX10_word_51 (by decide) (fun hc => ?_) (fun hc => ?_)
        · have hf := aw_ite_t hc hf
          refine lv_aload_n hx hb dX10_word_64 rfl (lv_at hl 0 rfl) ?_
          obtain ⟨q_5, hq_6, hf⟩ := aw_bind_some hf
          refine gf_X10_19 hx hb G hown hc_1 hq_6 dX10_word_65 ?_
          refine lv_aload_n hx hb dX10_word_68 rfl (lv_at hl 0 rfl) ?_
          refine gf_X10_12 hx hb G hown hc_1 hq_3 dX10_word_69 ?_
          obtain ⟨q_7, hq_8, hf⟩ := aw_bind_some hf
          refine gf_X10_117 hx hb G hown hc_4 hq_8 dX10_word_72 ?_
          refine lv_aload_n hx hb dX10_word_75 rfl (lv_at hl 0 rfl) ?_
          refine gf_X10_12 hx hb G hown hc_1 hq_3 dX10_word_76 ?_
          refine gf_X10_96 hx hb G hown hc_4 dX10_word_79 ?_
          obtain ⟨hc_11, hf⟩ := aw_chk_some hf
          obtain ⟨z_9, hz_10, hf⟩ := aw_bind_some hf
          refine aw_VV (As := [.ref (ad q_7), .int (d.1 q_2 1)]) (rest := []) X G hl.1 cr_X10_121 (c_X2_hear l hz_10) ⟨rfl, rfl⟩ rfl rfl rfl (by decide) hc_11 rfl ⟨Nat.le_of_ble_eq_true rfl, Nat.le_of_ble_eq_true rfl⟩ (Nat.le_of_ble_eq_true rfl) dX10_word_82 ⟨Nat.le_of_ble_eq_true rfl, Nat.le_of_ble_eq_true rfl⟩ (fun H locs G => ?_)
          refine lv_iconst (v := (0 : Int32)) hx hb dX10_word_85 (by decide) ?_
          refine lv_istore_n (lv' := [(2, .int ((0 : Int32))), (0, .ref (ad x0)), (1, .int x1)]) hx hb dX10_word_86 rfl hl (by decide) rfl (fun ls hl => ?_)
          refine w_X10_word_L87 X XT aw_FU hf  (fun d_26 hf H locs ls hl G => ?_) (lv_sub hl [1, 2, 0] rfl) G
          refine lv_aload_n hx hb dX10_word_121 rfl (lv_at hl 0 rfl) ?_
          refine gf_X10_12 hx hb G hown hc_1 hq_3 dX10_word_122 ?_
          refine lv_iload_n hx hb dX10_word_125 rfl (lv_at hl 1 rfl) ?_
          obtain ⟨z_27, hz_28, hf⟩ := aw_bind_some hf
          refine aw_VI (As := [.int x1]) (rest := []) X G hl.1 cr_X10_125 (c_X9_endDraft l hz_28) ⟨rfl, rfl⟩ rfl rfl rfl (by decide) hc_4 rfl ⟨Nat.le_of_ble_eq_true rfl, Nat.le_of_ble_eq_true rfl⟩ (Nat.le_of_ble_eq_true rfl) dX10_word_126 ⟨Nat.le_of_ble_eq_true rfl, Nat.le_of_ble_eq_true rfl⟩ (fun H locs G => ?_)
          exact aw_xreti X G hf dX10_word_129 (Nat.le_of_ble_eq_true rfl) (Nat.le_of_ble_eq_true rfl)
        · have hf := aw_ite_f hc hf
          exact aw_throw X XT G hl.1 3 hf tw_X10_99_103 "there are 20 words" (by decide +kernel) dX10_word_54 dX10_word_57 dX10_word_58 dX10_word_60 dX10_word_63 ⟨Nat.le_of_ble_eq_true rfl, Nat.le_of_ble_eq_true rfl, Nat.le_of_ble_eq_true rfl, Nat.le_of_ble_eq_true rfl⟩ (Nat.le_of_ble_eq_true rfl) (Nat.le_of_ble_eq_true rfl)
      · have hf := aw_ite_t hc hf
        exact aw_throw X XT G hl.1 3 hf tw_X10_99_103 "the draft is empty" (by decide +kernel) dX10_word_32 dX10_word_35 dX10_word_36 dX10_word_38 dX10_word_41 ⟨Nat.le_of_ble_eq_true rfl, Nat.le_of_ble_eq_true rfl, Nat.le_of_ble_eq_true rfl, Nat.le_of_ble_eq_true rfl⟩ (Nat.le_of_ble_eq_true rfl) (Nat.le_of_ble_eq_true rfl)
    · have hf := aw_ite_f hc hf
      exact w_X10_word_J12 X XT hf  (lv_sub hl [] rfl) G
