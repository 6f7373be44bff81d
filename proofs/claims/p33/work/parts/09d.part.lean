def rm_L_part : Room := { frames := 0, cells := 0, slots := 0, locals := 0 }
def f_L_part_J25 (σ : Sg) (t0 : Int32) (x2 : Int32) (d : Dt) : Option (Int32 × Dt) :=
  aw_chk (¬ x2 = 0) (some ((t0 &&& ((2147483647 : Int32))) - (t0 &&& ((2147483647 : Int32))) / x2 * x2, d))
def f_L_part (xs : Nat → Int32) (L : Nat) (σ : Sg) (x1 : Int32) (x2 : Int32) (d : Dt) : Option (Int32 × Dt) :=
  if (Int32.ofNat L) ≤ x1 then f_L_part_J25 σ ((((1087 : Int32)) * x1) + ((((971 : Int32)) * x1) * x1)) x2 d else aw_chk (¬ (x1 < 0 ∨ L ≤ x1.toNatClampNeg)) (f_L_part_J25 σ (xs x1.toNatClampNeg) x2 d)
section W_L_part
variable {p : Program} {l : Launch} {e : Env} {s : State} {m : MethodId} {args : Array Value} {below : List Frame} {meth : Method} {c : Code}
variable {D : va_G} {cA : Nat → ClassId} {base : Nat} {ad : Nat → Nat} {σ : Sg}
set_option maxHeartbeats 4000000 in
set_option maxRecDepth 100000 in
theorem w_L_part_J25 {z : Int32 × Dt} (X : aw_X p c cL_part 4 s RL m meth (some .int)) {t0 : Int32} {x2 : Int32} {d : Dt} (hf : f_L_part_J25 σ t0 x2 d = some z)  {H : Heap} {locs : List Loc} {ls : Array Slot} (hl : lv_has ls 4 [(2, .int x2)]) (G : aw_G D cA base ad σ d s H locs) : W p l e rm_L_part s m args below meth c H locs 0 0 (aw_Ei D cA base ad σ below args s z) (F0 m 25 ls [.int t0]) := by
  have hx := X.1; have hb := X.2.1; have hml := X.2.2.1; have hown := X.2.2.2.1
  unfold f_L_part_J25 at hf
  refine lv_istore_n (lv' := [(3, .int t0), (2, .int x2)]) hx hb dL_part_25 rfl hl (by decide) rfl (fun ls hl => ?_)
  refine lv_iload_n hx hb dL_part_26 rfl (lv_at hl 0 rfl) ?_
  refine lv_ldc (v := (2147483647 : Int32)) hx hb hown (G.1.hts _ m_306) dL_part_27 ?_
  refine lv_iand hx hb dL_part_29 ?_
  refine lv_iload_n hx hb dL_part_30 rfl (lv_at hl 1 rfl) ?_
  obtain ⟨hc_1, hf⟩ := aw_chk_some hf
  refine lv_irem hx hb dL_part_31 hc_1 ?_
  exact aw_reti X G hf dL_part_32
end W_L_part
set_option maxHeartbeats 4000000 in
set_option maxRecDepth 100000 in
theorem c_L_part (l : Launch) {b L : Nat} {xs : Nat → Int32} {σ : Sg} {x1 : Int32} {x2 : Int32} {d : Dt} {z : Int32 × Dt} (hf : f_L_part xs L σ x1 x2 d = some z) : aw_Mp l yL_part (Cond.code yL_part cL_part 4 (some .int)) rm_L_part b L xs [.ref b, .int x1, .int x2] σ d z := by
  intro D cA base ad
  refine aw_ofWp (own := RL) (cc := cL_part) (nL := 4) (ret := some .int) (by decide) rfl rfl ?_
  intro p e s m below meth c X G hX hbl hbA
  have hx := X.1; have hb := X.2.1; have hml := X.2.2.1; have hown := X.2.2.2.1
  refine aw_ls (lv := [(0, .ref b), (1, .int x1), (2, .int x2)]) (Nat.le_of_ble_eq_true rfl) rfl (fun ls hl => ?_)
  unfold f_L_part at hf
  refine lv_iload_n hx hb dL_part_0 rfl (lv_at hl 1 rfl) ?_
  refine lv_aload_n hx hb dL_part_1 rfl (lv_at hl 0 rfl) ?_
  refine va_slen hx hb hX hbl hbA G.2.2.2.2 dL_part_2 ?_
  refine lv_icmp_ge (tgt := 12) hx hb dL_part_3 (by decide) (fun hc => ?_) (fun hc => ?_)
  · have hf := aw_ite_t hc hf
    refine lv_sipush (v := (1087 : Int32)) hx hb dL_part_12 (by decide) ?_
    refine lv_iload_n hx hb dL_part_15 rfl (lv_at hl 1 rfl) ?_
    refine lv_imul hx hb dL_part_16 ?_
    refine lv_sipush (v := (971 : Int32)) hx hb dL_part_17 (by decide) ?_
    refine lv_iload_n hx hb dL_part_20 rfl (lv_at hl 1 rfl) ?_
    refine lv_imul hx hb dL_part_21 ?_
    refine lv_iload_n hx hb dL_part_22 rfl (lv_at hl 1 rfl) ?_
    refine lv_imul hx hb dL_part_23 ?_
    refine lv_iadd hx hb dL_part_24 ?_
    exact w_L_part_J25 X hf  (lv_sub hl [2] rfl) G
  · have hf := aw_ite_f hc hf
    refine lv_aload_n hx hb dL_part_6 rfl (lv_at hl 0 rfl) ?_
    refine lv_iload_n hx hb dL_part_7 rfl (lv_at hl 1 rfl) ?_
    obtain ⟨hc_2, hf⟩ := aw_chk_some hf
    refine va_sld hx hb hX hbl hbA G.2.2.2.2 hc_2 dL_part_8 ?_
    refine lv_goto (tgt := 25) hx hb dL_part_9 (by decide) ?_
    exact w_L_part_J25 X hf  (lv_sub hl [2] rfl) G
