def f_law_sw (xs : Nat → Int32) (L : Nat) (kb : Sg → Dt → Option Int32) (v : Int32) (x1 x2 x3 : Nat) (x4 : Int32) (σ : Sg) (d : Dt) : Option Int32 :=
  if v = 0 then f_law_C0 xs L kb x1 x2 x3 x4 σ d else if v = 1 then f_law_C1 xs L kb x1 x2 x3 x4 σ d else if v = 2 then f_law_C2 xs L kb x1 x2 x3 x4 σ d else if v = 3 then f_law_C3 xs L kb x1 x2 x3 x4 σ d else if v = 4 then f_law_C4 xs L kb x1 x2 x3 x4 σ d else if v = 5 then f_law_C5 xs L kb x1 x2 x3 x4 σ d else if v = 6 then f_law_C6 xs L kb x1 x2 x3 x4 σ d else if v = 7 then f_law_C7 xs L kb x1 x2 x3 x4 σ d else if v = 8 then f_law_C8 xs L kb x1 x2 x3 x4 σ d else if v = 9 then f_law_C9 xs L kb x1 x2 x3 x4 σ d else if v = 10 then f_law_C10 xs L kb x1 x2 x3 x4 σ d else if v = 11 then f_law_C11 xs L kb x1 x2 x3 x4 σ d else if v = 12 then f_law_C12 xs L kb x1 x2 x3 x4 σ d else if v = 13 then f_law_C13 xs L kb x1 x2 x3 x4 σ d else if v = 14 then f_law_C14 xs L kb x1 x2 x3 x4 σ d else if v = 15 then f_law_C15 xs L kb x1 x2 x3 x4 σ d else if v = 16 then f_law_C16 xs L kb x1 x2 x3 x4 σ d else if v = 17 then f_law_C17 xs L kb x1 x2 x3 x4 σ d else if v = 18 then f_law_C18 xs L kb x1 x2 x3 x4 σ d else if v = 19 then f_law_C19 xs L kb x1 x2 x3 x4 σ d else if v = 20 then f_law_C20 xs L kb x1 x2 x3 x4 σ d else if v = 21 then f_law_C21 xs L kb x1 x2 x3 x4 σ d else if v = 22 then f_law_C22 xs L kb x1 x2 x3 x4 σ d else if v = 23 then f_law_C23 xs L kb x1 x2 x3 x4 σ d else if v = 24 then f_law_C24 xs L kb x1 x2 x3 x4 σ d else if v = 25 then f_law_C25 xs L kb x1 x2 x3 x4 σ d else if v = 26 then f_law_C26 xs L kb x1 x2 x3 x4 σ d else if v = 27 then f_law_C27 xs L kb x1 x2 x3 x4 σ d else if v = 28 then f_law_C28 xs L kb x1 x2 x3 x4 σ d else if v = 29 then f_law_C29 xs L kb x1 x2 x3 x4 σ d else kb σ d

def f_law_L (xs : Nat → Int32) (L : Nat) (x1 x2 x3 : Nat) (n : Nat) : Int32 → Sg → Dt → Option Int32 := match n with
  | 0 => fun _ _ _ => none
  | n + 1 => fun x4 σ d => if Int32.ofNat L - 6 < x4 then some 1 else aw_chk (¬ (x4 < 0 ∨ L ≤ x4.toNatClampNeg)) (f_law_sw xs L (fun σ d => f_law_L xs L x1 x2 x3 n (x4 + 6) σ d) (xs x4.toNatClampNeg &&& 31) x1 x2 x3 x4 σ d)
theorem aw_sw29 {x : Int32} (h : ∀ k : Nat, k < 30 → ¬ x = Int32.ofNat k) : x.toInt < 0 ∨ 29 < x.toInt := by
  by_cases h1 : x.toInt < 0
  · exact Or.inl h1
  · refine Or.inr (Int.not_le.mp fun h2 => ?_)
    obtain ⟨k, hk⟩ := Int.eq_ofNat_of_zero_le (Int.not_lt.mp h1)
    have hk2 : k < 30 := by omega
    refine h k hk2 (Int32.toInt_inj.mp ?_)
    rw [hk]
    exact (nI_toInt (n := k) (by omega)).symm
theorem aw_lawstep {L j : Nat} (hL : L ≤ 3072) (hj : 6 * j ≤ L) (h : ¬ (Int32.ofNat L - 6 < Int32.ofNat (6 * j))) : 6 * (j + 1) ≤ L := by
  have e1 : (Int32.ofNat L - 6).toInt = (L : Int) - 6 := pk_sub_toInt (a := L) (b := 6) (by omega) (by omega)
  have e2 : (Int32.ofNat (6 * j)).toInt = ((6 * j : Nat) : Int) := nI_toInt (n := 6 * j) (by omega)
  rw [Int32.lt_iff_toInt_lt, e1, e2] at h
  omega
section LAWL
variable {p : Program} {l : Launch} {e : Env} {s : State} {m : MethodId} {below : List Frame} {meth : Method} {c : Code}
variable {D : va_G} {cA : Nat → ClassId} {ad0 : Nat → Nat} {σ0 : Sg}
set_option maxHeartbeats 4000000 in
set_option maxRecDepth 100000 in
theorem w_law_sw (hst : l.stackTraces = false) (X : aw_X p c cL_law 8 s RL m meth ret) {b L : Nat} {xs : Nat → Int32} (hX : va_X b L xs s s.heap) (hbl : b < s.heap.size) {kb : Sg → Dt → Option Int32} {v : Int32} {x1 x2 x3 : Nat} {x4 : Int32} {σ : Sg} {d : Dt} {ad : Nat → Nat} (hf : f_law_sw xs L kb v x1 x2 x3 x4 σ d = some 1) {cells slots : Nat} (hrc : cells + 4 ≤ 601024) (hrs : slots + 105 ≤ 7293033) (hkb : ∀ (σ : Sg) (d : Dt), kb σ d = some 1 → ∀ (ad : Nat → Nat), aw_ext σ0 ad0 σ ad → ∀ (H : Heap) (locs : List Loc) (ls : Array Slot), lv_has ls 8 [(0, .ref b), (1, .ref (ad x1)), (2, .ref (ad x2)), (3, .ref (ad x3)), (4, .int x4)] → aw_G D cA s.heap.size ad σ d s H locs → W p l e room_1 s m #[Value.ref b] below meth c H locs (cells + 4) (slots + 105) (lw_Z below #[Value.ref b] s) (F0 m 2257 ls [])) (E : aw_ext σ0 ad0 σ ad) {H : Heap} {locs : List Loc} {ls : Array Slot} (hl : lv_has ls 8 [(0, .ref b), (1, .ref (ad x1)), (2, .ref (ad x2)), (3, .ref (ad x3)), (4, .int x4)]) (G : aw_G D cA s.heap.size ad σ d s H locs) : W p l e room_1 s m #[Value.ref b] below meth c H locs cells slots (lw_Z below #[Value.ref b] s) (F0 m 40 ls [.int v]) := by
  have hx := X.1; have hb := X.2.1
  unfold f_law_sw at hf
  by_cases hs0 : v = 0
  · have hf := aw_ite_t hs0 hf
    refine lv_tableIn (off := 136) (tgt := 176) hx hb dL_law_40 (by rw [hs0]; decide) (by rw [hs0]; decide) (by rw [hs0]; decide) (by decide) ?_
    exact w_law_C0 hst X hX hbl hf hrc hrs hkb E hl G
  have hf := aw_ite_f hs0 hf
  by_cases hs1 : v = 1
  · have hf := aw_ite_t hs1 hf
    refine lv_tableIn (off := 192) (tgt := 232) hx hb dL_law_40 (by rw [hs1]; decide) (by rw [hs1]; decide) (by rw [hs1]; decide) (by decide) ?_
    exact w_law_C1 hst X hX hbl hf hrc hrs hkb E hl G
  have hf := aw_ite_f hs1 hf
  by_cases hs2 : v = 2
  · have hf := aw_ite_t hs2 hf
    refine lv_tableIn (off := 248) (tgt := 288) hx hb dL_law_40 (by rw [hs2]; decide) (by rw [hs2]; decide) (by rw [hs2]; decide) (by decide) ?_
    exact w_law_C2 hst X hX hbl hf hrc hrs hkb E hl G
  have hf := aw_ite_f hs2 hf
  by_cases hs3 : v = 3
  · have hf := aw_ite_t hs3 hf
    refine lv_tableIn (off := 368) (tgt := 408) hx hb dL_law_40 (by rw [hs3]; decide) (by rw [hs3]; decide) (by rw [hs3]; decide) (by decide) ?_
    exact w_law_C3 hst X hX hbl hf hrc hrs hkb E hl G
  have hf := aw_ite_f hs3 hf
  by_cases hs4 : v = 4
  · have hf := aw_ite_t hs4 hf
    refine lv_tableIn (off := 448) (tgt := 488) hx hb dL_law_40 (by rw [hs4]; decide) (by rw [hs4]; decide) (by rw [hs4]; decide) (by decide) ?_
    exact w_law_C4 hst X hX hbl hf hrc hrs hkb E hl G
  have hf := aw_ite_f hs4 hf
  by_cases hs5 : v = 5
  · have hf := aw_ite_t hs5 hf
    refine lv_tableIn (off := 516) (tgt := 556) hx hb dL_law_40 (by rw [hs5]; decide) (by rw [hs5]; decide) (by rw [hs5]; decide) (by decide) ?_
    exact w_law_C5 hst X hX hbl hf hrc hrs hkb E hl G
  have hf := aw_ite_f hs5 hf
  by_cases hs6 : v = 6
  · have hf := aw_ite_t hs6 hf
    refine lv_tableIn (off := 624) (tgt := 664) hx hb dL_law_40 (by rw [hs6]; decide) (by rw [hs6]; decide) (by rw [hs6]; decide) (by decide) ?_
    exact w_law_C6 hst X hX hbl hf hrc hrs hkb E hl G
  have hf := aw_ite_f hs6 hf
  by_cases hs7 : v = 7
  · have hf := aw_ite_t hs7 hf
    refine lv_tableIn (off := 727) (tgt := 767) hx hb dL_law_40 (by rw [hs7]; decide) (by rw [hs7]; decide) (by rw [hs7]; decide) (by decide) ?_
    exact w_law_C7 hst X hX hbl hf hrc hrs hkb E hl G
  have hf := aw_ite_f hs7 hf
  by_cases hs8 : v = 8
  · have hf := aw_ite_t hs8 hf
    refine lv_tableIn (off := 807) (tgt := 847) hx hb dL_law_40 (by rw [hs8]; decide) (by rw [hs8]; decide) (by rw [hs8]; decide) (by decide) ?_
    exact w_law_C8 hst X hX hbl hf hrc hrs hkb E hl G
  have hf := aw_ite_f hs8 hf
  by_cases hs9 : v = 9
  · have hf := aw_ite_t hs9 hf
    refine lv_tableIn (off := 863) (tgt := 903) hx hb dL_law_40 (by rw [hs9]; decide) (by rw [hs9]; decide) (by rw [hs9]; decide) (by decide) ?_
    exact w_law_C9 hst X hX hbl hf hrc hrs hkb E hl G
  have hf := aw_ite_f hs9 hf
  by_cases hs10 : v = 10
  · have hf := aw_ite_t hs10 hf
    refine lv_tableIn (off := 919) (tgt := 959) hx hb dL_law_40 (by rw [hs10]; decide) (by rw [hs10]; decide) (by rw [hs10]; decide) (by decide) ?_
    exact w_law_C10 hst X hX hbl hf hrc hrs hkb E hl G
  have hf := aw_ite_f hs10 hf
  by_cases hs11 : v = 11
  · have hf := aw_ite_t hs11 hf
    refine lv_tableIn (off := 987) (tgt := 1027) hx hb dL_law_40 (by rw [hs11]; decide) (by rw [hs11]; decide) (by rw [hs11]; decide) (by decide) ?_
    exact w_law_C11 hst X hX hbl hf hrc hrs hkb E hl G
  have hf := aw_ite_f hs11 hf
  by_cases hs12 : v = 12
  · have hf := aw_ite_t hs12 hf
    refine lv_tableIn (off := 1054) (tgt := 1094) hx hb dL_law_40 (by rw [hs12]; decide) (by rw [hs12]; decide) (by rw [hs12]; decide) (by decide) ?_
    exact w_law_C12 hst X hX hbl hf hrc hrs hkb E hl G
  have hf := aw_ite_f hs12 hf
  by_cases hs13 : v = 13
  · have hf := aw_ite_t hs13 hf
    refine lv_tableIn (off := 1121) (tgt := 1161) hx hb dL_law_40 (by rw [hs13]; decide) (by rw [hs13]; decide) (by rw [hs13]; decide) (by decide) ?_
    exact w_law_C13 hst X hX hbl hf hrc hrs hkb E hl G
  have hf := aw_ite_f hs13 hf
  by_cases hs14 : v = 14
  · have hf := aw_ite_t hs14 hf
    refine lv_tableIn (off := 1189) (tgt := 1229) hx hb dL_law_40 (by rw [hs14]; decide) (by rw [hs14]; decide) (by rw [hs14]; decide) (by decide) ?_
    exact w_law_C14 hst X hX hbl hf hrc hrs hkb E hl G
  have hf := aw_ite_f hs14 hf
  by_cases hs15 : v = 15
  · have hf := aw_ite_t hs15 hf
    refine lv_tableIn (off := 1257) (tgt := 1297) hx hb dL_law_40 (by rw [hs15]; decide) (by rw [hs15]; decide) (by rw [hs15]; decide) (by decide) ?_
    exact w_law_C15 hst X hX hbl hf hrc hrs hkb E hl G
  have hf := aw_ite_f hs15 hf
  by_cases hs16 : v = 16
  · have hf := aw_ite_t hs16 hf
    refine lv_tableIn (off := 1325) (tgt := 1365) hx hb dL_law_40 (by rw [hs16]; decide) (by rw [hs16]; decide) (by rw [hs16]; decide) (by decide) ?_
    exact w_law_C16 hst X hX hbl hf hrc hrs hkb E hl G
  have hf := aw_ite_f hs16 hf
  by_cases hs17 : v = 17
  · have hf := aw_ite_t hs17 hf
    refine lv_tableIn (off := 1381) (tgt := 1421) hx hb dL_law_40 (by rw [hs17]; decide) (by rw [hs17]; decide) (by rw [hs17]; decide) (by decide) ?_
    exact w_law_C17 hst X hX hbl hf hrc hrs hkb E hl G
  have hf := aw_ite_f hs17 hf
  by_cases hs18 : v = 18
  · have hf := aw_ite_t hs18 hf
    refine lv_tableIn (off := 1449) (tgt := 1489) hx hb dL_law_40 (by rw [hs18]; decide) (by rw [hs18]; decide) (by rw [hs18]; decide) (by decide) ?_
    exact w_law_C18 hst X hX hbl hf hrc hrs hkb E hl G
  have hf := aw_ite_f hs18 hf
  by_cases hs19 : v = 19
  · have hf := aw_ite_t hs19 hf
    refine lv_tableIn (off := 1517) (tgt := 1557) hx hb dL_law_40 (by rw [hs19]; decide) (by rw [hs19]; decide) (by rw [hs19]; decide) (by decide) ?_
    exact w_law_C19 hst X hX hbl hf hrc hrs hkb E hl G
  have hf := aw_ite_f hs19 hf
  by_cases hs20 : v = 20
  · have hf := aw_ite_t hs20 hf
    refine lv_tableIn (off := 1573) (tgt := 1613) hx hb dL_law_40 (by rw [hs20]; decide) (by rw [hs20]; decide) (by rw [hs20]; decide) (by decide) ?_
    exact w_law_C20 hst X hX hbl hf hrc hrs hkb E hl G
  have hf := aw_ite_f hs20 hf
  by_cases hs21 : v = 21
  · have hf := aw_ite_t hs21 hf
    refine lv_tableIn (off := 1629) (tgt := 1669) hx hb dL_law_40 (by rw [hs21]; decide) (by rw [hs21]; decide) (by rw [hs21]; decide) (by decide) ?_
    exact w_law_C21 hst X hX hbl hf hrc hrs hkb E hl G
  have hf := aw_ite_f hs21 hf
  by_cases hs22 : v = 22
  · have hf := aw_ite_t hs22 hf
    refine lv_tableIn (off := 1709) (tgt := 1749) hx hb dL_law_40 (by rw [hs22]; decide) (by rw [hs22]; decide) (by rw [hs22]; decide) (by decide) ?_
    exact w_law_C22 hst X hX hbl hf hrc hrs hkb E hl G
  have hf := aw_ite_f hs22 hf
  by_cases hs23 : v = 23
  · have hf := aw_ite_t hs23 hf
    refine lv_tableIn (off := 1765) (tgt := 1805) hx hb dL_law_40 (by rw [hs23]; decide) (by rw [hs23]; decide) (by rw [hs23]; decide) (by decide) ?_
    exact w_law_C23 hst X hX hbl hf hrc hrs hkb E hl G
  have hf := aw_ite_f hs23 hf
  by_cases hs24 : v = 24
  · have hf := aw_ite_t hs24 hf
    refine lv_tableIn (off := 1821) (tgt := 1861) hx hb dL_law_40 (by rw [hs24]; decide) (by rw [hs24]; decide) (by rw [hs24]; decide) (by decide) ?_
    exact w_law_C24 hst X hX hbl hf hrc hrs hkb E hl G
  have hf := aw_ite_f hs24 hf
  by_cases hs25 : v = 25
  · have hf := aw_ite_t hs25 hf
    refine lv_tableIn (off := 1913) (tgt := 1953) hx hb dL_law_40 (by rw [hs25]; decide) (by rw [hs25]; decide) (by rw [hs25]; decide) (by decide) ?_
    exact w_law_C25 hst X hX hbl hf hrc hrs hkb E hl G
  have hf := aw_ite_f hs25 hf
  by_cases hs26 : v = 26
  · have hf := aw_ite_t hs26 hf
    refine lv_tableIn (off := 1981) (tgt := 2021) hx hb dL_law_40 (by rw [hs26]; decide) (by rw [hs26]; decide) (by rw [hs26]; decide) (by decide) ?_
    exact w_law_C26 hst X hX hbl hf hrc hrs hkb E hl G
  have hf := aw_ite_f hs26 hf
  by_cases hs27 : v = 27
  · have hf := aw_ite_t hs27 hf
    refine lv_tableIn (off := 2037) (tgt := 2077) hx hb dL_law_40 (by rw [hs27]; decide) (by rw [hs27]; decide) (by rw [hs27]; decide) (by decide) ?_
    exact w_law_C27 hst X hX hbl hf hrc hrs hkb E hl G
  have hf := aw_ite_f hs27 hf
  by_cases hs28 : v = 28
  · have hf := aw_ite_t hs28 hf
    refine lv_tableIn (off := 2081) (tgt := 2121) hx hb dL_law_40 (by rw [hs28]; decide) (by rw [hs28]; decide) (by rw [hs28]; decide) (by decide) ?_
    exact w_law_C28 hst X hX hbl hf hrc hrs hkb E hl G
  have hf := aw_ite_f hs28 hf
  by_cases hs29 : v = 29
  · have hf := aw_ite_t hs29 hf
    refine lv_tableIn (off := 2149) (tgt := 2189) hx hb dL_law_40 (by rw [hs29]; decide) (by rw [hs29]; decide) (by rw [hs29]; decide) (by decide) ?_
    exact w_law_C29 hst X hX hbl hf hrc hrs hkb E hl G
  have hf := aw_ite_f hs29 hf
  have hv : v.toInt < 0 ∨ 29 < v.toInt := aw_sw29 (fun k hk => by
    match k, hk with
    | 0, _ => exact hs0
    | 1, _ => exact hs1
    | 2, _ => exact hs2
    | 3, _ => exact hs3
    | 4, _ => exact hs4
    | 5, _ => exact hs5
    | 6, _ => exact hs6
    | 7, _ => exact hs7
    | 8, _ => exact hs8
    | 9, _ => exact hs9
    | 10, _ => exact hs10
    | 11, _ => exact hs11
    | 12, _ => exact hs12
    | 13, _ => exact hs13
    | 14, _ => exact hs14
    | 15, _ => exact hs15
    | 16, _ => exact hs16
    | 17, _ => exact hs17
    | 18, _ => exact hs18
    | 19, _ => exact hs19
    | 20, _ => exact hs20
    | 21, _ => exact hs21
    | 22, _ => exact hs22
    | 23, _ => exact hs23
    | 24, _ => exact hs24
    | 25, _ => exact hs25
    | 26, _ => exact hs26
    | 27, _ => exact hs27
    | 28, _ => exact hs28
    | 29, _ => exact hs29
    | k + 30, hk => exact absurd hk (by omega))
  refine lv_tableOut (tgt := 2257) hx hb dL_law_40 hv (by decide) ?_
  refine W.widen (k := cells + 4) (n := slots + 105) (by omega) (by omega) ?_
  exact hkb _ _ hf _ E _ _ _ hl G
set_option maxHeartbeats 4000000 in
set_option maxRecDepth 100000 in
theorem w_law_L (hst : l.stackTraces = false) (X : aw_X p c cL_law 8 s RL m meth ret) {b L : Nat} {xs : Nat → Int32} (hX : va_X b L xs s s.heap) (hbl : b < s.heap.size) (hL : L ≤ 3072) {x1 x2 x3 : Nat} {c0 s0 : Nat} (hc0 : c0 + 4 * 512 ≤ 601024) (hs0 : s0 + 105 * 512 ≤ 7293033) (n : Nat) : ∀ (j : Nat) (x4 : Int32) (σ : Sg) (d : Dt) (ad : Nat → Nat), x4 = Int32.ofNat (6 * j) → 6 * j ≤ L → f_law_L xs L x1 x2 x3 n x4 σ d = some 1 → aw_ext σ0 ad0 σ ad → ∀ (H : Heap) (locs : List Loc) (ls : Array Slot), lv_has ls 8 [(0, .ref b), (1, .ref (ad x1)), (2, .ref (ad x2)), (3, .ref (ad x3)), (4, .int x4)] → aw_G D cA s.heap.size ad σ d s H locs → W p l e room_1 s m #[Value.ref b] below meth c H locs (c0 + 4 * j) (s0 + 105 * j) (lw_Z below #[Value.ref b] s) (F0 m 23 ls []) := by
  have hx := X.1; have hb := X.2.1
  have hbA : ¬ (fun q => s.heap.size ≤ q) b := Nat.not_le.mpr hbl
  induction n with
  | zero => intro j x4 σ d ad _ _ hf; exact absurd (show (none : Option Int32) = some 1 from hf) (by simp)
  | succ n ih =>
    intro j x4 σ d ad hj hjL hf E H locs ls hl G
    have hf : (if Int32.ofNat L - 6 < x4 then some 1 else aw_chk (¬ (x4 < 0 ∨ L ≤ x4.toNatClampNeg)) (f_law_sw xs L (fun σ d => f_law_L xs L x1 x2 x3 n (x4 + 6) σ d) (xs x4.toNatClampNeg &&& 31) x1 x2 x3 x4 σ d)) = some 1 := hf
    refine lv_iload hx hb dL_law_23 (lv_at hl 4 rfl) ?_
    refine lv_aload_n hx hb dL_law_25 rfl (lv_at hl 0 rfl) ?_
    refine va_slen hx hb hX hbl hbA G.2.2.2.2 dL_law_26 ?_
    refine lv_bipush (v := (6 : Int32)) hx hb dL_law_27 (by decide) ?_
    refine lv_isub hx hb dL_law_29 ?_
    refine lv_icmp_gt (tgt := 2263) hx hb dL_law_30 (by decide) (fun hc => ?_) (fun hc => ?_)
    · refine lv_iconst (v := (1 : Int32)) hx hb dL_law_2263 (by decide) ?_
      refine va_forget (fun q hq => G.2.2.2.2.2.2 q hq) ?_
      refine W.widen (k := 601024) (n := 7293033) (by omega) (by omega) ?_
      exact lw_ret hx hb X.2.2.2.2.1 X.2.2.2.2.2 dL_law_2264
    · have hf := aw_ite_f hc hf
      have hstep : 6 * (j + 1) ≤ L := aw_lawstep hL hjL (by rw [← hj]; exact hc)
      obtain ⟨hc1, hf⟩ := aw_chk_some hf
      refine lv_aload_n hx hb dL_law_33 rfl (lv_at hl 0 rfl) ?_
      refine lv_iload hx hb dL_law_34 (lv_at hl 4 rfl) ?_
      refine va_sld hx hb hX hbl hbA G.2.2.2.2 hc1 dL_law_36 ?_
      refine lv_bipush (v := (31 : Int32)) hx hb dL_law_37 (by decide) ?_
      refine lv_iand hx hb dL_law_39 ?_
      refine w_law_sw hst X hX hbl hf (by omega) (by omega) (fun σ d hf ad E H locs ls hl G => ?_) E hl G
      refine lv_iinc (v := x4 + 6) (lv' := [(4, .int (x4 + 6)), (0, .ref b), (1, .ref (ad x1)), (2, .ref (ad x2)), (3, .ref (ad x3))]) hx hb dL_law_2257 hl (k := 4) rfl rfl (by decide) rfl (fun ls hl => ?_)
      refine lv_goto (tgt := 23) hx hb dL_law_2260 (by decide) ?_
      have e4 : x4 + 6 = Int32.ofNat (6 * (j + 1)) := by
        rw [hj]
        exact (nI_add (6 * j) 6).trans (by rfl)
      refine W.widen (k := c0 + 4 * (j + 1)) (n := s0 + 105 * (j + 1)) (by omega) (by omega) ?_
      exact ih (j + 1) (x4 + 6) σ d ad e4 hstep hf E H locs ls (lv_sub hl [1, 2, 3, 4, 0] rfl) G
end LAWL
