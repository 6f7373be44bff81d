section START
theorem aw_cls {s : State} {args : Array Value} (h : ∀ w ∈ aw_tbl, w.before args s = true) (k : Nat) : ∃ y : ClassId × (Nat → Nat), ∀ q : vw_C, vwCl[k]? = some q → u_Kn s q.1 q.2.1 q.2.2 y.1 y.2 := by
  match k with
  | 0 =>
    obtain ⟨c, iS, hk⟩ := u_known (C := RX0) (T := TX0) (N := 7) (n := 7) h inaX0 (h _ m_135)
    exact ⟨(c, iS), fun q hq => by cases hq; exact hk⟩
  | 1 =>
    obtain ⟨c, iS, hk⟩ := u_known (C := RX1) (T := TX1) (N := 5) (n := 5) h inaX1 (h _ m_471)
    exact ⟨(c, iS), fun q hq => by cases hq; exact hk⟩
  | 2 =>
    obtain ⟨c, iS, hk⟩ := u_known (C := RX2) (T := TX2) (N := 8) (n := 8) h inaX2 (h _ m_54)
    exact ⟨(c, iS), fun q hq => by cases hq; exact hk⟩
  | 3 =>
    obtain ⟨c, iS, hk⟩ := u_known (C := RX3) (T := TX3) (N := 1) (n := 1) h inaX3 (h _ m_254)
    exact ⟨(c, iS), fun q hq => by cases hq; exact hk⟩
  | 4 =>
    obtain ⟨c, iS, hk⟩ := u_known (C := RX4) (T := TX4) (N := 8) (n := 8) h inaX4 (h _ m_220)
    exact ⟨(c, iS), fun q hq => by cases hq; exact hk⟩
  | 5 =>
    obtain ⟨c, iS, hk⟩ := u_known (C := RX5) (T := TX5) (N := 6) (n := 6) h inaX5 (h _ m_191)
    exact ⟨(c, iS), fun q hq => by cases hq; exact hk⟩
  | 6 =>
    obtain ⟨c, iS, hk⟩ := u_known (C := RX6) (T := TX6) (N := 4) (n := 4) h inaX6 (h _ m_97)
    exact ⟨(c, iS), fun q hq => by cases hq; exact hk⟩
  | 7 =>
    obtain ⟨c, iS, hk⟩ := u_known (C := RX7) (T := TX7) (N := 3) (n := 3) h inaX7 (h _ m_169)
    exact ⟨(c, iS), fun q hq => by cases hq; exact hk⟩
  | 8 =>
    obtain ⟨c, iS, hk⟩ := u_known (C := RX8) (T := TX8) (N := 1) (n := 1) h inaX8 (h _ m_103)
    exact ⟨(c, iS), fun q hq => by cases hq; exact hk⟩
  | 9 =>
    obtain ⟨c, iS, hk⟩ := u_known (C := RX9) (T := TX9) (N := 4) (n := 4) h inaX9 (h _ m_30)
    exact ⟨(c, iS), fun q hq => by cases hq; exact hk⟩
  | 10 =>
    obtain ⟨c, iS, hk⟩ := u_known (C := RX10) (T := TX10) (N := 13) (n := 13) h inaX10 (h _ m_22)
    exact ⟨(c, iS), fun q hq => by cases hq; exact hk⟩
  | k + 11 => exact ⟨(0, fun _ => 0), fun q hq => by simp [vwCl] at hq⟩
theorem aw_arrp {s : State} {args : Array Value} {ty : FieldType} (h : (Cond.arrayClass ty).before args s = true) : ∃ c : ClassId, ArrOfT s c ty ∧ s.vm.findClass ("[" ++ ty.toString) = some c := by
  obtain ⟨c, k, comp, h1, h2, h3⟩ := Cond.arrayClass_spec h
  exact ⟨c, fun _ _ => ⟨(fun _ h => by cases h), k, h2, comp, h3⟩, h1⟩
theorem aw_arra {s : State} {ty : FieldType} (h : va_AOA ty s) : ∃ c : ClassId, ArrOfT s c (.array ty) ∧ s.vm.findClass ("[" ++ (FieldType.array ty).toString) = some c := by
  obtain ⟨comp, c, k, -, -, h2, h3, h4⟩ := h.spec
  exact ⟨c, fun _ _ => ⟨(fun _ h => by cases h), k, h2, comp, h3⟩, h4⟩
theorem aw_arro {s : State} {C : String} (h : va_AO C s) : ∃ c : ClassId, ArrOfT s c (.object C) ∧ va_RA s c (.object C) := by
  obtain ⟨comp, c, k, h1, -, h2, h3, h4⟩ := Cond.arrayOver_spec h
  exact ⟨c, fun _ _ => ⟨(fun _ h => by cases h), k, h2, comp, h3⟩, k, comp, h2, h3, h1, h4⟩
set_option maxRecDepth 100000 in
theorem aw_st1 : ∀ q ∈ aw_strs, Cond.stringRef q.1 q.2.1 q.2.2 ∈ lw_tbl := by decide +kernel
set_option maxRecDepth 100000 in
theorem aw_st2 : ∀ q ∈ aw_strs, Cond.exactly (.string q.1 q.2.1) "java/lang/String" ∈ flatC (Jvm.Cond.and given_1 narrow_1) := by decide +kernel
set_option maxRecDepth 100000 in
theorem aw_st3 : ∀ q ∈ aw_exs, Cond.castable q q ∈ lw_tbl := by decide +kernel
set_option maxRecDepth 100000 in
theorem aw_st4 : ∀ q ∈ aw_exs, ∀ r ∈ aw_exs, q ≠ r → Cond.not (.castable q r) ∈ flatC (Jvm.Cond.and given_1 narrow_1) := by decide +kernel
set_option maxRecDepth 100000 in
theorem aw_st5 : Cond.isRef (.static Bundle.tN "UNASSIGNED_STACK" Bundle.steD) ∈ flatC (Jvm.Cond.and given_1 narrow_1) ∧ Cond.isRef (.static Bundle.tN "SUPPRESSED_SENTINEL" Bundle.listD) ∈ flatC (Jvm.Cond.and given_1 narrow_1) := by decide +kernel
set_option maxRecDepth 100000 in
theorem aw_st6 : Cond.laysStatic Bundle.tN "UNASSIGNED_STACK" Bundle.steD ∈ lw_tbl ∧ Cond.laysStatic Bundle.tN "SUPPRESSED_SENTINEL" Bundle.listD ∈ lw_tbl ∧ Cond.initialized Bundle.tN ∈ lw_tbl := by decide +kernel
set_option maxRecDepth 100000 in
theorem aw_st7 : Cond.arrayOver (.object "Letterforge$Dialect") ∈ lw_tbl ∧ Cond.arrayOver (.object "Letterforge$Design") ∈ lw_tbl ∧ Cond.arrayOver (.array .int) ∈ lw_tbl ∧ Cond.arrayOver (.array .long) ∈ lw_tbl ∧ Cond.arrayClass .int ∈ lw_tbl ∧ Cond.arrayClass .long ∈ lw_tbl ∧ Cond.arrayClass .boolean ∈ lw_tbl := by decide +kernel
theorem aw_T0 {s : State} {b : Nat} (hts : ∀ w ∈ lw_tbl, w.before #[Value.ref b] s = true) (hgv : (Jvm.Cond.and given_1 narrow_1).before #[Value.ref b] s = true) : aw_T s.heap.size s := by
  have hs := flat_of_before _ hgv
  refine ⟨fun w hw => aw_word (State.WarmedH.refl s) (List.mem_filter.mp hw).2 (hts w (List.mem_filter.mp hw).1), vx_Zqof (hts _ aw_st6.1) (hts _ aw_st6.2.2) (hs _ aw_st5.1) (fun a ha => Nat.not_le.mpr ha), vx_Zqof (hts _ aw_st6.2.1) (hts _ aw_st6.2.2) (hs _ aw_st5.2) (fun a ha => Nat.not_le.mpr ha), fun q hq => ?_, ⟨va_AO.of (hts _ aw_st7.1), va_AO.of (hts _ aw_st7.2.1), hts _ aw_st7.2.2.1, hts _ aw_st7.2.2.2.1⟩, Nat.le_refl _, fun q hq => va_Nw.of rfl (hts _ (aw_st3 q hq)), fun q hq r hr hqr => va_Nc.of (hs _ (aw_st4 q hq r hr hqr))⟩
  obtain ⟨a, c, cell, k, q1, -⟩ := Cond.exactly_spec (args := #[Value.ref b]) (first := s) (o := none) (s := s) (idx := []) (hs _ (aw_st2 q hq))
  exact ⟨a, vk_R.of (A := #[Value.ref b]) (hts _ (aw_st1 q hq)) q1⟩
theorem aw_K0 {s : State} {b : Nat} (hts : ∀ w ∈ lw_tbl, w.before #[Value.ref b] s = true) : ∃ (D : va_G) (cA : Nat → ClassId), va_K D vwCl (aw_tys cA) s := by
  have ht : ∀ w ∈ aw_tbl, w.before #[Value.ref b] s = true := fun w hw => hts w (List.mem_filter.mp hw).1
  obtain ⟨F, hF⟩ := Classical.axiomOfChoice (aw_cls ht)
  obtain ⟨c0, a0, r0⟩ := aw_arrp (hts _ aw_st7.2.2.2.2.1)
  obtain ⟨c1, a1, r1⟩ := aw_arrp (hts _ aw_st7.2.2.2.2.2.1)
  obtain ⟨c2, a2, r2⟩ := aw_arrp (hts _ aw_st7.2.2.2.2.2.2)
  obtain ⟨c3, a3, r3⟩ := aw_arra (show va_AOA .int s from hts _ aw_st7.2.2.1)
  obtain ⟨c4, a4, r4⟩ := aw_arra (show va_AOA .long s from hts _ aw_st7.2.2.2.1)
  obtain ⟨c5, a5, r5⟩ := aw_arro (va_AO.of (hts _ aw_st7.1))
  obtain ⟨c6, a6, r6⟩ := aw_arro (va_AO.of (hts _ aw_st7.2.1))
  refine ⟨(fun k => (F k).1, fun k => (F k).2), fun k => if k = 20 then c0 else if k = 21 then c1 else if k = 22 then c2 else if k = 23 then c3 else if k = 24 then c4 else if k = 25 then c5 else c6, fun k q hq => hF k q hq, fun k q hq => ?_⟩
  match k, hq with
  | 0, hq => cases hq; exact ⟨a0, r0⟩
  | 1, hq => cases hq; exact ⟨a1, r1⟩
  | 2, hq => cases hq; exact ⟨a2, r2⟩
  | 3, hq => cases hq; exact ⟨a3, r3⟩
  | 4, hq => cases hq; exact ⟨a4, r4⟩
  | 5, hq => cases hq; exact ⟨a5, r5⟩
  | 6, hq => cases hq; exact ⟨a6, r6⟩
  | k + 7, hq => simp [aw_tys] at hq
end START
set_option maxHeartbeats 4000000 in
set_option maxRecDepth 100000 in
theorem whole_start {p : Program} {e : Env} {s : State} {m : MethodId} {below : List Frame} {meth : Method} {c : Code} (l : Launch) (hflags : l.flags = flags0) {b L : Nat} {xs : Nat → Int32} (hL : L ≤ 260) (C0 : lw_At p s m meth c b L xs) : W p l e room_1 s m #[Value.ref b] below meth c s.heap [] 0 0 (lw_Z below #[Value.ref b] s) (entryFrame m ([Value.ref b] : List Value).toArray 20) := by
  have hst : l.stackTraces = false := by unfold Launch.stackTraces; rw [hflags]; decide
  obtain ⟨hx, hb, hr, hml, hown, hts, hX, hbl, hlocks, hgv⟩ := id C0
  have hml : c.maxLocals = 20 := hml
  have X : aw_X p c cL_law 20 s RL m meth ret := ⟨hx, hb, hml, hown, hr, hlocks⟩
  obtain ⟨D, cA, hK⟩ := aw_K0 hts
  have G : aw_G D cA s.heap.size (fun _ => 0) aw_s0 aw_d0 s s.heap [] := ⟨aw_T0 hts hgv, hK, fun k q h => by simp [aw_ws, aw_s0] at h, ⟨fun i j p q h => by simp [aw_ws, aw_s0] at h, fun k q h => by simp [aw_ws, aw_s0] at h⟩, va_S.rf⟩
  have E : aw_ext aw_s0 (fun _ => 0) aw_s0 (fun _ => 0) := ⟨Nat.le_refl _, fun _ _ => rfl, fun k hk => absurd hk (Nat.not_lt_zero k)⟩
  have hf := law_one xs L hL
  have hl := lv_entry ([.ref b]) (n := 20) (Nat.le_of_ble_eq_true rfl)
  rw [lg_entry_eq]
  generalize (lg_sl ([.ref b]) ++ List.replicate (20 - (lg_sl ([.ref b])).length) Slot.unset).toArray = ls at hl ⊢
  have hl : lv_has ls 20 [(0, .ref b)] := hl
  unfold f_law at hf
  have hB : 0 + 37982 ≤ 37982 ∧ 0 + 64 * 37982 ≤ 2430848 := by decide
  refine aw_newO (ci := 10) (C := RX10) (T := TX10) (N := 13) X G E (by decide) tyX10 tyX10_ok rfl inaX10 m_21 m_22 m_1 dzX10 (by show 0 + 1 ≤ 600086; omega) (by show 0 + 13 ≤ 7301442; omega) hf dL_law_0 (fun q_1 σ_2 d_3 ad_4 H hf hext_6 E_5 G => ?_)
  refine lv_dup hx hb dL_law_3 rfl ?_
  obtain ⟨hc_7, hf⟩ := aw_chk_some hf
  obtain ⟨z_8, hz_9, hf⟩ := aw_bind_some hf
  refine aw_IN (As := []) (rest := [.ref (ad_4 q_1)]) X G E_5 hl.1 cr_L_203 (c_X10_init l hz_9) rfl rfl rfl ⟨(Nat.le_of_ble_eq_true rfl), (Nat.le_of_ble_eq_true rfl)⟩ (Nat.le_of_ble_eq_true rfl) dL_law_4 ⟨by show 0 + 1 + 264 ≤ 600086; omega, by show 0 + 13 + 5693 ≤ 7301442; omega⟩ (fun ad_10 H locs hext_12 E_11 G => ?_)
  refine W.widen (k := 0 + 1 + 264) (n := 0 + 13 + 5693) (Nat.le_refl _) (Nat.le_refl _) ?_
  have ha_13 := (hext_12 _ hc_7).symm
  rw [ha_13]
  refine lv_astore_n (lv' := [(1, .ref (ad_10 q_1)), (0, .ref b)]) hx hb dL_law_7 rfl hl (by decide) rfl (fun ls hl => ?_)
  refine lv_bipush (v := (28 : Int32)) hx hb dL_law_8 (by decide) ?_
  obtain ⟨hc_14, hf⟩ := aw_chk_some hf
  refine aw_newA (atype := .int) (t := 20) (ty := .int) (N := 28) X G E_11 rfl m_52 (by decide) rfl (fun _ _ h => h) (by decide) (by decide) (fun _ => rfl) (aw_a0i 28) (Nat.le_of_ble_eq_true rfl) (by show 0 + 1 + 264 + 1 ≤ 600086; omega) (by show 0 + 13 + 5693 + 28 ≤ 7301442; omega) hf dL_law_10 (fun q_15 σ_16 d_17 ad_18 H hf hext_20 E_19 G => ?_)
  have ha_21 := (hext_20 _ hc_14).symm
  rw [ha_21] at hl
  refine lv_astore_n (lv' := [(2, .ref (ad_18 q_15)), (1, .ref (ad_18 q_1)), (0, .ref b)]) hx hb dL_law_12 rfl hl (by decide) rfl (fun ls hl => ?_)
  refine lv_bipush (v := (64 : Int32)) hx hb dL_law_13 (by decide) ?_
  obtain ⟨hc_22, hf⟩ := aw_chk_some hf
  obtain ⟨hc_23, hf⟩ := aw_chk_some hf
  refine aw_newA (atype := .int) (t := 20) (ty := .int) (N := 64) X G E_19 rfl m_52 (by decide) rfl (fun _ _ h => h) (by decide) (by decide) (fun _ => rfl) (aw_a0i 64) (Nat.le_of_ble_eq_true rfl) (by show 0 + 1 + 264 + 1 + 1 ≤ 600086; omega) (by show 0 + 13 + 5693 + 28 + 64 ≤ 7301442; omega) hf dL_law_15 (fun q_24 σ_25 d_26 ad_27 H hf hext_29 E_28 G => ?_)
  have ha_30 := (hext_29 _ hc_22).symm
  rw [ha_30] at hl
  have ha_31 := (hext_29 _ hc_23).symm
  rw [ha_31] at hl
  refine lv_astore_n (lv' := [(3, .ref (ad_27 q_24)), (2, .ref (ad_27 q_15)), (1, .ref (ad_27 q_1)), (0, .ref b)]) hx hb dL_law_17 rfl hl (by decide) rfl (fun ls hl => ?_)
  refine lv_bipush (v := (21 : Int32)) hx hb dL_law_18 (by decide) ?_
  obtain ⟨hc_32, hf⟩ := aw_chk_some hf
  obtain ⟨hc_33, hf⟩ := aw_chk_some hf
  obtain ⟨hc_34, hf⟩ := aw_chk_some hf
  refine aw_newA (atype := .int) (t := 20) (ty := .int) (N := 21) X G E_28 rfl m_52 (by decide) rfl (fun _ _ h => h) (by decide) (by decide) (fun _ => rfl) (aw_a0i 21) (Nat.le_of_ble_eq_true rfl) (by show 0 + 1 + 264 + 1 + 1 + 1 ≤ 600086; omega) (by show 0 + 13 + 5693 + 28 + 64 + 21 ≤ 7301442; omega) hf dL_law_20 (fun q_35 σ_36 d_37 ad_38 H hf hext_40 E_39 G => ?_)
  have ha_41 := (hext_40 _ hc_32).symm
  rw [ha_41] at hl
  have ha_42 := (hext_40 _ hc_33).symm
  rw [ha_42] at hl
  have ha_43 := (hext_40 _ hc_34).symm
  rw [ha_43] at hl
  refine lv_astore (lv' := [(4, .ref (ad_38 q_35)), (3, .ref (ad_38 q_24)), (2, .ref (ad_38 q_15)), (1, .ref (ad_38 q_1)), (0, .ref b)]) hx hb dL_law_22 hl (by decide) rfl (fun ls hl => ?_)
  refine lv_bipush (v := (50 : Int32)) hx hb dL_law_24 (by decide) ?_
  obtain ⟨hc_44, hf⟩ := aw_chk_some hf
  obtain ⟨hc_45, hf⟩ := aw_chk_some hf
  obtain ⟨hc_46, hf⟩ := aw_chk_some hf
  obtain ⟨hc_47, hf⟩ := aw_chk_some hf
  refine aw_newA (atype := .int) (t := 20) (ty := .int) (N := 50) X G E_39 rfl m_52 (by decide) rfl (fun _ _ h => h) (by decide) (by decide) (fun _ => rfl) (aw_a0i 50) (Nat.le_of_ble_eq_true rfl) (by show 0 + 1 + 264 + 1 + 1 + 1 + 1 ≤ 600086; omega) (by show 0 + 13 + 5693 + 28 + 64 + 21 + 50 ≤ 7301442; omega) hf dL_law_26 (fun q_48 σ_49 d_50 ad_51 H hf hext_53 E_52 G => ?_)
  have ha_54 := (hext_53 _ hc_44).symm
  rw [ha_54] at hl
  have ha_55 := (hext_53 _ hc_45).symm
  rw [ha_55] at hl
  have ha_56 := (hext_53 _ hc_46).symm
  rw [ha_56] at hl
  have ha_57 := (hext_53 _ hc_47).symm
  rw [ha_57] at hl
  refine lv_astore (lv' := [(5, .ref (ad_51 q_48)), (4, .ref (ad_51 q_35)), (3, .ref (ad_51 q_24)), (2, .ref (ad_51 q_15)), (1, .ref (ad_51 q_1)), (0, .ref b)]) hx hb dL_law_28 hl (by decide) rfl (fun ls hl => ?_)
  refine lv_bipush (v := (50 : Int32)) hx hb dL_law_30 (by decide) ?_
  obtain ⟨hc_58, hf⟩ := aw_chk_some hf
  obtain ⟨hc_59, hf⟩ := aw_chk_some hf
  obtain ⟨hc_60, hf⟩ := aw_chk_some hf
  obtain ⟨hc_61, hf⟩ := aw_chk_some hf
  obtain ⟨hc_62, hf⟩ := aw_chk_some hf
  refine aw_newA (atype := .int) (t := 20) (ty := .int) (N := 50) X G E_52 rfl m_52 (by decide) rfl (fun _ _ h => h) (by decide) (by decide) (fun _ => rfl) (aw_a0i 50) (Nat.le_of_ble_eq_true rfl) (by show 0 + 1 + 264 + 1 + 1 + 1 + 1 + 1 ≤ 600086; omega) (by show 0 + 13 + 5693 + 28 + 64 + 21 + 50 + 50 ≤ 7301442; omega) hf dL_law_32 (fun q_63 σ_64 d_65 ad_66 H hf hext_68 E_67 G => ?_)
  have ha_69 := (hext_68 _ hc_58).symm
  rw [ha_69] at hl
  have ha_70 := (hext_68 _ hc_59).symm
  rw [ha_70] at hl
  have ha_71 := (hext_68 _ hc_60).symm
  rw [ha_71] at hl
  have ha_72 := (hext_68 _ hc_61).symm
  rw [ha_72] at hl
  have ha_73 := (hext_68 _ hc_62).symm
  rw [ha_73] at hl
  refine lv_astore (lv' := [(6, .ref (ad_66 q_63)), (5, .ref (ad_66 q_48)), (4, .ref (ad_66 q_35)), (3, .ref (ad_66 q_24)), (2, .ref (ad_66 q_15)), (1, .ref (ad_66 q_1)), (0, .ref b)]) hx hb dL_law_34 hl (by decide) rfl (fun ls hl => ?_)
  refine lv_bipush (v := (50 : Int32)) hx hb dL_law_36 (by decide) ?_
  obtain ⟨hc_74, hf⟩ := aw_chk_some hf
  obtain ⟨hc_75, hf⟩ := aw_chk_some hf
  obtain ⟨hc_76, hf⟩ := aw_chk_some hf
  obtain ⟨hc_77, hf⟩ := aw_chk_some hf
  obtain ⟨hc_78, hf⟩ := aw_chk_some hf
  obtain ⟨hc_79, hf⟩ := aw_chk_some hf
  refine aw_newA (atype := .int) (t := 20) (ty := .int) (N := 50) X G E_67 rfl m_52 (by decide) rfl (fun _ _ h => h) (by decide) (by decide) (fun _ => rfl) (aw_a0i 50) (Nat.le_of_ble_eq_true rfl) (by show 0 + 1 + 264 + 1 + 1 + 1 + 1 + 1 + 1 ≤ 600086; omega) (by show 0 + 13 + 5693 + 28 + 64 + 21 + 50 + 50 + 50 ≤ 7301442; omega) hf dL_law_38 (fun q_80 σ_81 d_82 ad_83 H hf hext_85 E_84 G => ?_)
  have ha_86 := (hext_85 _ hc_74).symm
  rw [ha_86] at hl
  have ha_87 := (hext_85 _ hc_75).symm
  rw [ha_87] at hl
  have ha_88 := (hext_85 _ hc_76).symm
  rw [ha_88] at hl
  have ha_89 := (hext_85 _ hc_77).symm
  rw [ha_89] at hl
  have ha_90 := (hext_85 _ hc_78).symm
  rw [ha_90] at hl
  have ha_91 := (hext_85 _ hc_79).symm
  rw [ha_91] at hl
  refine lv_astore (lv' := [(7, .ref (ad_83 q_80)), (6, .ref (ad_83 q_63)), (5, .ref (ad_83 q_48)), (4, .ref (ad_83 q_35)), (3, .ref (ad_83 q_24)), (2, .ref (ad_83 q_15)), (1, .ref (ad_83 q_1)), (0, .ref b)]) hx hb dL_law_40 hl (by decide) rfl (fun ls hl => ?_)
  refine lv_bipush (v := (50 : Int32)) hx hb dL_law_42 (by decide) ?_
  obtain ⟨hc_92, hf⟩ := aw_chk_some hf
  obtain ⟨hc_93, hf⟩ := aw_chk_some hf
  obtain ⟨hc_94, hf⟩ := aw_chk_some hf
  obtain ⟨hc_95, hf⟩ := aw_chk_some hf
  obtain ⟨hc_96, hf⟩ := aw_chk_some hf
  obtain ⟨hc_97, hf⟩ := aw_chk_some hf
  obtain ⟨hc_98, hf⟩ := aw_chk_some hf
  refine aw_newA (atype := .int) (t := 20) (ty := .int) (N := 50) X G E_84 rfl m_52 (by decide) rfl (fun _ _ h => h) (by decide) (by decide) (fun _ => rfl) (aw_a0i 50) (Nat.le_of_ble_eq_true rfl) (by show 0 + 1 + 264 + 1 + 1 + 1 + 1 + 1 + 1 + 1 ≤ 600086; omega) (by show 0 + 13 + 5693 + 28 + 64 + 21 + 50 + 50 + 50 + 50 ≤ 7301442; omega) hf dL_law_44 (fun q_99 σ_100 d_101 ad_102 H hf hext_104 E_103 G => ?_)
  have ha_105 := (hext_104 _ hc_92).symm
  rw [ha_105] at hl
  have ha_106 := (hext_104 _ hc_93).symm
  rw [ha_106] at hl
  have ha_107 := (hext_104 _ hc_94).symm
  rw [ha_107] at hl
  have ha_108 := (hext_104 _ hc_95).symm
  rw [ha_108] at hl
  have ha_109 := (hext_104 _ hc_96).symm
  rw [ha_109] at hl
  have ha_110 := (hext_104 _ hc_97).symm
  rw [ha_110] at hl
  have ha_111 := (hext_104 _ hc_98).symm
  rw [ha_111] at hl
  refine lv_astore (lv' := [(8, .ref (ad_102 q_99)), (7, .ref (ad_102 q_80)), (6, .ref (ad_102 q_63)), (5, .ref (ad_102 q_48)), (4, .ref (ad_102 q_35)), (3, .ref (ad_102 q_24)), (2, .ref (ad_102 q_15)), (1, .ref (ad_102 q_1)), (0, .ref b)]) hx hb dL_law_46 hl (by decide) rfl (fun ls hl => ?_)
  refine lv_bipush (v := (50 : Int32)) hx hb dL_law_48 (by decide) ?_
  obtain ⟨hc_112, hf⟩ := aw_chk_some hf
  obtain ⟨hc_113, hf⟩ := aw_chk_some hf
  obtain ⟨hc_114, hf⟩ := aw_chk_some hf
  obtain ⟨hc_115, hf⟩ := aw_chk_some hf
  obtain ⟨hc_116, hf⟩ := aw_chk_some hf
  obtain ⟨hc_117, hf⟩ := aw_chk_some hf
  obtain ⟨hc_118, hf⟩ := aw_chk_some hf
  obtain ⟨hc_119, hf⟩ := aw_chk_some hf
  refine aw_newA (atype := .int) (t := 20) (ty := .int) (N := 50) X G E_103 rfl m_52 (by decide) rfl (fun _ _ h => h) (by decide) (by decide) (fun _ => rfl) (aw_a0i 50) (Nat.le_of_ble_eq_true rfl) (by show 0 + 1 + 264 + 1 + 1 + 1 + 1 + 1 + 1 + 1 + 1 ≤ 600086; omega) (by show 0 + 13 + 5693 + 28 + 64 + 21 + 50 + 50 + 50 + 50 + 50 ≤ 7301442; omega) hf dL_law_50 (fun q_120 σ_121 d_122 ad_123 H hf hext_125 E_124 G => ?_)
  have ha_126 := (hext_125 _ hc_112).symm
  rw [ha_126] at hl
  have ha_127 := (hext_125 _ hc_113).symm
  rw [ha_127] at hl
  have ha_128 := (hext_125 _ hc_114).symm
  rw [ha_128] at hl
  have ha_129 := (hext_125 _ hc_115).symm
  rw [ha_129] at hl
  have ha_130 := (hext_125 _ hc_116).symm
  rw [ha_130] at hl
  have ha_131 := (hext_125 _ hc_117).symm
  rw [ha_131] at hl
  have ha_132 := (hext_125 _ hc_118).symm
  rw [ha_132] at hl
  have ha_133 := (hext_125 _ hc_119).symm
  rw [ha_133] at hl
  refine lv_astore (lv' := [(9, .ref (ad_123 q_120)), (8, .ref (ad_123 q_99)), (7, .ref (ad_123 q_80)), (6, .ref (ad_123 q_63)), (5, .ref (ad_123 q_48)), (4, .ref (ad_123 q_35)), (3, .ref (ad_123 q_24)), (2, .ref (ad_123 q_15)), (1, .ref (ad_123 q_1)), (0, .ref b)]) hx hb dL_law_52 hl (by decide) rfl (fun ls hl => ?_)
  refine lv_bipush (v := (12 : Int32)) hx hb dL_law_54 (by decide) ?_
  obtain ⟨hc_134, hf⟩ := aw_chk_some hf
  obtain ⟨hc_135, hf⟩ := aw_chk_some hf
  obtain ⟨hc_136, hf⟩ := aw_chk_some hf
  obtain ⟨hc_137, hf⟩ := aw_chk_some hf
  obtain ⟨hc_138, hf⟩ := aw_chk_some hf
  obtain ⟨hc_139, hf⟩ := aw_chk_some hf
  obtain ⟨hc_140, hf⟩ := aw_chk_some hf
  obtain ⟨hc_141, hf⟩ := aw_chk_some hf
  obtain ⟨hc_142, hf⟩ := aw_chk_some hf
  refine aw_newA (atype := .int) (t := 20) (ty := .int) (N := 12) X G E_124 rfl m_52 (by decide) rfl (fun _ _ h => h) (by decide) (by decide) (fun _ => rfl) (aw_a0i 12) (Nat.le_of_ble_eq_true rfl) (by show 0 + 1 + 264 + 1 + 1 + 1 + 1 + 1 + 1 + 1 + 1 + 1 ≤ 600086; omega) (by show 0 + 13 + 5693 + 28 + 64 + 21 + 50 + 50 + 50 + 50 + 50 + 12 ≤ 7301442; omega) hf dL_law_56 (fun q_143 σ_144 d_145 ad_146 H hf hext_148 E_147 G => ?_)
  have ha_149 := (hext_148 _ hc_134).symm
  rw [ha_149] at hl
  have ha_150 := (hext_148 _ hc_135).symm
  rw [ha_150] at hl
  have ha_151 := (hext_148 _ hc_136).symm
  rw [ha_151] at hl
  have ha_152 := (hext_148 _ hc_137).symm
  rw [ha_152] at hl
  have ha_153 := (hext_148 _ hc_138).symm
  rw [ha_153] at hl
  have ha_154 := (hext_148 _ hc_139).symm
  rw [ha_154] at hl
  have ha_155 := (hext_148 _ hc_140).symm
  rw [ha_155] at hl
  have ha_156 := (hext_148 _ hc_141).symm
  rw [ha_156] at hl
  have ha_157 := (hext_148 _ hc_142).symm
  rw [ha_157] at hl
  refine lv_astore (lv' := [(10, .ref (ad_146 q_143)), (9, .ref (ad_146 q_120)), (8, .ref (ad_146 q_99)), (7, .ref (ad_146 q_80)), (6, .ref (ad_146 q_63)), (5, .ref (ad_146 q_48)), (4, .ref (ad_146 q_35)), (3, .ref (ad_146 q_24)), (2, .ref (ad_146 q_15)), (1, .ref (ad_146 q_1)), (0, .ref b)]) hx hb dL_law_58 hl (by decide) rfl (fun ls hl => ?_)
  refine lv_iconst (v := (2 : Int32)) hx hb dL_law_60 (by decide) ?_
  obtain ⟨hc_158, hf⟩ := aw_chk_some hf
  obtain ⟨hc_159, hf⟩ := aw_chk_some hf
  obtain ⟨hc_160, hf⟩ := aw_chk_some hf
  obtain ⟨hc_161, hf⟩ := aw_chk_some hf
  obtain ⟨hc_162, hf⟩ := aw_chk_some hf
  obtain ⟨hc_163, hf⟩ := aw_chk_some hf
  obtain ⟨hc_164, hf⟩ := aw_chk_some hf
  obtain ⟨hc_165, hf⟩ := aw_chk_some hf
  obtain ⟨hc_166, hf⟩ := aw_chk_some hf
  obtain ⟨hc_167, hf⟩ := aw_chk_some hf
  refine aw_newA (atype := .int) (t := 20) (ty := .int) (N := 2) X G E_147 rfl m_52 (by decide) rfl (fun _ _ h => h) (by decide) (by decide) (fun _ => rfl) (aw_a0i 2) (Nat.le_of_ble_eq_true rfl) (by show 0 + 1 + 264 + 1 + 1 + 1 + 1 + 1 + 1 + 1 + 1 + 1 + 1 ≤ 600086; omega) (by show 0 + 13 + 5693 + 28 + 64 + 21 + 50 + 50 + 50 + 50 + 50 + 12 + 2 ≤ 7301442; omega) hf dL_law_61 (fun q_168 σ_169 d_170 ad_171 H hf hext_173 E_172 G => ?_)
  have ha_174 := (hext_173 _ hc_158).symm
  rw [ha_174] at hl
  have ha_175 := (hext_173 _ hc_159).symm
  rw [ha_175] at hl
  have ha_176 := (hext_173 _ hc_160).symm
  rw [ha_176] at hl
  have ha_177 := (hext_173 _ hc_161).symm
  rw [ha_177] at hl
  have ha_178 := (hext_173 _ hc_162).symm
  rw [ha_178] at hl
  have ha_179 := (hext_173 _ hc_163).symm
  rw [ha_179] at hl
  have ha_180 := (hext_173 _ hc_164).symm
  rw [ha_180] at hl
  have ha_181 := (hext_173 _ hc_165).symm
  rw [ha_181] at hl
  have ha_182 := (hext_173 _ hc_166).symm
  rw [ha_182] at hl
  have ha_183 := (hext_173 _ hc_167).symm
  rw [ha_183] at hl
  refine lv_astore (lv' := [(11, .ref (ad_171 q_168)), (10, .ref (ad_171 q_143)), (9, .ref (ad_171 q_120)), (8, .ref (ad_171 q_99)), (7, .ref (ad_171 q_80)), (6, .ref (ad_171 q_63)), (5, .ref (ad_171 q_48)), (4, .ref (ad_171 q_35)), (3, .ref (ad_171 q_24)), (2, .ref (ad_171 q_15)), (1, .ref (ad_171 q_1)), (0, .ref b)]) hx hb dL_law_63 hl (by decide) rfl (fun ls hl => ?_)
  refine lv_bipush (v := (12 : Int32)) hx hb dL_law_65 (by decide) ?_
  obtain ⟨hc_184, hf⟩ := aw_chk_some hf
  obtain ⟨hc_185, hf⟩ := aw_chk_some hf
  obtain ⟨hc_186, hf⟩ := aw_chk_some hf
  obtain ⟨hc_187, hf⟩ := aw_chk_some hf
  obtain ⟨hc_188, hf⟩ := aw_chk_some hf
  obtain ⟨hc_189, hf⟩ := aw_chk_some hf
  obtain ⟨hc_190, hf⟩ := aw_chk_some hf
  obtain ⟨hc_191, hf⟩ := aw_chk_some hf
  obtain ⟨hc_192, hf⟩ := aw_chk_some hf
  obtain ⟨hc_193, hf⟩ := aw_chk_some hf
  obtain ⟨hc_194, hf⟩ := aw_chk_some hf
  refine aw_newA (atype := .long) (t := 21) (ty := .long) (N := 12) X G E_172 rfl m_218 (by decide) rfl (fun _ _ h => h) (by decide) (by decide) (fun _ => rfl) (aw_a0l 12) (Nat.le_of_ble_eq_true rfl) (by show 0 + 1 + 264 + 1 + 1 + 1 + 1 + 1 + 1 + 1 + 1 + 1 + 1 + 1 ≤ 600086; omega) (by show 0 + 13 + 5693 + 28 + 64 + 21 + 50 + 50 + 50 + 50 + 50 + 12 + 2 + 12 ≤ 7301442; omega) hf dL_law_67 (fun q_195 σ_196 d_197 ad_198 H hf hext_200 E_199 G => ?_)
  have ha_201 := (hext_200 _ hc_184).symm
  rw [ha_201] at hl
  have ha_202 := (hext_200 _ hc_185).symm
  rw [ha_202] at hl
  have ha_203 := (hext_200 _ hc_186).symm
  rw [ha_203] at hl
  have ha_204 := (hext_200 _ hc_187).symm
  rw [ha_204] at hl
  have ha_205 := (hext_200 _ hc_188).symm
  rw [ha_205] at hl
  have ha_206 := (hext_200 _ hc_189).symm
  rw [ha_206] at hl
  have ha_207 := (hext_200 _ hc_190).symm
  rw [ha_207] at hl
  have ha_208 := (hext_200 _ hc_191).symm
  rw [ha_208] at hl
  have ha_209 := (hext_200 _ hc_192).symm
  rw [ha_209] at hl
  have ha_210 := (hext_200 _ hc_193).symm
  rw [ha_210] at hl
  have ha_211 := (hext_200 _ hc_194).symm
  rw [ha_211] at hl
  refine lv_astore (lv' := [(12, .ref (ad_198 q_195)), (11, .ref (ad_198 q_168)), (10, .ref (ad_198 q_143)), (9, .ref (ad_198 q_120)), (8, .ref (ad_198 q_99)), (7, .ref (ad_198 q_80)), (6, .ref (ad_198 q_63)), (5, .ref (ad_198 q_48)), (4, .ref (ad_198 q_35)), (3, .ref (ad_198 q_24)), (2, .ref (ad_198 q_15)), (1, .ref (ad_198 q_1)), (0, .ref b)]) hx hb dL_law_69 hl (by decide) rfl (fun ls hl => ?_)
  refine lv_bipush (v := (12 : Int32)) hx hb dL_law_71 (by decide) ?_
  obtain ⟨hc_212, hf⟩ := aw_chk_some hf
  obtain ⟨hc_213, hf⟩ := aw_chk_some hf
  obtain ⟨hc_214, hf⟩ := aw_chk_some hf
  obtain ⟨hc_215, hf⟩ := aw_chk_some hf
  obtain ⟨hc_216, hf⟩ := aw_chk_some hf
  obtain ⟨hc_217, hf⟩ := aw_chk_some hf
  obtain ⟨hc_218, hf⟩ := aw_chk_some hf
  obtain ⟨hc_219, hf⟩ := aw_chk_some hf
  obtain ⟨hc_220, hf⟩ := aw_chk_some hf
  obtain ⟨hc_221, hf⟩ := aw_chk_some hf
  obtain ⟨hc_222, hf⟩ := aw_chk_some hf
  obtain ⟨hc_223, hf⟩ := aw_chk_some hf
  refine aw_newA (atype := .long) (t := 21) (ty := .long) (N := 12) X G E_199 rfl m_218 (by decide) rfl (fun _ _ h => h) (by decide) (by decide) (fun _ => rfl) (aw_a0l 12) (Nat.le_of_ble_eq_true rfl) (by show 0 + 1 + 264 + 1 + 1 + 1 + 1 + 1 + 1 + 1 + 1 + 1 + 1 + 1 + 1 ≤ 600086; omega) (by show 0 + 13 + 5693 + 28 + 64 + 21 + 50 + 50 + 50 + 50 + 50 + 12 + 2 + 12 + 12 ≤ 7301442; omega) hf dL_law_73 (fun q_224 σ_225 d_226 ad_227 H hf hext_229 E_228 G => ?_)
  have ha_230 := (hext_229 _ hc_212).symm
  rw [ha_230] at hl
  have ha_231 := (hext_229 _ hc_213).symm
  rw [ha_231] at hl
  have ha_232 := (hext_229 _ hc_214).symm
  rw [ha_232] at hl
  have ha_233 := (hext_229 _ hc_215).symm
  rw [ha_233] at hl
  have ha_234 := (hext_229 _ hc_216).symm
  rw [ha_234] at hl
  have ha_235 := (hext_229 _ hc_217).symm
  rw [ha_235] at hl
  have ha_236 := (hext_229 _ hc_218).symm
  rw [ha_236] at hl
  have ha_237 := (hext_229 _ hc_219).symm
  rw [ha_237] at hl
  have ha_238 := (hext_229 _ hc_220).symm
  rw [ha_238] at hl
  have ha_239 := (hext_229 _ hc_221).symm
  rw [ha_239] at hl
  have ha_240 := (hext_229 _ hc_222).symm
  rw [ha_240] at hl
  have ha_241 := (hext_229 _ hc_223).symm
  rw [ha_241] at hl
  refine lv_astore (lv' := [(13, .ref (ad_227 q_224)), (12, .ref (ad_227 q_195)), (11, .ref (ad_227 q_168)), (10, .ref (ad_227 q_143)), (9, .ref (ad_227 q_120)), (8, .ref (ad_227 q_99)), (7, .ref (ad_227 q_80)), (6, .ref (ad_227 q_63)), (5, .ref (ad_227 q_48)), (4, .ref (ad_227 q_35)), (3, .ref (ad_227 q_24)), (2, .ref (ad_227 q_15)), (1, .ref (ad_227 q_1)), (0, .ref b)]) hx hb dL_law_75 hl (by decide) rfl (fun ls hl => ?_)
  refine lv_iconst (v := (0 : Int32)) hx hb dL_law_77 (by decide) ?_
  refine lv_istore (lv' := [(14, .int ((0 : Int32))), (13, .ref (ad_227 q_224)), (12, .ref (ad_227 q_195)), (11, .ref (ad_227 q_168)), (10, .ref (ad_227 q_143)), (9, .ref (ad_227 q_120)), (8, .ref (ad_227 q_99)), (7, .ref (ad_227 q_80)), (6, .ref (ad_227 q_63)), (5, .ref (ad_227 q_48)), (4, .ref (ad_227 q_35)), (3, .ref (ad_227 q_24)), (2, .ref (ad_227 q_15)), (1, .ref (ad_227 q_1)), (0, .ref b)]) hx hb dL_law_78 hl (by decide) rfl (fun ls hl => ?_)
  refine w_L_law_L80 X hst hX hbl aw_FU hf ⟨by omega, by omega⟩  (fun σ_246 d_245 hf ad_247 E_248 cells slots hB H locs ls hl G => ?_) E_228 (lv_sub hl [14, 13, 12, 11, 10, 9, 8, 7, 6, 5, 4, 3, 2, 1, 0] rfl) G
  refine lv_aload_n hx hb dL_law_138 rfl (lv_at hl 1 rfl) ?_
  refine lv_bipush (v := (12 : Int32)) hx hb dL_law_139 (by decide) ?_
  refine lv_iconst (v := (0 : Int32)) hx hb dL_law_141 (by decide) ?_
  refine lv_iconst (v := (0 : Int32)) hx hb dL_law_142 (by decide) ?_
  refine lv_iconst (v := (0 : Int32)) hx hb dL_law_143 (by decide) ?_
  refine lv_iconst (v := (0 : Int32)) hx hb dL_law_144 (by decide) ?_
  refine lv_iconst (v := (0 : Int32)) hx hb dL_law_145 (by decide) ?_
  obtain ⟨z_249, hz_250, hf⟩ := aw_bind_some hf
  refine aw_WI2 (As := [.ref (ad_247 q_1), .int ((12 : Int32)), .int ((0 : Int32)), .int ((0 : Int32)), .int ((0 : Int32)), .int ((0 : Int32)), .int ((0 : Int32))]) (rest := []) X G hl.1 cr_L_123 (c_L_does_12 l hst hz_250) rfl rfl rfl ⟨(Nat.le_of_ble_eq_true rfl), (Nat.le_of_ble_eq_true rfl)⟩ (Nat.le_of_ble_eq_true rfl) dL_law_146 1 6 ⟨(Nat.le_of_ble_eq_true rfl), (Nat.le_of_ble_eq_true rfl)⟩ ⟨by show cells + 1 ≤ 600086; omega, by show slots + 6 ≤ 7301442; omega⟩ (fun H locs G => ?_)
  refine lv_ldc (v := (-1000000 : Int32)) hx hb hown (G.1.hts _ m_761) dL_law_149 ?_
  refine lv_icmp_ne (tgt := 238) hx hb dL_law_151 (by decide) (fun hc => ?_) (fun hc => ?_)
  · have hf := aw_ite_f hc hf
    exact w_L_law_J238 X hst hX hbl hf ⟨by omega, by omega⟩  E_248 (lv_sub hl [0, 1, 2, 3, 4, 5, 6, 7, 8, 9, 10, 11, 12, 13] rfl) G
  · have hf := aw_ite_t hc hf
    refine lv_aload_n hx hb dL_law_154 rfl (lv_at hl 1 rfl) ?_
    refine lv_iconst (v := (1 : Int32)) hx hb dL_law_155 (by decide) ?_
    refine lv_sipush (v := (1000 : Int32)) hx hb dL_law_156 (by decide) ?_
    refine lv_iconst (v := (0 : Int32)) hx hb dL_law_159 (by decide) ?_
    refine lv_iconst (v := (0 : Int32)) hx hb dL_law_160 (by decide) ?_
    refine lv_iconst (v := (0 : Int32)) hx hb dL_law_161 (by decide) ?_
    refine lv_iconst (v := (0 : Int32)) hx hb dL_law_162 (by decide) ?_
    obtain ⟨z_339, hz_340, hf⟩ := aw_bind_some hf
    refine aw_WI2 (As := [.ref (ad_247 q_1), .int ((1 : Int32)), .int ((1000 : Int32)), .int ((0 : Int32)), .int ((0 : Int32)), .int ((0 : Int32)), .int ((0 : Int32))]) (rest := []) X G hl.1 cr_L_123 (c_L_does_1 l hst hz_340) rfl rfl rfl ⟨(Nat.le_of_ble_eq_true rfl), (Nat.le_of_ble_eq_true rfl)⟩ (Nat.le_of_ble_eq_true rfl) dL_law_163 1 6 ⟨(Nat.le_of_ble_eq_true rfl), (Nat.le_of_ble_eq_true rfl)⟩ ⟨by show cells + 1 + 1 ≤ 600086; omega, by show slots + 6 + 6 ≤ 7301442; omega⟩ (fun H locs G => ?_)
    refine lv_ldc (v := (-2000000 : Int32)) hx hb hown (G.1.hts _ m_760) dL_law_166 ?_
    refine lv_icmp_ne (tgt := 238) hx hb dL_law_168 (by decide) (fun hc => ?_) (fun hc => ?_)
    · have hf := aw_ite_f hc hf
      exact w_L_law_J238 X hst hX hbl hf ⟨by omega, by omega⟩  E_248 (lv_sub hl [0, 1, 2, 3, 4, 5, 6, 7, 8, 9, 10, 11, 12, 13] rfl) G
    · have hf := aw_ite_t hc hf
      refine lv_aload_n hx hb dL_law_171 rfl (lv_at hl 1 rfl) ?_
      refine lv_iconst (v := (1 : Int32)) hx hb dL_law_172 (by decide) ?_
      refine lv_iconst (v := (1 : Int32)) hx hb dL_law_173 (by decide) ?_
      refine lv_iconst (v := (0 : Int32)) hx hb dL_law_174 (by decide) ?_
      refine lv_iconst (v := (0 : Int32)) hx hb dL_law_175 (by decide) ?_
      refine lv_iconst (v := (0 : Int32)) hx hb dL_law_176 (by decide) ?_
      refine lv_iconst (v := (0 : Int32)) hx hb dL_law_177 (by decide) ?_
      obtain ⟨z_341, hz_342, hf⟩ := aw_bind_some hf
      refine aw_WI2 (As := [.ref (ad_247 q_1), .int ((1 : Int32)), .int ((1 : Int32)), .int ((0 : Int32)), .int ((0 : Int32)), .int ((0 : Int32)), .int ((0 : Int32))]) (rest := []) X G hl.1 cr_L_123 (c_L_does_1 l hst hz_342) rfl rfl rfl ⟨(Nat.le_of_ble_eq_true rfl), (Nat.le_of_ble_eq_true rfl)⟩ (Nat.le_of_ble_eq_true rfl) dL_law_178 1 6 ⟨(Nat.le_of_ble_eq_true rfl), (Nat.le_of_ble_eq_true rfl)⟩ ⟨by show cells + 1 + 1 + 1 ≤ 600086; omega, by show slots + 6 + 6 + 6 ≤ 7301442; omega⟩ (fun H locs G => ?_)
      refine lv_ldc (v := (-1000000 : Int32)) hx hb hown (G.1.hts _ m_761) dL_law_181 ?_
      refine lv_icmp_ne (tgt := 238) hx hb dL_law_183 (by decide) (fun hc => ?_) (fun hc => ?_)
      · have hf := aw_ite_f hc hf
        exact w_L_law_J238 X hst hX hbl hf ⟨by omega, by omega⟩  E_248 (lv_sub hl [0, 1, 2, 3, 4, 5, 6, 7, 8, 9, 10, 11, 12, 13] rfl) G
      · have hf := aw_ite_t hc hf
        refine lv_aload_n hx hb dL_law_186 rfl (lv_at hl 1 rfl) ?_
        refine lv_bipush (v := (10 : Int32)) hx hb dL_law_187 (by decide) ?_
        refine lv_iconst (v := (0 : Int32)) hx hb dL_law_189 (by decide) ?_
        refine lv_iconst (v := (0 : Int32)) hx hb dL_law_190 (by decide) ?_
        refine lv_iconst (v := (0 : Int32)) hx hb dL_law_191 (by decide) ?_
        refine lv_iconst (v := (0 : Int32)) hx hb dL_law_192 (by decide) ?_
        refine lv_iconst (v := (0 : Int32)) hx hb dL_law_193 (by decide) ?_
        obtain ⟨z_343, hz_344, hf⟩ := aw_bind_some hf
        refine aw_WI2 (As := [.ref (ad_247 q_1), .int ((10 : Int32)), .int ((0 : Int32)), .int ((0 : Int32)), .int ((0 : Int32)), .int ((0 : Int32)), .int ((0 : Int32))]) (rest := []) X G hl.1 cr_L_123 (c_L_does_10 l hst hz_344) rfl rfl rfl ⟨(Nat.le_of_ble_eq_true rfl), (Nat.le_of_ble_eq_true rfl)⟩ (Nat.le_of_ble_eq_true rfl) dL_law_194 2 12 ⟨(Nat.le_of_ble_eq_true rfl), (Nat.le_of_ble_eq_true rfl)⟩ ⟨by show cells + 1 + 1 + 1 + 2 ≤ 600086; omega, by show slots + 6 + 6 + 6 + 12 ≤ 7301442; omega⟩ (fun H locs G => ?_)
        refine lv_ldc (v := (-3000000 : Int32)) hx hb hown (G.1.hts _ m_759) dL_law_197 ?_
        refine lv_icmp_ne (tgt := 238) hx hb dL_law_199 (by decide) (fun hc => ?_) (fun hc => ?_)
        · have hf := aw_ite_f hc hf
          exact w_L_law_J238 X hst hX hbl hf ⟨by omega, by omega⟩  E_248 (lv_sub hl [0, 1, 2, 3, 4, 5, 6, 7, 8, 9, 10, 11, 12, 13] rfl) G
        · have hf := aw_ite_t hc hf
          refine lv_aload_n hx hb dL_law_202 rfl (lv_at hl 1 rfl) ?_
          refine lv_bipush (v := (11 : Int32)) hx hb dL_law_203 (by decide) ?_
          refine lv_iconst (v := (0 : Int32)) hx hb dL_law_205 (by decide) ?_
          refine lv_iconst (v := (5 : Int32)) hx hb dL_law_206 (by decide) ?_
          refine lv_iconst (v := (0 : Int32)) hx hb dL_law_207 (by decide) ?_
          refine lv_iconst (v := (0 : Int32)) hx hb dL_law_208 (by decide) ?_
          refine lv_iconst (v := (0 : Int32)) hx hb dL_law_209 (by decide) ?_
          obtain ⟨z_345, hz_346, hf⟩ := aw_bind_some hf
          refine aw_WI2 (As := [.ref (ad_247 q_1), .int ((11 : Int32)), .int ((0 : Int32)), .int ((5 : Int32)), .int ((0 : Int32)), .int ((0 : Int32)), .int ((0 : Int32))]) (rest := []) X G hl.1 cr_L_123 (c_L_does_11 l hst hz_346) rfl rfl rfl ⟨(Nat.le_of_ble_eq_true rfl), (Nat.le_of_ble_eq_true rfl)⟩ (Nat.le_of_ble_eq_true rfl) dL_law_210 2 12 ⟨(Nat.le_of_ble_eq_true rfl), (Nat.le_of_ble_eq_true rfl)⟩ ⟨by show cells + 1 + 1 + 1 + 2 + 2 ≤ 600086; omega, by show slots + 6 + 6 + 6 + 12 + 12 ≤ 7301442; omega⟩ (fun H locs G => ?_)
          refine lv_ldc (v := (-3000000 : Int32)) hx hb hown (G.1.hts _ m_759) dL_law_213 ?_
          refine lv_icmp_ne (tgt := 238) hx hb dL_law_215 (by decide) (fun hc => ?_) (fun hc => ?_)
          · have hf := aw_ite_f hc hf
            exact w_L_law_J238 X hst hX hbl hf ⟨by omega, by omega⟩  E_248 (lv_sub hl [0, 1, 2, 3, 4, 5, 6, 7, 8, 9, 10, 11, 12, 13] rfl) G
          · have hf := aw_ite_t hc hf
            refine lv_aload_n hx hb dL_law_218 rfl (lv_at hl 1 rfl) ?_
            refine lv_bipush (v := (13 : Int32)) hx hb dL_law_219 (by decide) ?_
            refine lv_iconst (v := (0 : Int32)) hx hb dL_law_221 (by decide) ?_
            refine lv_iconst (v := (-1 : Int32)) hx hb dL_law_222 (by decide) ?_
            refine lv_iconst (v := (0 : Int32)) hx hb dL_law_223 (by decide) ?_
            refine lv_iconst (v := (0 : Int32)) hx hb dL_law_224 (by decide) ?_
            refine lv_iconst (v := (0 : Int32)) hx hb dL_law_225 (by decide) ?_
            obtain ⟨z_347, hz_348, hf⟩ := aw_bind_some hf
            refine aw_WI2 (As := [.ref (ad_247 q_1), .int ((13 : Int32)), .int ((0 : Int32)), .int ((-1 : Int32)), .int ((0 : Int32)), .int ((0 : Int32)), .int ((0 : Int32))]) (rest := []) X G hl.1 cr_L_123 (c_L_does_13 l hst hz_348) rfl rfl rfl ⟨(Nat.le_of_ble_eq_true rfl), (Nat.le_of_ble_eq_true rfl)⟩ (Nat.le_of_ble_eq_true rfl) dL_law_226 2 12 ⟨(Nat.le_of_ble_eq_true rfl), (Nat.le_of_ble_eq_true rfl)⟩ ⟨by show cells + 1 + 1 + 1 + 2 + 2 + 2 ≤ 600086; omega, by show slots + 6 + 6 + 6 + 12 + 12 + 12 ≤ 7301442; omega⟩ (fun H locs G => ?_)
            refine lv_ldc (v := (-3000000 : Int32)) hx hb hown (G.1.hts _ m_759) dL_law_229 ?_
            refine lv_icmp_ne (tgt := 238) hx hb dL_law_231 (by decide) (fun hc => ?_) (fun hc => ?_)
            · have hf := aw_ite_f hc hf
              exact w_L_law_J238 X hst hX hbl hf ⟨by omega, by omega⟩  E_248 (lv_sub hl [0, 1, 2, 3, 4, 5, 6, 7, 8, 9, 10, 11, 12, 13] rfl) G
            · have hf := aw_ite_t hc hf
              refine lv_iconst (v := (1 : Int32)) hx hb dL_law_234 (by decide) ?_
              refine lv_goto (tgt := 239) hx hb dL_law_235 (by decide) ?_
              exact w_L_law_J239 X hst hX hbl hf ⟨by omega, by omega⟩  E_248 (lv_sub hl [0, 1, 2, 3, 4, 5, 6, 7, 8, 9, 10, 11, 12, 13] rfl) G
set_option maxHeartbeats 4000000 in
theorem lw_walk (l : Launch) (hflags : l.flags = flags0) (b : Addr) (xs : List Int32) : MetFree l x (headSpec (Jvm.Cond.code x code maxLocals ret :: tables_1) room_1) (lw_P b xs) (fun _ _ _ _ _ => True) lw_Q := by
  refine MetFree.of_bodyS (code := code) (maxLocals := maxLocals) (ret := ret) (by decide) ?_ ?_
  · intro args s m h hn
    obtain ⟨meth, c, h1, h2, h3, h4, h5, h6, -, -⟩ := Cond.code_spec hn (atoms_spec (ws := Jvm.Cond.code x code maxLocals ret :: tables_1) h _ List.mem_cons_self)
    exact ⟨meth, c, h1, h2, h3, h4, h5, h6⟩
  · intro p e s m args below meth c s₁ B hml0 hP _
    obtain ⟨rfl, hx, hbd, hgv⟩ := hP
    obtain ⟨scr, harrAt, hlist, hof, hsmall⟩ := hx
    obtain ⟨hcb, hkn, -, -⟩ := State.arrayAt?_spec harrAt
    have hown : s.vm.findClass R_law = some m.cls := findClass_of_methodNamed B.named
    have hts0 : ∀ c ∈ (Jvm.Cond.code x code maxLocals ret :: tables_1), c.before #[Value.ref b] s = true := atoms_spec (ws := Jvm.Cond.code x code maxLocals ret :: tables_1) B.pre
    have hts : ∀ w ∈ lw_tbl, w.before #[Value.ref b] s = true := k2_hts_sels lw_privs (fun w hw => hts0 w (List.mem_cons_of_mem _ hw)) lw_privs_ok
    have hml : c.maxLocals = 20 := B.maxLocals_eq (hts0 _ List.mem_cons_self)
    have X₀ : Stand p l e room_1 s m #[Value.ref b] below meth c s₁ [] 0 0 := Stand.of_body B
    have hh0 : s₁.heap = s.heap := by rw [B.state]; rfl
    have hsz : scr.slots.size = xs.length := by rw [← Array.length_toList, hlist, List.length_map]
    have hval : ∀ j : Nat, j < xs.length → scr.slots[j]? = some (.int (xs.getD j 0)) := fun j hj => by
      rw [← Array.getElem?_toList, hlist]
      simp [hj]
    have hbl : b < s.heap.size := (Array.getElem?_eq_some_iff.mp hcb).1
    have hX : va_X b xs.length (fun j => xs.getD j 0) s s.heap := ⟨scr, hcb, hof, hkn, hsz, hval⟩
    have K : W p l e room_1 s m #[Value.ref b] below meth c s₁.heap [] 0 0 (lw_Z below #[Value.ref b] s) (entryFrame m ([Value.ref b] : List Value).toArray 20) := by
      rw [hh0]
      exact whole_start l hflags hbd ⟨B.exec, B.bytes, B.returns, hml, hown, hts, hX, hbl, B.notSynchronized, hgv⟩
    obtain ⟨t, a1, o, b1, b2, b3⟩ := K s₁ rfl X₀
    exact ⟨t, o, a1, b1, b2, b3⟩
theorem lw_pre_spec {args : Array Value} {s : State} (h : (Jvm.Cond.and given_1 narrow_1).before args s = true) (hr : rest_1_c.before args s = true) : ∃ (b : Addr) (xs : List Int32), lw_P b xs args s := by
  have hs := flat_of_before _ h
  have hq := flat_of_before _ hr
  have hc : (Cond.count 1).before args s = true := hs _ (by decide +kernel)
  have harr : (Cond.arrayOf (.arg 0) .int).before args s = true := hs _ (by decide +kernel)
  have hle : (Cond.le (.length (.arg 0)) (.int 260)).before args s = true := hs _ (by decide +kernel)
  have hlen : (Cond.isInt (.length (.arg 0))).before args s = true := hq _ (by decide +kernel)
  have hall : (Cond.all (.arg 0) (.isInt (.elem (.arg 0) (.index 0)))).before args s = true := hq _ (by decide +kernel)
  obtain ⟨b, xs, hb, hx⟩ := State.ints_of_pre rfl harr hlen hall
  have hsm : xs.length < 2 ^ 31 := hx.choose_spec.2.2.2
  have hev : (Term.length (.arg 0)).eval args s none [] s = some (.int xs.length.toInt32) := hx.length_eval hb
  have hv := Cond.le_ints hev (show (Term.int 260).eval args s none [] s = some (.int 260) from rfl)
  have hd : xs.length.toInt32 ≤ 260 := by
    simpa [Cond.before, Cond.holds, hv] using hle
  have hN : xs.length ≤ 260 := (Int32.ofNat_le_ofNat hsm (by decide)).mp (show Int32.ofNat xs.length ≤ Int32.ofNat 260 from hd)
  exact ⟨b, xs, Cond.one_arg hc (show args[0]? = some (.ref b) from hb), hx, hN, h⟩
theorem lw_comes (l : Launch) (hflags : l.flags = flags0) : Comes l x (Jvm.Cond.code x code maxLocals ret :: tables_1) room_1 (fun tb e args s => Calls_1 tb e args s ∧ rest_1 tb e args s ∧ Pre_1 tb e args s)
    (fun _ _ args s o t => lw_Q args s o t) := by
  intro p e ha hc hk s m args below hf hfit hheap happ hpre
  obtain ⟨b, xs, hP⟩ := lw_pre_spec hpre.2.2 hpre.2.1
  obtain ⟨k, o, h1, h2, h3, hQ⟩ := lw_walk l hflags b xs p e ha hc hk s m args below hf ((Spec.applies_iff_loose hf).mp happ).1 hP trivial
  exact ⟨k, o, h1, h2, h3, hQ⟩
theorem lw_frame {s t : State} {o : Outcome} {args : Array Value} (h : Framed s o t [] 600086 7301442) :
    Framed s o t (fieldLocs frame_1_writes args s ++ arrayLocs frame_1_arrays args s ++ staticLocs frame_1_statics s) 600086 7301442 := h
theorem lw_limb (L : Cond) (hL : ∀ (args : Array Value) (s t : State), L.after args s (.returned (some (.int 1))) t = true) :
    ArmFor flags0 classFile x code maxLocals ret World_1 tables_1 room_1 Calls_1 rest_1 Pre_1
      (fun tb e a s o t => postC L tb e a s o t ∧ Framed s o t (fieldLocs frame_1_writes a s ++ arrayLocs frame_1_arrays a s ++ staticLocs frame_1_statics s) 600086 7301442) := by
  intro l hflags _ _ p e ha hc hk s m args below hf hfit hheap happ hpre
  obtain ⟨k, o, h1, h2, h3, rfl, hF⟩ := lw_comes l hflags p e ha hc hk s m args below hf hfit hheap happ hpre
  exact ⟨k, _, h1, h2, h3, hL args s _, lw_frame hF⟩
theorem i_vc : Claimed_1_1 ∧ Claimed_1_2 := ⟨lw_limb limb_1_1 (fun args s t => by simp [limb_1_1, Cond.after, Cond.holds, Cond.value]), lw_limb limb_1_2 (fun args s t => Cond.after_iff.mpr (by
  first | (rw [show limb_1_2 = Cond.eq .result (.int 1) from rfl, Cond.eq_ints (x := 1) (y := 1) rfl rfl]; simp; done) | (simp [limb_1_2, Cond.value, Term.eval]; done)))⟩
