section START
theorem aw_cls {s : State} {args : Array Value} (h : ∀ w ∈ aw_tbl, w.before args s = true) (k : Nat) : ∃ y : ClassId × (Nat → Nat), ∀ q : vw_C, vwCl[k]? = some q → u_Kn s q.1 q.2.1 q.2.2 y.1 y.2 := by
  match k with
  | 0 =>
    obtain ⟨c, iS, hk⟩ := u_known (C := RX0) (T := TX0) (N := 7) (n := 7) h inaX0 (h _ m_136)
    exact ⟨(c, iS), fun q hq => by cases hq; exact hk⟩
  | 1 =>
    obtain ⟨c, iS, hk⟩ := u_known (C := RX1) (T := TX1) (N := 5) (n := 5) h inaX1 (h _ m_501)
    exact ⟨(c, iS), fun q hq => by cases hq; exact hk⟩
  | 2 =>
    obtain ⟨c, iS, hk⟩ := u_known (C := RX2) (T := TX2) (N := 8) (n := 8) h inaX2 (h _ m_55)
    exact ⟨(c, iS), fun q hq => by cases hq; exact hk⟩
  | 3 =>
    obtain ⟨c, iS, hk⟩ := u_known (C := RX3) (T := TX3) (N := 1) (n := 1) h inaX3 (h _ m_258)
    exact ⟨(c, iS), fun q hq => by cases hq; exact hk⟩
  | 4 =>
    obtain ⟨c, iS, hk⟩ := u_known (C := RX4) (T := TX4) (N := 8) (n := 8) h inaX4 (h _ m_224)
    exact ⟨(c, iS), fun q hq => by cases hq; exact hk⟩
  | 5 =>
    obtain ⟨c, iS, hk⟩ := u_known (C := RX5) (T := TX5) (N := 6) (n := 6) h inaX5 (h _ m_195)
    exact ⟨(c, iS), fun q hq => by cases hq; exact hk⟩
  | 6 =>
    obtain ⟨c, iS, hk⟩ := u_known (C := RX6) (T := TX6) (N := 4) (n := 4) h inaX6 (h _ m_98)
    exact ⟨(c, iS), fun q hq => by cases hq; exact hk⟩
  | 7 =>
    obtain ⟨c, iS, hk⟩ := u_known (C := RX7) (T := TX7) (N := 3) (n := 3) h inaX7 (h _ m_170)
    exact ⟨(c, iS), fun q hq => by cases hq; exact hk⟩
  | 8 =>
    obtain ⟨c, iS, hk⟩ := u_known (C := RX8) (T := TX8) (N := 1) (n := 1) h inaX8 (h _ m_104)
    exact ⟨(c, iS), fun q hq => by cases hq; exact hk⟩
  | 9 =>
    obtain ⟨c, iS, hk⟩ := u_known (C := RX9) (T := TX9) (N := 4) (n := 4) h inaX9 (h _ m_31)
    exact ⟨(c, iS), fun q hq => by cases hq; exact hk⟩
  | 10 =>
    obtain ⟨c, iS, hk⟩ := u_known (C := RX10) (T := TX10) (N := 13) (n := 13) h inaX10 (h _ m_23)
    exact ⟨(c, iS), fun q hq => by cases hq; exact hk⟩
  | 11 =>
    obtain ⟨c, iS, hk⟩ := u_known (C := RX11) (T := TX11) (N := 32) (n := 32) h inaX11 (h _ m_1010)
    exact ⟨(c, iS), fun q hq => by cases hq; exact hk⟩
  | k + 12 => exact ⟨(0, fun _ => 0), fun q hq => by simp [vwCl] at hq⟩
theorem aw_arrp {s : State} {args : Array Value} {ty : FieldType} (h : (Cond.arrayClass ty).before args s = true) : ∃ c : ClassId, ArrOfT s c ty ∧ s.vm.findClass ("[" ++ ty.toString) = some c := by
  obtain ⟨c, k, comp, h1, h2, h3⟩ := Cond.arrayClass_spec h
  exact ⟨c, fun _ _ => ⟨(fun _ h => by cases h), k, h2, comp, h3⟩, h1⟩
theorem aw_arra {s : State} {ty : FieldType} (h : va_AOA ty s) : ∃ c : ClassId, ArrOfT s c (.array ty) ∧ s.vm.findClass ("[" ++ (FieldType.array ty).toString) = some c := by
  obtain ⟨comp, c, k, -, -, h2, h3, h4⟩ := h.spec
  exact ⟨c, fun _ _ => ⟨(fun _ h => by cases h), k, h2, comp, h3⟩, h4⟩
theorem aw_arro {s : State} {C : String} (h : va_AO C s) : ∃ c : ClassId, ArrOfT s c (.object C) ∧ va_RA s c (.object C) := by
  obtain ⟨comp, c, k, h1, -, h2, h3, h4⟩ := Cond.arrayOver_spec h
  exact ⟨c, fun _ _ => ⟨(fun _ h => by cases h), k, h2, comp, h3⟩, k, comp, h2, h3, h1, h4⟩
set_option maxRecDepth 100000 in
theorem aw_st1 : ∀ q ∈ aw_strs, Cond.stringRef q.1 q.2.1 q.2.2 ∈ lw_tbl := by decide +kernel
set_option maxRecDepth 100000 in
theorem aw_st2 : ∀ q ∈ aw_strs, Cond.exactly (.string q.1 q.2.1) "java/lang/String" ∈ flatC (Jvm.Cond.and given_1 narrow_1) := by decide +kernel
set_option maxRecDepth 100000 in
theorem aw_st3 : ∀ q ∈ aw_exs, Cond.castable q q ∈ lw_tbl := by decide +kernel
set_option maxRecDepth 100000 in
theorem aw_st4 : ∀ q ∈ aw_exs, ∀ r ∈ aw_exs, q ≠ r → Cond.not (.castable q r) ∈ flatC (Jvm.Cond.and given_1 narrow_1) := by decide +kernel
set_option maxRecDepth 100000 in
theorem aw_st5 : Cond.isRef (.static Bundle.tN "UNASSIGNED_STACK" Bundle.steD) ∈ flatC (Jvm.Cond.and given_1 narrow_1) ∧ Cond.isRef (.static Bundle.tN "SUPPRESSED_SENTINEL" Bundle.listD) ∈ flatC (Jvm.Cond.and given_1 narrow_1) := by decide +kernel
set_option maxRecDepth 100000 in
theorem aw_st6 : Cond.laysStatic Bundle.tN "UNASSIGNED_STACK" Bundle.steD ∈ lw_tbl ∧ Cond.laysStatic Bundle.tN "SUPPRESSED_SENTINEL" Bundle.listD ∈ lw_tbl ∧ Cond.initialized Bundle.tN ∈ lw_tbl := by decide +kernel
set_option maxRecDepth 100000 in
theorem aw_st7 : Cond.arrayOver (.object "Letterforge$Dialect") ∈ lw_tbl ∧ Cond.arrayOver (.object "Letterforge$Design") ∈ lw_tbl ∧ Cond.arrayOver (.array .int) ∈ lw_tbl ∧ Cond.arrayOver (.array .long) ∈ lw_tbl ∧ Cond.arrayClass .int ∈ lw_tbl ∧ Cond.arrayClass .long ∈ lw_tbl ∧ Cond.arrayClass .boolean ∈ lw_tbl := by decide +kernel
theorem aw_T0 {s : State} {b : Nat} (hts : ∀ w ∈ lw_tbl, w.before #[Value.ref b] s = true) (hgv : (Jvm.Cond.and given_1 narrow_1).before #[Value.ref b] s = true) : aw_T s.heap.size s := by
  have hs := flat_of_before _ hgv
  refine ⟨fun w hw => aw_word (State.WarmedH.refl s) (List.mem_filter.mp hw).2 (hts w (List.mem_filter.mp hw).1), vx_Zqof (hts _ aw_st6.1) (hts _ aw_st6.2.2) (hs _ aw_st5.1) (fun a ha => Nat.not_le.mpr ha), vx_Zqof (hts _ aw_st6.2.1) (hts _ aw_st6.2.2) (hs _ aw_st5.2) (fun a ha => Nat.not_le.mpr ha), fun q hq => ?_, ⟨va_AO.of (hts _ aw_st7.1), va_AO.of (hts _ aw_st7.2.1), hts _ aw_st7.2.2.1, hts _ aw_st7.2.2.2.1⟩, Nat.le_refl _, fun q hq => va_Nw.of rfl (hts _ (aw_st3 q hq)), fun q hq r hr hqr => va_Nc.of (hs _ (aw_st4 q hq r hr hqr))⟩
  obtain ⟨a, c, cell, k, q1, -⟩ := Cond.exactly_spec (args := #[Value.ref b]) (first := s) (o := none) (s := s) (idx := []) (hs _ (aw_st2 q hq))
  exact ⟨a, vk_R.of (A := #[Value.ref b]) (hts _ (aw_st1 q hq)) q1⟩
theorem aw_K0 {s : State} {b : Nat} (hts : ∀ w ∈ lw_tbl, w.before #[Value.ref b] s = true) : ∃ (D : va_G) (cA : Nat → ClassId), va_K D vwCl (aw_tys cA) s := by
  have ht : ∀ w ∈ aw_tbl, w.before #[Value.ref b] s = true := fun w hw => hts w (List.mem_filter.mp hw).1
  obtain ⟨F, hF⟩ := Classical.axiomOfChoice (aw_cls ht)
  obtain ⟨c0, a0, r0⟩ := aw_arrp (hts _ aw_st7.2.2.2.2.1)
  obtain ⟨c1, a1, r1⟩ := aw_arrp (hts _ aw_st7.2.2.2.2.2.1)
  obtain ⟨c2, a2, r2⟩ := aw_arrp (hts _ aw_st7.2.2.2.2.2.2)
  obtain ⟨c3, a3, r3⟩ := aw_arra (show va_AOA .int s from hts _ aw_st7.2.2.1)
  obtain ⟨c4, a4, r4⟩ := aw_arra (show va_AOA .long s from hts _ aw_st7.2.2.2.1)
  obtain ⟨c5, a5, r5⟩ := aw_arro (va_AO.of (hts _ aw_st7.1))
  obtain ⟨c6, a6, r6⟩ := aw_arro (va_AO.of (hts _ aw_st7.2.1))
  refine ⟨(fun k => (F k).1, fun k => (F k).2), fun k => if k = 20 then c0 else if k = 21 then c1 else if k = 22 then c2 else if k = 23 then c3 else if k = 24 then c4 else if k = 25 then c5 else c6, fun k q hq => hF k q hq, fun k q hq => ?_⟩
  match k, hq with
  | 0, hq => cases hq; exact ⟨a0, r0⟩
  | 1, hq => cases hq; exact ⟨a1, r1⟩
  | 2, hq => cases hq; exact ⟨a2, r2⟩
  | 3, hq => cases hq; exact ⟨a3, r3⟩
  | 4, hq => cases hq; exact ⟨a4, r4⟩
  | 5, hq => cases hq; exact ⟨a5, r5⟩
  | 6, hq => cases hq; exact ⟨a6, r6⟩
  | k + 7, hq => simp [aw_tys] at hq
end START
set_option maxHeartbeats 4000000 in
set_option maxRecDepth 100000 in
theorem whole_start {p : Program} {e : Env} {s : State} {m : MethodId} {below : List Frame} {meth : Method} {c : Code} (l : Launch) (hflags : l.flags = flags0) {b L : Nat} {xs : Nat → Int32} (hL : L ≤ 3072) (C0 : lw_At p s m meth c b L xs) : W p l e room_1 s m #[Value.ref b] below meth c s.heap [] 0 0 (lw_Z below #[Value.ref b] s) (entryFrame m ([Value.ref b] : List Value).toArray 8) := by
  have hst : l.stackTraces = false := by unfold Launch.stackTraces; rw [hflags]; decide
  obtain ⟨hx, hb, hr, hml, hown, hts, hX, hbl, hlocks, hgv⟩ := id C0
  have hml : c.maxLocals = 8 := hml
  have X : aw_X p c cL_law 8 s RL m meth ret := ⟨hx, hb, hml, hown, hr, hlocks⟩
  obtain ⟨D, cA, hK⟩ := aw_K0 hts
  have G : aw_G D cA s.heap.size (fun _ => 0) aw_s0 aw_d0 s s.heap [] := ⟨aw_T0 hts hgv, hK, fun k q h => by simp [aw_ws, aw_s0] at h, ⟨fun i j p q h => by simp [aw_ws, aw_s0] at h, fun k q h => by simp [aw_ws, aw_s0] at h⟩, va_S.rf⟩
  have E : aw_ext aw_s0 (fun _ => 0) aw_s0 (fun _ => 0) := ⟨Nat.le_refl _, fun _ _ => rfl, fun k hk => absurd hk (Nat.not_lt_zero k)⟩
  have hf := law_one xs L hL
  have hl := lv_entry ([.ref b]) (n := 8) (Nat.le_of_ble_eq_true rfl)
  rw [lg_entry_eq]
  generalize (lg_sl ([.ref b]) ++ List.replicate (8 - (lg_sl ([.ref b])).length) Slot.unset).toArray = ls at hl ⊢
  have hl : lv_has ls 8 [(0, .ref b)] := hl
  unfold f_law at hf
  refine aw_newO (ci := 10) (C := RX10) (T := TX10) (N := 13) X G E (by decide) tyX10 tyX10_ok rfl inaX10 m_22 m_23 m_1 dzX10 (Nat.le_of_ble_eq_true rfl) (Nat.le_of_ble_eq_true rfl) hf dL_law_0 (fun q_1 σ_2 d_3 ad_4 H hf hext_6 E_5 G => ?_)
  refine lv_dup hx hb dL_law_3 rfl ?_
  obtain ⟨hc_7, hf⟩ := aw_chk_some hf
  obtain ⟨z_8, hz_9, hf⟩ := aw_bind_some hf
  refine aw_IN (As := []) (rest := [.ref (ad_4 q_1)]) X G E_5 hl.1 cr_L_114 (c_X10_init l hz_9) rfl rfl rfl ⟨Nat.le_of_ble_eq_true rfl, Nat.le_of_ble_eq_true rfl⟩ (Nat.le_of_ble_eq_true rfl) dL_law_4 ⟨Nat.le_of_ble_eq_true rfl, Nat.le_of_ble_eq_true rfl⟩ (fun ad_10 H locs hext_12 E_11 G => ?_)
  have ha_13 := (hext_12 _ hc_7).symm
  rw [ha_13]
  refine lv_astore_n (lv' := [(1, .ref (ad_10 q_1)), (0, .ref b)]) hx hb dL_law_7 rfl hl (by decide) rfl (fun ls hl => ?_)
  obtain ⟨hc_14, hf⟩ := aw_chk_some hf
  refine aw_newO (ci := 11) (C := RX11) (T := TX11) (N := 32) X G E_11 (by decide) tyX11 tyX11_ok rfl inaX11 m_1009 m_1010 m_11 dzX11 (Nat.le_of_ble_eq_true rfl) (Nat.le_of_ble_eq_true rfl) hf dL_law_8 (fun q_15 σ_16 d_17 ad_18 H hf hext_20 E_19 G => ?_)
  have ha_21 := (hext_20 _ hc_14).symm
  rw [ha_21] at hl
  refine lv_dup hx hb dL_law_11 rfl ?_
  obtain ⟨hc_22, hf⟩ := aw_chk_some hf
  obtain ⟨hc_23, hf⟩ := aw_chk_some hf
  obtain ⟨z_24, hz_25, hf⟩ := aw_bind_some hf
  refine aw_IN (As := []) (rest := [.ref (ad_18 q_15)]) X G E_19 hl.1 cr_L_117 (c_X11_init l hz_25) rfl rfl rfl ⟨Nat.le_of_ble_eq_true rfl, Nat.le_of_ble_eq_true rfl⟩ (Nat.le_of_ble_eq_true rfl) dL_law_12 ⟨Nat.le_of_ble_eq_true rfl, Nat.le_of_ble_eq_true rfl⟩ (fun ad_26 H locs hext_28 E_27 G => ?_)
  have ha_29 := (hext_28 _ hc_22).symm
  rw [ha_29]
  have ha_30 := (hext_28 _ hc_23).symm
  rw [ha_30] at hl
  refine lv_astore_n (lv' := [(2, .ref (ad_26 q_15)), (1, .ref (ad_26 q_1)), (0, .ref b)]) hx hb dL_law_15 rfl hl (by decide) rfl (fun ls hl => ?_)
  refine lv_iconst (v := (1 : Int32)) hx hb dL_law_16 (by decide) ?_
  obtain ⟨hc_31, hf⟩ := aw_chk_some hf
  obtain ⟨hc_32, hf⟩ := aw_chk_some hf
  refine aw_newA (atype := .long) (t := 21) (ty := .long) (N := 1) X G E_27 rfl m_222 (by decide) rfl (fun _ _ h => h) (by decide) (by decide) (fun _ => rfl) (aw_a0l 1) (Nat.le_of_ble_eq_true rfl) (Nat.le_of_ble_eq_true rfl) (Nat.le_of_ble_eq_true rfl) hf dL_law_17 (fun q_33 σ_34 d_35 ad_36 H hf hext_38 E_37 G => ?_)
  have ha_39 := (hext_38 _ hc_31).symm
  rw [ha_39] at hl
  have ha_40 := (hext_38 _ hc_32).symm
  rw [ha_40] at hl
  refine lv_astore_n (lv' := [(3, .ref (ad_36 q_33)), (2, .ref (ad_36 q_15)), (1, .ref (ad_36 q_1)), (0, .ref b)]) hx hb dL_law_19 rfl hl (by decide) rfl (fun ls hl => ?_)
  refine lv_iconst (v := (0 : Int32)) hx hb dL_law_20 (by decide) ?_
  refine lv_istore (lv' := [(4, .int ((0 : Int32))), (3, .ref (ad_36 q_33)), (2, .ref (ad_36 q_15)), (1, .ref (ad_36 q_1)), (0, .ref b)]) hx hb dL_law_21 hl (by decide) rfl (fun ls hl => ?_)
  refine W.widen (k := 295 + 4 * 0) (n := 8389 + 105 * 0) (Nat.le_of_ble_eq_true rfl) (Nat.le_of_ble_eq_true rfl) ?_
  exact w_law_L hst X hX hbl hL (c0 := 295) (s0 := 8389) (by decide) (by decide) aw_FU 0 _ _ _ _ rfl (Nat.zero_le _) hf E_37 _ _ _ (lv_sub hl [4, 3, 2, 1, 0] rfl) G
set_option maxHeartbeats 4000000 in
theorem lw_walk (l : Launch) (hflags : l.flags = flags0) (b : Addr) (xs : List Int32) : MetFree l x (headSpec (Jvm.Cond.code x code maxLocals ret :: tables_1) room_1) (lw_P b xs) (fun _ _ _ _ _ => True) lw_Q := by
  refine MetFree.of_bodyS (code := code) (maxLocals := maxLocals) (ret := ret) (by decide) ?_ ?_
  · intro args s m h hn
    obtain ⟨meth, c, h1, h2, h3, h4, h5, h6, -, -⟩ := Cond.code_spec hn (atoms_spec (ws := Jvm.Cond.code x code maxLocals ret :: tables_1) h _ List.mem_cons_self)
    exact ⟨meth, c, h1, h2, h3, h4, h5, h6⟩
  · intro p e s m args below meth c s₁ B hml0 hP _
    obtain ⟨rfl, hx, hbd, hgv⟩ := hP
    obtain ⟨scr, harrAt, hlist, hof, hsmall⟩ := hx
    obtain ⟨hcb, hkn, -, -⟩ := State.arrayAt?_spec harrAt
    have hown : s.vm.findClass R_law = some m.cls := findClass_of_methodNamed B.named
    have hts0 : ∀ c ∈ (Jvm.Cond.code x code maxLocals ret :: tables_1), c.before #[Value.ref b] s = true := atoms_spec (ws := Jvm.Cond.code x code maxLocals ret :: tables_1) B.pre
    have hts : ∀ w ∈ lw_tbl, w.before #[Value.ref b] s = true := k2_hts_sels lw_privs (fun w hw => hts0 w (List.mem_cons_of_mem _ hw)) lw_privs_ok
    have hml : c.maxLocals = 8 := B.maxLocals_eq (hts0 _ List.mem_cons_self)
    have X₀ : Stand p l e room_1 s m #[Value.ref b] below meth c s₁ [] 0 0 := Stand.of_body B
    have hh0 : s₁.heap = s.heap := by rw [B.state]; rfl
    have hsz : scr.slots.size = xs.length := by rw [← Array.length_toList, hlist, List.length_map]
    have hval : ∀ j : Nat, j < xs.length → scr.slots[j]? = some (.int (xs.getD j 0)) := fun j hj => by
      rw [← Array.getElem?_toList, hlist]
      simp [hj]
    have hbl : b < s.heap.size := (Array.getElem?_eq_some_iff.mp hcb).1
    have hX : va_X b xs.length (fun j => xs.getD j 0) s s.heap := ⟨scr, hcb, hof, hkn, hsz, hval⟩
    have K : W p l e room_1 s m #[Value.ref b] below meth c s₁.heap [] 0 0 (lw_Z below #[Value.ref b] s) (entryFrame m ([Value.ref b] : List Value).toArray 8) := by
      rw [hh0]
      exact whole_start l hflags hbd ⟨B.exec, B.bytes, B.returns, hml, hown, hts, hX, hbl, B.notSynchronized, hgv⟩
    obtain ⟨t, a1, o, b1, b2, b3⟩ := K s₁ rfl X₀
    exact ⟨t, o, a1, b1, b2, b3⟩
theorem lw_pre_spec {args : Array Value} {s : State} (h : (Jvm.Cond.and given_1 narrow_1).before args s = true) (hr : rest_1_c.before args s = true) : ∃ (b : Addr) (xs : List Int32), lw_P b xs args s := by
  have hs := flat_of_before _ h
  have hq := flat_of_before _ hr
  have hc : (Cond.count 1).before args s = true := hs _ (by decide +kernel)
  have harr : (Cond.arrayOf (.arg 0) .int).before args s = true := hs _ (by decide +kernel)
  have hle : (Cond.le (.length (.arg 0)) (.int 3072)).before args s = true := hs _ (by decide +kernel)
  have hlen : (Cond.isInt (.length (.arg 0))).before args s = true := hq _ (by decide +kernel)
  have hall : (Cond.all (.arg 0) (.isInt (.elem (.arg 0) (.index 0)))).before args s = true := hq _ (by decide +kernel)
  obtain ⟨b, xs, hb, hx⟩ := State.ints_of_pre rfl harr hlen hall
  have hsm : xs.length < 2 ^ 31 := hx.choose_spec.2.2.2
  have hev : (Term.length (.arg 0)).eval args s none [] s = some (.int xs.length.toInt32) := hx.length_eval hb
  have hv := Cond.le_ints hev (show (Term.int 3072).eval args s none [] s = some (.int 3072) from rfl)
  have hd : xs.length.toInt32 ≤ 3072 := by
    simpa [Cond.before, Cond.holds, hv] using hle
  have hN : xs.length ≤ 3072 := (Int32.ofNat_le_ofNat hsm (by decide)).mp (show Int32.ofNat xs.length ≤ Int32.ofNat 3072 from hd)
  exact ⟨b, xs, Cond.one_arg hc (show args[0]? = some (.ref b) from hb), hx, hN, h⟩
theorem lw_comes (l : Launch) (hflags : l.flags = flags0) : Comes l x (Jvm.Cond.code x code maxLocals ret :: tables_1) room_1 (fun tb e args s => Calls_1 tb e args s ∧ rest_1 tb e args s ∧ Pre_1 tb e args s)
    (fun _ _ args s o t => lw_Q args s o t) := by
  intro p e ha hc hk s m args below hf hfit hheap happ hpre
  obtain ⟨b, xs, hP⟩ := lw_pre_spec hpre.2.2 hpre.2.1
  obtain ⟨k, o, h1, h2, h3, hQ⟩ := lw_walk l hflags b xs p e ha hc hk s m args below hf ((Spec.applies_iff_loose hf).mp happ).1 hP trivial
  exact ⟨k, o, h1, h2, h3, hQ⟩
theorem lw_frame {s t : State} {o : Outcome} {args : Array Value} (h : Framed s o t [] 601024 7293033) :
    Framed s o t (fieldLocs frame_1_writes args s ++ arrayLocs frame_1_arrays args s ++ staticLocs frame_1_statics s) 601024 7293033 := h
theorem lw_limb (L : Cond) (hL : ∀ (args : Array Value) (s t : State), L.after args s (.returned (some (.int 1))) t = true) :
    ArmFor flags0 classFile x code maxLocals ret World_1 tables_1 room_1 Calls_1 rest_1 Pre_1
      (fun tb e a s o t => postC L tb e a s o t ∧ Framed s o t (fieldLocs frame_1_writes a s ++ arrayLocs frame_1_arrays a s ++ staticLocs frame_1_statics s) 601024 7293033) := by
  intro l hflags _ _ p e ha hc hk s m args below hf hfit hheap happ hpre
  obtain ⟨k, o, h1, h2, h3, rfl, hF⟩ := lw_comes l hflags p e ha hc hk s m args below hf hfit hheap happ hpre
  exact ⟨k, _, h1, h2, h3, hL args s _, lw_frame hF⟩
theorem i_vc : Claimed_1_1 ∧ Claimed_1_2 := ⟨lw_limb limb_1_1 (fun args s t => by simp [limb_1_1, Cond.after, Cond.holds, Cond.value]), lw_limb limb_1_2 (fun args s t => Cond.after_iff.mpr (by
  first | (rw [show limb_1_2 = Cond.eq .result (.int 1) from rfl, Cond.eq_ints (x := 1) (y := 1) rfl rfl]; simp; done) | (simp [limb_1_2, Cond.value, Term.eval]; done)))⟩
