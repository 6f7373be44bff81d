/-! the law's loop -/
theorem cki {i j L : Nat} {x : Int32} (hx : x = nI j) (h : i + j < L) (hL : L ≤ 3072) : ¬ (nI i + x < 0 ∨ L ≤ (nI i + x).toNatClampNeg) := by
  rw [hx, nI_add, il_0, nI_cl (by omega), nI_ltJ (by omega) (by omega)]
  omega
theorem lg0 {x y : Int64} (h : x = y) : lg_cmp x y = 0 := by rw [il_0, lgc0]; exact h
theorem law_go {A : St} {σ : Sg} {d : Dt} {o : Res} {Q : Int32 → Prop} {kb : Sg → Dt → Option Int32} {ec : Option (Int32 × Dt)} (em : Dt → Option (Int32 × Dt)) (hI : Inv A σ d) (hc : ok ec (PC d o)) (hm : ∀ d', RepM A d' → ok (em d') (PM d' o)) (hN : OpN A o) (hk : ∀ A' σ' d', Inv A' σ' d' → ok (kb σ' d') Q) :
    ok (ec.bind (fun z2 => aw_chk (aw_O σ 11 32 265) ((em z2.2).bind (fun z4 => (f_X11_thrown σ 265 z4.2).bind (fun z7 => if z7.1 = z2.1 then if z2.1 = 0 then aw_chk (aw_I σ 21 294 ((0 : Int32))) (if (lg_cmp (z7.2.2 294 ((0 : Int32)).toNatClampNeg) z4.1.toInt64) = 0 then kb σ z7.2 else some ((0 : Int32))) else kb σ z7.2 else some ((0 : Int32))))))) Q := by
  obtain ⟨hS, hn, hW, hC, hM⟩ := hI
  obtain ⟨z2, e2, p1, p2, p3, p4⟩ := hc
  refine ok_bs e2 ?_
  refine ok_chk (ly_O hS (k := 265) (by omega) rfl) ?_
  obtain ⟨z4, e4, m1, m2, m3, m4⟩ := hm z2.2 (hM.fr p4)
  refine ok_bs e4 ?_
  have hth : f_X11_thrown σ 265 z4.2 = some (z4.2.1 265 31, z4.2) := ck_t (ly_O hS (k := 265) (by omega) rfl) _
  refine ok_bs hth ?_
  have hw20 : o.2.2 2 0 0 ≤ 20 := hN.2.1.words
  have hC4 : RepC o.2.2 z4.2 := p3.fr hw20 m4
  have hgo := hk o.2.2 σ z4.2 ⟨hS, hn.trans hN.2.2.symm, hN.2.1, hC4, m3⟩
  refine ok_t (by show z4.2.1 265 31 = z2.1; rw [m2, p1]) ?_
  refine ok_s (fun h0 => ?_) (fun _ => hgo)
  have ho := hN.1
  have h0' : o.1 = 0 := by
    rw [p1, il_0, nI_eqJ (by omega) (by omega)] at h0; exact h0
  refine ok_chk (ly_I hS (k := 294) (i := 0) (by omega) rfl (by omega) (by omega)) ?_
  refine ok_t (lg0 ?_) hgo
  show z4.2.2 294 (nI 0).toNatClampNeg = _
  rw [nI_cl (by omega), (m4 294 (Or.inr (by omega))).2, p2 h0', m1]
theorem law_goL {A : St} {σ : Sg} {d : Dt} {o : ResL} {Q : Int32 → Prop} {kb : Sg → Dt → Option Int32} {ec : Option (Int32 × Dt)} (em : Dt → Option (Int64 × Dt)) (hI : Inv A σ d) (hc : ok ec (PCL d o)) (hm : ∀ d', RepM A d' → ok (em d') (PML d' o)) (hN : OpNL A o) (hk : ∀ A' σ' d', Inv A' σ' d' → ok (kb σ' d') Q) :
    ok (ec.bind (fun z2 => aw_chk (aw_O σ 11 32 265) ((em z2.2).bind (fun z4 => (f_X11_thrown σ 265 z4.2).bind (fun z7 => if z7.1 = z2.1 then if z2.1 = 0 then aw_chk (aw_I σ 21 294 ((0 : Int32))) (if (lg_cmp (z7.2.2 294 ((0 : Int32)).toNatClampNeg) z4.1) = 0 then kb σ z7.2 else some ((0 : Int32))) else kb σ z7.2 else some ((0 : Int32))))))) Q := by
  obtain ⟨hS, hn, hW, hC, hM⟩ := hI
  obtain ⟨z2, e2, p1, p2, p3, p4⟩ := hc
  refine ok_bs e2 ?_
  refine ok_chk (ly_O hS (k := 265) (by omega) rfl) ?_
  obtain ⟨z4, e4, m1, m2, m3, m4⟩ := hm z2.2 (hM.fr p4)
  refine ok_bs e4 ?_
  have hth : f_X11_thrown σ 265 z4.2 = some (z4.2.1 265 31, z4.2) := ck_t (ly_O hS (k := 265) (by omega) rfl) _
  refine ok_bs hth ?_
  have hw20 : o.2.2 2 0 0 ≤ 20 := hN.2.1.words
  have hC4 : RepC o.2.2 z4.2 := p3.fr hw20 m4
  have hgo := hk o.2.2 σ z4.2 ⟨hS, hn.trans hN.2.2.symm, hN.2.1, hC4, m3⟩
  refine ok_t (by show z4.2.1 265 31 = z2.1; rw [m2, p1]) ?_
  refine ok_s (fun h0 => ?_) (fun _ => hgo)
  have ho := hN.1
  have h0' : o.1 = 0 := by
    rw [p1, il_0, nI_eqJ (by omega) (by omega)] at h0; exact h0
  refine ok_chk (ly_I hS (k := 294) (i := 0) (by omega) rfl (by omega) (by omega)) ?_
  refine ok_t (lg0 ?_) hgo
  show z4.2.2 294 (nI 0).toNatClampNeg = _
  rw [nI_cl (by omega), (m4 294 (Or.inr (by omega))).2, p2 h0', m1]
theorem law_goM {A : St} {σ : Sg} {d : Dt} {o : Res} {Q : Int32 → Prop} {kb : Sg → Dt → Option Int32} {ec : Option (Int32 × Dt)} (em : Dt → Option (Int32 × Dt)) (hI : Inv A σ d) (hc : ok ec (PC d o)) (hm : ∀ d', RepM A d' → ok (em d') (PM d' o)) (hN : OpN A o) (h01 : o.1 = 0 → o.2.1 = nI 0 ∨ o.2.1 = nI 1) (hk : ∀ A' σ' d', Inv A' σ' d' → ok (kb σ' d') Q) :
    ok (ec.bind (fun z2 => aw_chk (aw_O σ 11 32 265) ((em z2.2).bind (fun z4 => (f_X11_thrown σ 265 z4.2).bind (fun z7 => if z7.1 = z2.1 then if z2.1 = 0 then aw_chk (aw_I σ 21 294 ((0 : Int32))) (if z4.1 = 0 then if (lg_cmp (z7.2.2 294 ((0 : Int32)).toNatClampNeg) ((0 : Int64))) = 0 then kb σ z7.2 else some ((0 : Int32)) else if (lg_cmp (z7.2.2 294 ((0 : Int32)).toNatClampNeg) ((1 : Int64))) = 0 then kb σ z7.2 else some ((0 : Int32))) else kb σ z7.2 else some ((0 : Int32))))))) Q := by
  obtain ⟨hS, hn, hW, hC, hM⟩ := hI
  obtain ⟨z2, e2, p1, p2, p3, p4⟩ := hc
  refine ok_bs e2 ?_
  refine ok_chk (ly_O hS (k := 265) (by omega) rfl) ?_
  obtain ⟨z4, e4, m1, m2, m3, m4⟩ := hm z2.2 (hM.fr p4)
  refine ok_bs e4 ?_
  have hth : f_X11_thrown σ 265 z4.2 = some (z4.2.1 265 31, z4.2) := ck_t (ly_O hS (k := 265) (by omega) rfl) _
  refine ok_bs hth ?_
  have hw20 : o.2.2 2 0 0 ≤ 20 := hN.2.1.words
  have hC4 : RepC o.2.2 z4.2 := p3.fr hw20 m4
  have hgo := hk o.2.2 σ z4.2 ⟨hS, hn.trans hN.2.2.symm, hN.2.1, hC4, m3⟩
  refine ok_t (by show z4.2.1 265 31 = z2.1; rw [m2, p1]) ?_
  refine ok_s (fun h0 => ?_) (fun _ => hgo)
  have ho := hN.1
  have h0' : o.1 = 0 := by
    rw [p1, il_0, nI_eqJ (by omega) (by omega)] at h0; exact h0
  refine ok_chk (ly_I hS (k := 294) (i := 0) (by omega) rfl (by omega) (by omega)) ?_
  have hv : z4.2.2 294 (nI 0).toNatClampNeg = o.2.1.toInt64 := by
    rw [nI_cl (by omega), (m4 294 (Or.inr (by omega))).2, p2 h0']
  rcases h01 h0' with e | e
  · refine ok_t (by rw [m1, e]; rfl) (ok_t (lg0 ?_) hgo)
    show z4.2.2 294 (nI 0).toNatClampNeg = _
    rw [hv, e]; rfl
  · refine ok_f (by rw [m1, e]; decide) (ok_t (lg0 ?_) hgo)
    show z4.2.2 294 (nI 0).toNatClampNeg = _
    rw [hv, e]; rfl
theorem law_goD {A : St} {σ : Sg} {d : Dt} {o : Res} {Q : Int32 → Prop} {kb : Sg → Dt → Option Int32} {ec : Option (Int32 × (Sg × Dt))} {c1 c2 : Prop} [Decidable c1] [Decidable c2] (h1 : c1) (h2 : c2) (em : Sg → Dt → Option (Int32 × Dt)) (hI : Inv A σ d) (hc : ok ec (PCD d o)) (hm : ∀ σ' d', Lay σ' → RepM A d' → ok (em σ' d') (PM d' o)) (hN : o.1 < 10 ∧ WF o.2.2) (hk : ∀ A' σ' d', Inv A' σ' d' → ok (kb σ' d') Q) :
    ok (ec.bind (fun z2 => aw_chk c1 (aw_chk c2 (aw_chk (aw_O z2.2.1 11 32 265) ((em z2.2.1 z2.2.2).bind (fun z4 => (f_X11_thrown z2.2.1 265 z4.2).bind (fun z7 => if z7.1 = z2.1 then if z2.1 = 0 then aw_chk (aw_I z2.2.1 21 294 ((0 : Int32))) (if (lg_cmp (z7.2.2 294 ((0 : Int32)).toNatClampNeg) z4.1.toInt64) = 0 then kb z2.2.1 z7.2 else some ((0 : Int32))) else kb z2.2.1 z7.2 else some ((0 : Int32))))))))) Q := by
  obtain ⟨hS0, hn0, hW, hC, hM⟩ := hI
  obtain ⟨⟨r, σ', d2⟩, e2, ⟨p1, p2, p3, p4⟩, hS, hn⟩ := hc
  refine ok_bs e2 ?_
  refine ok_chk h1 (ok_chk h2 ?_)
  have hS : Lay σ' := hS
  have p1 : r = nI o.1 := p1
  refine ok_chk (ly_O hS (k := 265) (by omega) rfl) ?_
  obtain ⟨z4, e4, m1, m2, m3, m4⟩ := hm σ' d2 hS (hM.fr p4)
  refine ok_bs e4 ?_
  have hth : f_X11_thrown σ' 265 z4.2 = some (z4.2.1 265 31, z4.2) := ck_t (ly_O hS (k := 265) (by omega) rfl) _
  refine ok_bs hth ?_
  have hw20 : o.2.2 2 0 0 ≤ 20 := hN.2.words
  have hC4 : RepC o.2.2 z4.2 := p3.fr hw20 m4
  have hgo := hk o.2.2 σ' z4.2 ⟨hS, hn, hN.2, hC4, m3⟩
  refine ok_t (by show z4.2.1 265 31 = r; rw [m2, p1]) ?_
  refine ok_s (fun h0 => ?_) (fun _ => hgo)
  have ho := hN.1
  have h0' : o.1 = 0 := by
    have h0 : r = 0 := h0
    rw [p1, il_0, nI_eqJ (by omega) (by omega)] at h0; exact h0
  refine ok_chk (ly_I hS (k := 294) (i := 0) (by omega) rfl (by omega) (by omega)) ?_
  refine ok_t (lg0 ?_) hgo
  have p2' : d2.2 294 0 = o.2.1.toInt64 := p2 h0'
  show z4.2.2 294 (nI 0).toNatClampNeg = _
  rw [nI_cl (by omega), (m4 294 (Or.inr (by omega))).2, p2', m1]

theorem law_0 {A : St} {σ : Sg} {d : Dt} {xs : Nat → Int32} {L i : Nat} {Q : Int32 → Prop} {kb : Sg → Dt → Option Int32} (hL : L ≤ 3072) (hi : i + 6 ≤ L) (hI : Inv A σ d) (hk : ∀ A' σ' d', Inv A' σ' d' → ok (kb σ' d') Q) : ok (f_law_C0 xs L kb 0 265 294 (nI i) σ d) Q := by
  have hS := hI.1
  have hn := hI.2.1
  have hW := hI.2.2.1
  have hC := hI.2.2.2.1
  have hsz := hS.1
  unfold f_law_C0
  refine ok_chk (cki il_1 (by omega) hL) ?_
  exact law_go (fun d' => f_X11_syllable σ 265 (xs (nI i + (1 : Int32)).toNatClampNeg) d') hI (C_syllable hS hn hW hC (xs (nI i + (1 : Int32)).toNatClampNeg)) (fun d' hM' => M_syllable hS hW hM' (xs (nI i + (1 : Int32)).toNatClampNeg)) (N_syllable hW (xs (nI i + (1 : Int32)).toNatClampNeg)) hk

theorem law_1 {A : St} {σ : Sg} {d : Dt} {xs : Nat → Int32} {L i : Nat} {Q : Int32 → Prop} {kb : Sg → Dt → Option Int32} (hL : L ≤ 3072) (hi : i + 6 ≤ L) (hI : Inv A σ d) (hk : ∀ A' σ' d', Inv A' σ' d' → ok (kb σ' d') Q) : ok (f_law_C1 xs L kb 0 265 294 (nI i) σ d) Q := by
  have hS := hI.1
  have hn := hI.2.1
  have hW := hI.2.2.1
  have hC := hI.2.2.2.1
  have hsz := hS.1
  unfold f_law_C1
  refine ok_chk (cki il_1 (by omega) hL) ?_
  exact law_go (fun d' => f_X11_word σ 265 (xs (nI i + (1 : Int32)).toNatClampNeg) d') hI (C_word hS hn hW hC (xs (nI i + (1 : Int32)).toNatClampNeg)) (fun d' hM' => M_word hS hW hM' (xs (nI i + (1 : Int32)).toNatClampNeg)) (N_word hW (xs (nI i + (1 : Int32)).toNatClampNeg)) hk

theorem law_2 {A : St} {σ : Sg} {d : Dt} {xs : Nat → Int32} {L i : Nat} {Q : Int32 → Prop} {kb : Sg → Dt → Option Int32} (hL : L ≤ 3072) (hi : i + 6 ≤ L) (hI : Inv A σ d) (hk : ∀ A' σ' d', Inv A' σ' d' → ok (kb σ' d') Q) : ok (f_law_C2 xs L kb 0 265 294 (nI i) σ d) Q := by
  have hS := hI.1
  have hn := hI.2.1
  have hW := hI.2.2.1
  have hC := hI.2.2.2.1
  have hsz := hS.1
  unfold f_law_C2
  refine ok_chk (cki il_1 (by omega) hL) ?_
  refine ok_chk (cki il_2 (by omega) hL) ?_
  refine ok_chk (cki il_3 (by omega) hL) ?_
  refine ok_chk (cki il_4 (by omega) hL) ?_
  refine ok_chk (cki il_5 (by omega) hL) ?_
  by_cases hb : (xs (nI i + (5 : Int32)).toNatClampNeg) = 0
  · rw [if_pos hb]
    simp only [if_pos hb]
    have hc := C_change hS hn hW hC (xs (nI i + (1 : Int32)).toNatClampNeg) (xs (nI i + (2 : Int32)).toNatClampNeg) (xs (nI i + (3 : Int32)).toNatClampNeg) (xs (nI i + (4 : Int32)).toNatClampNeg) (b := 0) (by omega)
    have hN := N_change hW (xs (nI i + (1 : Int32)).toNatClampNeg) (xs (nI i + (2 : Int32)).toNatClampNeg) (xs (nI i + (3 : Int32)).toNatClampNeg) (xs (nI i + (4 : Int32)).toNatClampNeg) (b := 0) (by omega)
    exact law_go (fun d' => f_X11_change σ 265 (xs (nI i + (1 : Int32)).toNatClampNeg) (xs (nI i + (2 : Int32)).toNatClampNeg) (xs (nI i + (3 : Int32)).toNatClampNeg) (xs (nI i + (4 : Int32)).toNatClampNeg) (0 : Int32) d') hI hc (fun d' hM' => M_change hS hW hM' (xs (nI i + (1 : Int32)).toNatClampNeg) (xs (nI i + (2 : Int32)).toNatClampNeg) (xs (nI i + (3 : Int32)).toNatClampNeg) (xs (nI i + (4 : Int32)).toNatClampNeg) (b := 0) (by omega)) hN hk
  · rw [if_neg hb]
    simp only [if_neg hb]
    have hc := C_change hS hn hW hC (xs (nI i + (1 : Int32)).toNatClampNeg) (xs (nI i + (2 : Int32)).toNatClampNeg) (xs (nI i + (3 : Int32)).toNatClampNeg) (xs (nI i + (4 : Int32)).toNatClampNeg) (b := 1) (by omega)
    have hN := N_change hW (xs (nI i + (1 : Int32)).toNatClampNeg) (xs (nI i + (2 : Int32)).toNatClampNeg) (xs (nI i + (3 : Int32)).toNatClampNeg) (xs (nI i + (4 : Int32)).toNatClampNeg) (b := 1) (by omega)
    exact law_go (fun d' => f_X11_change σ 265 (xs (nI i + (1 : Int32)).toNatClampNeg) (xs (nI i + (2 : Int32)).toNatClampNeg) (xs (nI i + (3 : Int32)).toNatClampNeg) (xs (nI i + (4 : Int32)).toNatClampNeg) (1 : Int32) d') hI hc (fun d' hM' => M_change hS hW hM' (xs (nI i + (1 : Int32)).toNatClampNeg) (xs (nI i + (2 : Int32)).toNatClampNeg) (xs (nI i + (3 : Int32)).toNatClampNeg) (xs (nI i + (4 : Int32)).toNatClampNeg) (b := 1) (by omega)) hN hk

theorem law_3 {A : St} {σ : Sg} {d : Dt} {xs : Nat → Int32} {L i : Nat} {Q : Int32 → Prop} {kb : Sg → Dt → Option Int32} (hL : L ≤ 3072) (hi : i + 6 ≤ L) (hI : Inv A σ d) (hk : ∀ A' σ' d', Inv A' σ' d' → ok (kb σ' d') Q) : ok (f_law_C3 xs L kb 0 265 294 (nI i) σ d) Q := by
  have hS := hI.1
  have hn := hI.2.1
  have hW := hI.2.2.1
  have hC := hI.2.2.2.1
  have hsz := hS.1
  unfold f_law_C3
  refine ok_chk (cki il_1 (by omega) hL) ?_
  refine ok_chk (cki il_2 (by omega) hL) ?_
  refine ok_chk (cki il_3 (by omega) hL) ?_
  exact law_go (fun d' => f_X11_spoken σ 265 (xs (nI i + (1 : Int32)).toNatClampNeg) (xs (nI i + (2 : Int32)).toNatClampNeg) (xs (nI i + (3 : Int32)).toNatClampNeg) d') hI (C_spoken hS hn hW hC (xs (nI i + (1 : Int32)).toNatClampNeg) (xs (nI i + (2 : Int32)).toNatClampNeg) (xs (nI i + (3 : Int32)).toNatClampNeg)) (fun d' hM' => M_spoken hS hW hM' (xs (nI i + (1 : Int32)).toNatClampNeg) (xs (nI i + (2 : Int32)).toNatClampNeg) (xs (nI i + (3 : Int32)).toNatClampNeg)) (N_spoken hW (xs (nI i + (1 : Int32)).toNatClampNeg) (xs (nI i + (2 : Int32)).toNatClampNeg) (xs (nI i + (3 : Int32)).toNatClampNeg)) hk

theorem law_4 {A : St} {σ : Sg} {d : Dt} {xs : Nat → Int32} {L i : Nat} {Q : Int32 → Prop} {kb : Sg → Dt → Option Int32} (hL : L ≤ 3072) (hi : i + 6 ≤ L) (hI : Inv A σ d) (hk : ∀ A' σ' d', Inv A' σ' d' → ok (kb σ' d') Q) : ok (f_law_C4 xs L kb 0 265 294 (nI i) σ d) Q := by
  have hS := hI.1
  have hn := hI.2.1
  have hW := hI.2.2.1
  have hC := hI.2.2.2.1
  have hsz := hS.1
  unfold f_law_C4
  refine ok_chk (cki il_1 (by omega) hL) ?_
  refine ok_chk (cki il_2 (by omega) hL) ?_
  refine ok_chk (by omega) (ok_chk (by omega) (ok_chk (by omega) ?_))
  exact law_goD (cki il_1 (by omega) hL) (cki il_2 (by omega) hL) (fun σ' d' => f_X11_design σ' 265 (xs (nI i + (1 : Int32)).toNatClampNeg) (xs (nI i + (2 : Int32)).toNatClampNeg) d') hI (C_design hS hn hW hC (xs (nI i + (1 : Int32)).toNatClampNeg) (xs (nI i + (2 : Int32)).toNatClampNeg)) (fun σ' d' hS' hM' => M_design hS' hW hM' (xs (nI i + (1 : Int32)).toNatClampNeg) (xs (nI i + (2 : Int32)).toNatClampNeg)) (N_design hW (xs (nI i + (1 : Int32)).toNatClampNeg) (xs (nI i + (2 : Int32)).toNatClampNeg)) hk

theorem law_5 {A : St} {σ : Sg} {d : Dt} {xs : Nat → Int32} {L i : Nat} {Q : Int32 → Prop} {kb : Sg → Dt → Option Int32} (hL : L ≤ 3072) (hi : i + 6 ≤ L) (hI : Inv A σ d) (hk : ∀ A' σ' d', Inv A' σ' d' → ok (kb σ' d') Q) : ok (f_law_C5 xs L kb 0 265 294 (nI i) σ d) Q := by
  have hS := hI.1
  have hn := hI.2.1
  have hW := hI.2.2.1
  have hC := hI.2.2.2.1
  have hsz := hS.1
  unfold f_law_C5
  refine ok_chk (cki il_1 (by omega) hL) ?_
  refine ok_chk (cki il_2 (by omega) hL) ?_
  refine ok_chk (cki il_3 (by omega) hL) ?_
  refine ok_chk (cki il_4 (by omega) hL) ?_
  by_cases hb : (xs (nI i + (4 : Int32)).toNatClampNeg) = 0
  · rw [if_pos hb]
    simp only [if_pos hb]
    have hc := C_assign hS hn hW hC (xs (nI i + (1 : Int32)).toNatClampNeg) (xs (nI i + (2 : Int32)).toNatClampNeg) (xs (nI i + (3 : Int32)).toNatClampNeg) (b := 0) (by omega)
    have hN := N_assign hW (xs (nI i + (1 : Int32)).toNatClampNeg) (xs (nI i + (2 : Int32)).toNatClampNeg) (xs (nI i + (3 : Int32)).toNatClampNeg) (b := 0)
    exact law_go (fun d' => f_X11_assign σ 265 (xs (nI i + (1 : Int32)).toNatClampNeg) (xs (nI i + (2 : Int32)).toNatClampNeg) (xs (nI i + (3 : Int32)).toNatClampNeg) (0 : Int32) d') hI hc (fun d' hM' => M_assign hS hW hM' (xs (nI i + (1 : Int32)).toNatClampNeg) (xs (nI i + (2 : Int32)).toNatClampNeg) (xs (nI i + (3 : Int32)).toNatClampNeg) (b := 0) (by omega)) hN hk
  · rw [if_neg hb]
    simp only [if_neg hb]
    have hc := C_assign hS hn hW hC (xs (nI i + (1 : Int32)).toNatClampNeg) (xs (nI i + (2 : Int32)).toNatClampNeg) (xs (nI i + (3 : Int32)).toNatClampNeg) (b := 1) (by omega)
    have hN := N_assign hW (xs (nI i + (1 : Int32)).toNatClampNeg) (xs (nI i + (2 : Int32)).toNatClampNeg) (xs (nI i + (3 : Int32)).toNatClampNeg) (b := 1)
    exact law_go (fun d' => f_X11_assign σ 265 (xs (nI i + (1 : Int32)).toNatClampNeg) (xs (nI i + (2 : Int32)).toNatClampNeg) (xs (nI i + (3 : Int32)).toNatClampNeg) (1 : Int32) d') hI hc (fun d' hM' => M_assign hS hW hM' (xs (nI i + (1 : Int32)).toNatClampNeg) (xs (nI i + (2 : Int32)).toNatClampNeg) (xs (nI i + (3 : Int32)).toNatClampNeg) (b := 1) (by omega)) hN hk

theorem law_6 {A : St} {σ : Sg} {d : Dt} {xs : Nat → Int32} {L i : Nat} {Q : Int32 → Prop} {kb : Sg → Dt → Option Int32} (hL : L ≤ 3072) (hi : i + 6 ≤ L) (hI : Inv A σ d) (hk : ∀ A' σ' d', Inv A' σ' d' → ok (kb σ' d') Q) : ok (f_law_C6 xs L kb 0 265 294 (nI i) σ d) Q := by
  have hS := hI.1
  have hn := hI.2.1
  have hW := hI.2.2.1
  have hC := hI.2.2.2.1
  have hsz := hS.1
  unfold f_law_C6
  refine ok_chk (cki il_1 (by omega) hL) ?_
  refine ok_chk (cki il_2 (by omega) hL) ?_
  refine ok_chk (cki il_3 (by omega) hL) ?_
  by_cases hb : (xs (nI i + (3 : Int32)).toNatClampNeg) = 0
  · rw [if_pos hb]
    simp only [if_pos hb]
    have hc := C_mark hS hn hW hC (xs (nI i + (1 : Int32)).toNatClampNeg) (xs (nI i + (2 : Int32)).toNatClampNeg) (b := 0) (by omega)
    have hN := N_mark hW (xs (nI i + (1 : Int32)).toNatClampNeg) (xs (nI i + (2 : Int32)).toNatClampNeg) (b := 0) (by omega)
    exact law_goM (fun d' => f_X11_mark σ 265 (xs (nI i + (1 : Int32)).toNatClampNeg) (xs (nI i + (2 : Int32)).toNatClampNeg) (0 : Int32) d') hI hc (fun d' hM' => M_mark hS hW hM' (xs (nI i + (1 : Int32)).toNatClampNeg) (xs (nI i + (2 : Int32)).toNatClampNeg) (b := 0) (by omega)) hN.1 hN.2 hk
  · rw [if_neg hb]
    simp only [if_neg hb]
    have hc := C_mark hS hn hW hC (xs (nI i + (1 : Int32)).toNatClampNeg) (xs (nI i + (2 : Int32)).toNatClampNeg) (b := 1) (by omega)
    have hN := N_mark hW (xs (nI i + (1 : Int32)).toNatClampNeg) (xs (nI i + (2 : Int32)).toNatClampNeg) (b := 1) (by omega)
    exact law_goM (fun d' => f_X11_mark σ 265 (xs (nI i + (1 : Int32)).toNatClampNeg) (xs (nI i + (2 : Int32)).toNatClampNeg) (1 : Int32) d') hI hc (fun d' hM' => M_mark hS hW hM' (xs (nI i + (1 : Int32)).toNatClampNeg) (xs (nI i + (2 : Int32)).toNatClampNeg) (b := 1) (by omega)) hN.1 hN.2 hk

theorem law_7 {A : St} {σ : Sg} {d : Dt} {xs : Nat → Int32} {L i : Nat} {Q : Int32 → Prop} {kb : Sg → Dt → Option Int32} (hL : L ≤ 3072) (hi : i + 6 ≤ L) (hI : Inv A σ d) (hk : ∀ A' σ' d', Inv A' σ' d' → ok (kb σ' d') Q) : ok (f_law_C7 xs L kb 0 265 294 (nI i) σ d) Q := by
  have hS := hI.1
  have hn := hI.2.1
  have hW := hI.2.2.1
  have hC := hI.2.2.2.1
  have hsz := hS.1
  unfold f_law_C7
  refine ok_chk (cki il_1 (by omega) hL) ?_
  refine ok_chk (cki il_2 (by omega) hL) ?_
  refine ok_chk (cki il_3 (by omega) hL) ?_
  exact law_go (fun d' => f_X11_spelled σ 265 (xs (nI i + (1 : Int32)).toNatClampNeg) (xs (nI i + (2 : Int32)).toNatClampNeg) (xs (nI i + (3 : Int32)).toNatClampNeg) d') hI (C_spelled hS hn hW hC (xs (nI i + (1 : Int32)).toNatClampNeg) (xs (nI i + (2 : Int32)).toNatClampNeg) (xs (nI i + (3 : Int32)).toNatClampNeg)) (fun d' hM' => M_spelled hS hW hM' (xs (nI i + (1 : Int32)).toNatClampNeg) (xs (nI i + (2 : Int32)).toNatClampNeg) (xs (nI i + (3 : Int32)).toNatClampNeg)) (N_spelled hW (xs (nI i + (1 : Int32)).toNatClampNeg) (xs (nI i + (2 : Int32)).toNatClampNeg) (xs (nI i + (3 : Int32)).toNatClampNeg)) hk

theorem law_8 {A : St} {σ : Sg} {d : Dt} {xs : Nat → Int32} {L i : Nat} {Q : Int32 → Prop} {kb : Sg → Dt → Option Int32} (hL : L ≤ 3072) (hi : i + 6 ≤ L) (hI : Inv A σ d) (hk : ∀ A' σ' d', Inv A' σ' d' → ok (kb σ' d') Q) : ok (f_law_C8 xs L kb 0 265 294 (nI i) σ d) Q := by
  have hS := hI.1
  have hn := hI.2.1
  have hW := hI.2.2.1
  have hC := hI.2.2.2.1
  have hsz := hS.1
  unfold f_law_C8
  refine ok_chk (cki il_1 (by omega) hL) ?_
  exact law_go (fun d' => f_X11_doubts σ 265 (xs (nI i + (1 : Int32)).toNatClampNeg) d') hI (C_doubts hS hn hW hC (xs (nI i + (1 : Int32)).toNatClampNeg)) (fun d' hM' => M_doubts hS hW hM' (xs (nI i + (1 : Int32)).toNatClampNeg)) (N_doubts hW (xs (nI i + (1 : Int32)).toNatClampNeg)) hk

theorem law_9 {A : St} {σ : Sg} {d : Dt} {xs : Nat → Int32} {L i : Nat} {Q : Int32 → Prop} {kb : Sg → Dt → Option Int32} (hL : L ≤ 3072) (hi : i + 6 ≤ L) (hI : Inv A σ d) (hk : ∀ A' σ' d', Inv A' σ' d' → ok (kb σ' d') Q) : ok (f_law_C9 xs L kb 0 265 294 (nI i) σ d) Q := by
  have hS := hI.1
  have hn := hI.2.1
  have hW := hI.2.2.1
  have hC := hI.2.2.2.1
  have hsz := hS.1
  unfold f_law_C9
  refine ok_chk (cki il_1 (by omega) hL) ?_
  exact law_go (fun d' => f_X11_load σ 265 (xs (nI i + (1 : Int32)).toNatClampNeg) d') hI (C_load hS hn hW hC (xs (nI i + (1 : Int32)).toNatClampNeg)) (fun d' hM' => M_load hS hW hM' (xs (nI i + (1 : Int32)).toNatClampNeg)) (N_load hW (xs (nI i + (1 : Int32)).toNatClampNeg)) hk

theorem law_10 {A : St} {σ : Sg} {d : Dt} {xs : Nat → Int32} {L i : Nat} {Q : Int32 → Prop} {kb : Sg → Dt → Option Int32} (hL : L ≤ 3072) (hi : i + 6 ≤ L) (hI : Inv A σ d) (hk : ∀ A' σ' d', Inv A' σ' d' → ok (kb σ' d') Q) : ok (f_law_C10 xs L kb 0 265 294 (nI i) σ d) Q := by
  have hS := hI.1
  have hn := hI.2.1
  have hW := hI.2.2.1
  have hC := hI.2.2.2.1
  have hsz := hS.1
  unfold f_law_C10
  refine ok_chk (cki il_1 (by omega) hL) ?_
  refine ok_chk (cki il_2 (by omega) hL) ?_
  exact law_go (fun d' => f_X11_loadIf σ 265 (xs (nI i + (1 : Int32)).toNatClampNeg) (xs (nI i + (2 : Int32)).toNatClampNeg) d') hI (C_loadIf hS hn hW hC (xs (nI i + (1 : Int32)).toNatClampNeg) (xs (nI i + (2 : Int32)).toNatClampNeg)) (fun d' hM' => M_loadIf hS hW hM' (xs (nI i + (1 : Int32)).toNatClampNeg) (xs (nI i + (2 : Int32)).toNatClampNeg)) (N_loadIf hW (xs (nI i + (1 : Int32)).toNatClampNeg) (xs (nI i + (2 : Int32)).toNatClampNeg)) hk

theorem law_11 {A : St} {σ : Sg} {d : Dt} {xs : Nat → Int32} {L i : Nat} {Q : Int32 → Prop} {kb : Sg → Dt → Option Int32} (hL : L ≤ 3072) (hi : i + 6 ≤ L) (hI : Inv A σ d) (hk : ∀ A' σ' d', Inv A' σ' d' → ok (kb σ' d') Q) : ok (f_law_C11 xs L kb 0 265 294 (nI i) σ d) Q := by
  have hS := hI.1
  have hn := hI.2.1
  have hW := hI.2.2.1
  have hC := hI.2.2.2.1
  have hsz := hS.1
  unfold f_law_C11
  refine ok_chk (cki il_1 (by omega) hL) ?_
  refine ok_chk (cki il_2 (by omega) hL) ?_
  exact law_goL (fun d' => f_X11_readings σ 265 (xs (nI i + (1 : Int32)).toNatClampNeg) (xs (nI i + (2 : Int32)).toNatClampNeg) d') hI (C_readings hS hn hW hC (xs (nI i + (1 : Int32)).toNatClampNeg) (xs (nI i + (2 : Int32)).toNatClampNeg)) (fun d' hM' => M_readings hS hW hM' (xs (nI i + (1 : Int32)).toNatClampNeg) (xs (nI i + (2 : Int32)).toNatClampNeg)) (N_readings hW (xs (nI i + (1 : Int32)).toNatClampNeg) (xs (nI i + (2 : Int32)).toNatClampNeg)) hk

theorem law_12 {A : St} {σ : Sg} {d : Dt} {xs : Nat → Int32} {L i : Nat} {Q : Int32 → Prop} {kb : Sg → Dt → Option Int32} (hL : L ≤ 3072) (hi : i + 6 ≤ L) (hI : Inv A σ d) (hk : ∀ A' σ' d', Inv A' σ' d' → ok (kb σ' d') Q) : ok (f_law_C12 xs L kb 0 265 294 (nI i) σ d) Q := by
  have hS := hI.1
  have hn := hI.2.1
  have hW := hI.2.2.1
  have hC := hI.2.2.2.1
  have hsz := hS.1
  unfold f_law_C12
  refine ok_chk (cki il_1 (by omega) hL) ?_
  refine ok_chk (cki il_2 (by omega) hL) ?_
  exact law_goL (fun d' => f_X11_readingsAnew σ 265 (xs (nI i + (1 : Int32)).toNatClampNeg) (xs (nI i + (2 : Int32)).toNatClampNeg) d') hI (C_readingsAnew hS hn hW hC (xs (nI i + (1 : Int32)).toNatClampNeg) (xs (nI i + (2 : Int32)).toNatClampNeg)) (fun d' hM' => M_readingsAnew hS hW hM' (xs (nI i + (1 : Int32)).toNatClampNeg) (xs (nI i + (2 : Int32)).toNatClampNeg)) (N_readings hW (xs (nI i + (1 : Int32)).toNatClampNeg) (xs (nI i + (2 : Int32)).toNatClampNeg)) hk

theorem law_13 {A : St} {σ : Sg} {d : Dt} {xs : Nat → Int32} {L i : Nat} {Q : Int32 → Prop} {kb : Sg → Dt → Option Int32} (hL : L ≤ 3072) (hi : i + 6 ≤ L) (hI : Inv A σ d) (hk : ∀ A' σ' d', Inv A' σ' d' → ok (kb σ' d') Q) : ok (f_law_C13 xs L kb 0 265 294 (nI i) σ d) Q := by
  have hS := hI.1
  have hn := hI.2.1
  have hW := hI.2.2.1
  have hC := hI.2.2.2.1
  have hsz := hS.1
  unfold f_law_C13
  refine ok_chk (cki il_1 (by omega) hL) ?_
  refine ok_chk (cki il_2 (by omega) hL) ?_
  exact law_go (fun d' => f_X11_fit σ 265 (xs (nI i + (1 : Int32)).toNatClampNeg) (xs (nI i + (2 : Int32)).toNatClampNeg) d') hI (C_fit hS hn hW hC (xs (nI i + (1 : Int32)).toNatClampNeg) (xs (nI i + (2 : Int32)).toNatClampNeg)) (fun d' hM' => M_fit hS hW hM' (xs (nI i + (1 : Int32)).toNatClampNeg) (xs (nI i + (2 : Int32)).toNatClampNeg)) (N_fit hW (xs (nI i + (1 : Int32)).toNatClampNeg) (xs (nI i + (2 : Int32)).toNatClampNeg)) hk

theorem law_14 {A : St} {σ : Sg} {d : Dt} {xs : Nat → Int32} {L i : Nat} {Q : Int32 → Prop} {kb : Sg → Dt → Option Int32} (hL : L ≤ 3072) (hi : i + 6 ≤ L) (hI : Inv A σ d) (hk : ∀ A' σ' d', Inv A' σ' d' → ok (kb σ' d') Q) : ok (f_law_C14 xs L kb 0 265 294 (nI i) σ d) Q := by
  have hS := hI.1
  have hn := hI.2.1
  have hW := hI.2.2.1
  have hC := hI.2.2.2.1
  have hsz := hS.1
  unfold f_law_C14
  refine ok_chk (cki il_1 (by omega) hL) ?_
  refine ok_chk (cki il_2 (by omega) hL) ?_
  exact law_go (fun d' => f_X11_shape σ 265 (xs (nI i + (1 : Int32)).toNatClampNeg) (xs (nI i + (2 : Int32)).toNatClampNeg) d') hI (C_shape hS hn hW hC (xs (nI i + (1 : Int32)).toNatClampNeg) (xs (nI i + (2 : Int32)).toNatClampNeg)) (fun d' hM' => M_shape hS hW hM' (xs (nI i + (1 : Int32)).toNatClampNeg) (xs (nI i + (2 : Int32)).toNatClampNeg)) (N_shape hW (xs (nI i + (1 : Int32)).toNatClampNeg) (xs (nI i + (2 : Int32)).toNatClampNeg)) hk

theorem law_15 {A : St} {σ : Sg} {d : Dt} {xs : Nat → Int32} {L i : Nat} {Q : Int32 → Prop} {kb : Sg → Dt → Option Int32} (hL : L ≤ 3072) (hi : i + 6 ≤ L) (hI : Inv A σ d) (hk : ∀ A' σ' d', Inv A' σ' d' → ok (kb σ' d') Q) : ok (f_law_C15 xs L kb 0 265 294 (nI i) σ d) Q := by
  have hS := hI.1
  have hn := hI.2.1
  have hW := hI.2.2.1
  have hC := hI.2.2.2.1
  have hsz := hS.1
  unfold f_law_C15
  refine ok_chk (cki il_1 (by omega) hL) ?_
  refine ok_chk (cki il_2 (by omega) hL) ?_
  exact law_go (fun d' => f_X11_apart σ 265 (xs (nI i + (1 : Int32)).toNatClampNeg) (xs (nI i + (2 : Int32)).toNatClampNeg) d') hI (C_apart hS hn hW hC (xs (nI i + (1 : Int32)).toNatClampNeg) (xs (nI i + (2 : Int32)).toNatClampNeg)) (fun d' hM' => M_apart hS hW hM' (xs (nI i + (1 : Int32)).toNatClampNeg) (xs (nI i + (2 : Int32)).toNatClampNeg)) (N_apart hW (xs (nI i + (1 : Int32)).toNatClampNeg) (xs (nI i + (2 : Int32)).toNatClampNeg)) hk

theorem law_16 {A : St} {σ : Sg} {d : Dt} {xs : Nat → Int32} {L i : Nat} {Q : Int32 → Prop} {kb : Sg → Dt → Option Int32} (hL : L ≤ 3072) (hi : i + 6 ≤ L) (hI : Inv A σ d) (hk : ∀ A' σ' d', Inv A' σ' d' → ok (kb σ' d') Q) : ok (f_law_C16 xs L kb 0 265 294 (nI i) σ d) Q := by
  have hS := hI.1
  have hn := hI.2.1
  have hW := hI.2.2.1
  have hC := hI.2.2.2.1
  have hsz := hS.1
  unfold f_law_C16
  refine ok_chk (cki il_1 (by omega) hL) ?_
  exact law_go (fun d' => f_X11_clear σ 265 (xs (nI i + (1 : Int32)).toNatClampNeg) d') hI (C_clear hS hn hW hC (xs (nI i + (1 : Int32)).toNatClampNeg)) (fun d' hM' => M_clear hS hW hM' (xs (nI i + (1 : Int32)).toNatClampNeg)) (N_clear hW (xs (nI i + (1 : Int32)).toNatClampNeg)) hk

theorem law_17 {A : St} {σ : Sg} {d : Dt} {xs : Nat → Int32} {L i : Nat} {Q : Int32 → Prop} {kb : Sg → Dt → Option Int32} (hL : L ≤ 3072) (hi : i + 6 ≤ L) (hI : Inv A σ d) (hk : ∀ A' σ' d', Inv A' σ' d' → ok (kb σ' d') Q) : ok (f_law_C17 xs L kb 0 265 294 (nI i) σ d) Q := by
  have hS := hI.1
  have hn := hI.2.1
  have hW := hI.2.2.1
  have hC := hI.2.2.2.1
  have hsz := hS.1
  unfold f_law_C17
  refine ok_chk (cki il_1 (by omega) hL) ?_
  refine ok_chk (cki il_2 (by omega) hL) ?_
  exact law_go (fun d' => f_X11_errors σ 265 (xs (nI i + (1 : Int32)).toNatClampNeg) (xs (nI i + (2 : Int32)).toNatClampNeg) d') hI (C_errors hS hn hW hC (xs (nI i + (1 : Int32)).toNatClampNeg) (xs (nI i + (2 : Int32)).toNatClampNeg)) (fun d' hM' => M_errors hS hW hM' (xs (nI i + (1 : Int32)).toNatClampNeg) (xs (nI i + (2 : Int32)).toNatClampNeg)) (N_errors hW (xs (nI i + (1 : Int32)).toNatClampNeg) (xs (nI i + (2 : Int32)).toNatClampNeg)) hk

theorem law_18 {A : St} {σ : Sg} {d : Dt} {xs : Nat → Int32} {L i : Nat} {Q : Int32 → Prop} {kb : Sg → Dt → Option Int32} (hL : L ≤ 3072) (hi : i + 6 ≤ L) (hI : Inv A σ d) (hk : ∀ A' σ' d', Inv A' σ' d' → ok (kb σ' d') Q) : ok (f_law_C18 xs L kb 0 265 294 (nI i) σ d) Q := by
  have hS := hI.1
  have hn := hI.2.1
  have hW := hI.2.2.1
  have hC := hI.2.2.2.1
  have hsz := hS.1
  unfold f_law_C18
  refine ok_chk (cki il_1 (by omega) hL) ?_
  refine ok_chk (cki il_2 (by omega) hL) ?_
  exact law_go (fun d' => f_X11_primer σ 265 (xs (nI i + (1 : Int32)).toNatClampNeg) (xs (nI i + (2 : Int32)).toNatClampNeg) d') hI (C_primer hS hn hW hC (xs (nI i + (1 : Int32)).toNatClampNeg) (xs (nI i + (2 : Int32)).toNatClampNeg)) (fun d' hM' => M_primer hS hW hM' (xs (nI i + (1 : Int32)).toNatClampNeg) (xs (nI i + (2 : Int32)).toNatClampNeg)) (N_primer hW (xs (nI i + (1 : Int32)).toNatClampNeg) (xs (nI i + (2 : Int32)).toNatClampNeg)) hk

theorem law_19 {A : St} {σ : Sg} {d : Dt} {xs : Nat → Int32} {L i : Nat} {Q : Int32 → Prop} {kb : Sg → Dt → Option Int32} (hL : L ≤ 3072) (hi : i + 6 ≤ L) (hI : Inv A σ d) (hk : ∀ A' σ' d', Inv A' σ' d' → ok (kb σ' d') Q) : ok (f_law_C19 xs L kb 0 265 294 (nI i) σ d) Q := by
  have hS := hI.1
  have hn := hI.2.1
  have hW := hI.2.2.1
  have hC := hI.2.2.2.1
  have hsz := hS.1
  unfold f_law_C19
  refine ok_chk (cki il_1 (by omega) hL) ?_
  exact law_go (fun d' => f_X11_cost σ 265 (xs (nI i + (1 : Int32)).toNatClampNeg) d') hI (C_cost hS hn hW hC (xs (nI i + (1 : Int32)).toNatClampNeg)) (fun d' hM' => M_cost hS hW hM' (xs (nI i + (1 : Int32)).toNatClampNeg)) (N_cost hW (xs (nI i + (1 : Int32)).toNatClampNeg)) hk

theorem law_20 {A : St} {σ : Sg} {d : Dt} {xs : Nat → Int32} {L i : Nat} {Q : Int32 → Prop} {kb : Sg → Dt → Option Int32} (hL : L ≤ 3072) (hi : i + 6 ≤ L) (hI : Inv A σ d) (hk : ∀ A' σ' d', Inv A' σ' d' → ok (kb σ' d') Q) : ok (f_law_C20 xs L kb 0 265 294 (nI i) σ d) Q := by
  have hS := hI.1
  have hn := hI.2.1
  have hW := hI.2.2.1
  have hC := hI.2.2.2.1
  have hsz := hS.1
  unfold f_law_C20
  refine ok_chk (cki il_1 (by omega) hL) ?_
  exact law_go (fun d' => f_X11_leastCost σ 265 (xs (nI i + (1 : Int32)).toNatClampNeg) d') hI (C_leastCost hS hn hW hC (xs (nI i + (1 : Int32)).toNatClampNeg)) (fun d' hM' => M_leastCost hS hW hM' (xs (nI i + (1 : Int32)).toNatClampNeg)) (N_leastCost hW (xs (nI i + (1 : Int32)).toNatClampNeg)) hk

theorem law_21 {A : St} {σ : Sg} {d : Dt} {xs : Nat → Int32} {L i : Nat} {Q : Int32 → Prop} {kb : Sg → Dt → Option Int32} (hL : L ≤ 3072) (hi : i + 6 ≤ L) (hI : Inv A σ d) (hk : ∀ A' σ' d', Inv A' σ' d' → ok (kb σ' d') Q) : ok (f_law_C21 xs L kb 0 265 294 (nI i) σ d) Q := by
  have hS := hI.1
  have hn := hI.2.1
  have hW := hI.2.2.1
  have hC := hI.2.2.2.1
  have hsz := hS.1
  unfold f_law_C21
  refine ok_chk (cki il_1 (by omega) hL) ?_
  refine ok_chk (cki il_2 (by omega) hL) ?_
  refine ok_chk (cki il_3 (by omega) hL) ?_
  exact law_go (fun d' => f_X11_key σ 265 (xs (nI i + (1 : Int32)).toNatClampNeg) (xs (nI i + (2 : Int32)).toNatClampNeg) (xs (nI i + (3 : Int32)).toNatClampNeg) d') hI (C_key hS hn hW hC (xs (nI i + (1 : Int32)).toNatClampNeg) (xs (nI i + (2 : Int32)).toNatClampNeg) (xs (nI i + (3 : Int32)).toNatClampNeg)) (fun d' hM' => M_key hS hW hM' (xs (nI i + (1 : Int32)).toNatClampNeg) (xs (nI i + (2 : Int32)).toNatClampNeg) (xs (nI i + (3 : Int32)).toNatClampNeg)) (N_key hW (xs (nI i + (1 : Int32)).toNatClampNeg) (xs (nI i + (2 : Int32)).toNatClampNeg) (xs (nI i + (3 : Int32)).toNatClampNeg)) hk

theorem law_22 {A : St} {σ : Sg} {d : Dt} {xs : Nat → Int32} {L i : Nat} {Q : Int32 → Prop} {kb : Sg → Dt → Option Int32} (hL : L ≤ 3072) (hi : i + 6 ≤ L) (hI : Inv A σ d) (hk : ∀ A' σ' d', Inv A' σ' d' → ok (kb σ' d') Q) : ok (f_law_C22 xs L kb 0 265 294 (nI i) σ d) Q := by
  have hS := hI.1
  have hn := hI.2.1
  have hW := hI.2.2.1
  have hC := hI.2.2.2.1
  have hsz := hS.1
  unfold f_law_C22
  refine ok_chk (cki il_1 (by omega) hL) ?_
  exact law_go (fun d' => f_X11_travel σ 265 (xs (nI i + (1 : Int32)).toNatClampNeg) d') hI (C_travel hS hn hW hC (xs (nI i + (1 : Int32)).toNatClampNeg)) (fun d' hM' => M_travel hS hW hM' (xs (nI i + (1 : Int32)).toNatClampNeg)) (N_travel hW (xs (nI i + (1 : Int32)).toNatClampNeg)) hk

theorem law_23 {A : St} {σ : Sg} {d : Dt} {xs : Nat → Int32} {L i : Nat} {Q : Int32 → Prop} {kb : Sg → Dt → Option Int32} (hL : L ≤ 3072) (hi : i + 6 ≤ L) (hI : Inv A σ d) (hk : ∀ A' σ' d', Inv A' σ' d' → ok (kb σ' d') Q) : ok (f_law_C23 xs L kb 0 265 294 (nI i) σ d) Q := by
  have hS := hI.1
  have hn := hI.2.1
  have hW := hI.2.2.1
  have hC := hI.2.2.2.1
  have hsz := hS.1
  unfold f_law_C23
  refine ok_chk (cki il_1 (by omega) hL) ?_
  exact law_go (fun d' => f_X11_exchange σ 265 (xs (nI i + (1 : Int32)).toNatClampNeg) d') hI (C_exchange hS hn hW hC (xs (nI i + (1 : Int32)).toNatClampNeg)) (fun d' hM' => M_exchange hS hW hM' (xs (nI i + (1 : Int32)).toNatClampNeg)) (N_exchange hW (xs (nI i + (1 : Int32)).toNatClampNeg)) hk

theorem law_24 {A : St} {σ : Sg} {d : Dt} {xs : Nat → Int32} {L i : Nat} {Q : Int32 → Prop} {kb : Sg → Dt → Option Int32} (hL : L ≤ 3072) (hi : i + 6 ≤ L) (hI : Inv A σ d) (hk : ∀ A' σ' d', Inv A' σ' d' → ok (kb σ' d') Q) : ok (f_law_C24 xs L kb 0 265 294 (nI i) σ d) Q := by
  have hS := hI.1
  have hn := hI.2.1
  have hW := hI.2.2.1
  have hC := hI.2.2.2.1
  have hsz := hS.1
  unfold f_law_C24
  refine ok_chk (cki il_1 (by omega) hL) ?_
  refine ok_chk (cki il_2 (by omega) hL) ?_
  refine ok_chk (cki il_3 (by omega) hL) ?_
  refine ok_chk (cki il_4 (by omega) hL) ?_
  exact law_go (fun d' => f_X11_group σ 265 (xs (nI i + (1 : Int32)).toNatClampNeg) (xs (nI i + (2 : Int32)).toNatClampNeg) (xs (nI i + (3 : Int32)).toNatClampNeg) (xs (nI i + (4 : Int32)).toNatClampNeg) d') hI (C_group hS hn hW hC (xs (nI i + (1 : Int32)).toNatClampNeg) (xs (nI i + (2 : Int32)).toNatClampNeg) (xs (nI i + (3 : Int32)).toNatClampNeg) (xs (nI i + (4 : Int32)).toNatClampNeg)) (fun d' hM' => M_group hS hW hM' (xs (nI i + (1 : Int32)).toNatClampNeg) (xs (nI i + (2 : Int32)).toNatClampNeg) (xs (nI i + (3 : Int32)).toNatClampNeg) (xs (nI i + (4 : Int32)).toNatClampNeg)) (N_group hW (xs (nI i + (1 : Int32)).toNatClampNeg) (xs (nI i + (2 : Int32)).toNatClampNeg) (xs (nI i + (3 : Int32)).toNatClampNeg) (xs (nI i + (4 : Int32)).toNatClampNeg)) hk

theorem law_25 {A : St} {σ : Sg} {d : Dt} {xs : Nat → Int32} {L i : Nat} {Q : Int32 → Prop} {kb : Sg → Dt → Option Int32} (hL : L ≤ 3072) (hi : i + 6 ≤ L) (hI : Inv A σ d) (hk : ∀ A' σ' d', Inv A' σ' d' → ok (kb σ' d') Q) : ok (f_law_C25 xs L kb 0 265 294 (nI i) σ d) Q := by
  have hS := hI.1
  have hn := hI.2.1
  have hW := hI.2.2.1
  have hC := hI.2.2.2.1
  have hsz := hS.1
  unfold f_law_C25
  refine ok_chk (cki il_1 (by omega) hL) ?_
  refine ok_chk (cki il_2 (by omega) hL) ?_
  exact law_go (fun d' => f_X11_score σ 265 (xs (nI i + (1 : Int32)).toNatClampNeg) (xs (nI i + (2 : Int32)).toNatClampNeg) d') hI (C_score hS hn hW hC (xs (nI i + (1 : Int32)).toNatClampNeg) (xs (nI i + (2 : Int32)).toNatClampNeg)) (fun d' hM' => M_score hS hW hM' (xs (nI i + (1 : Int32)).toNatClampNeg) (xs (nI i + (2 : Int32)).toNatClampNeg)) (N_score hW (xs (nI i + (1 : Int32)).toNatClampNeg) (xs (nI i + (2 : Int32)).toNatClampNeg)) hk

theorem law_26 {A : St} {σ : Sg} {d : Dt} {xs : Nat → Int32} {L i : Nat} {Q : Int32 → Prop} {kb : Sg → Dt → Option Int32} (hL : L ≤ 3072) (hi : i + 6 ≤ L) (hI : Inv A σ d) (hk : ∀ A' σ' d', Inv A' σ' d' → ok (kb σ' d') Q) : ok (f_law_C26 xs L kb 0 265 294 (nI i) σ d) Q := by
  have hS := hI.1
  have hn := hI.2.1
  have hW := hI.2.2.1
  have hC := hI.2.2.2.1
  have hsz := hS.1
  unfold f_law_C26
  refine ok_chk (cki il_1 (by omega) hL) ?_
  exact law_go (fun d' => f_X11_votes σ 265 (xs (nI i + (1 : Int32)).toNatClampNeg) d') hI (C_votes hS hn hW hC (xs (nI i + (1 : Int32)).toNatClampNeg)) (fun d' hM' => M_votes hS hW hM' (xs (nI i + (1 : Int32)).toNatClampNeg)) (N_votes hW (xs (nI i + (1 : Int32)).toNatClampNeg)) hk

theorem law_27 {A : St} {σ : Sg} {d : Dt} {xs : Nat → Int32} {L i : Nat} {Q : Int32 → Prop} {kb : Sg → Dt → Option Int32} (hL : L ≤ 3072) (hi : i + 6 ≤ L) (hI : Inv A σ d) (hk : ∀ A' σ' d', Inv A' σ' d' → ok (kb σ' d') Q) : ok (f_law_C27 xs L kb 0 265 294 (nI i) σ d) Q := by
  have hS := hI.1
  have hn := hI.2.1
  have hW := hI.2.2.1
  have hC := hI.2.2.2.1
  have hsz := hS.1
  unfold f_law_C27
  exact law_go (fun d' => f_X11_elected σ 265 d') hI (C_elected hS hn hW hC) (fun d' hM' => M_elected hS hW hM') (N_elected hW) hk

theorem law_28 {A : St} {σ : Sg} {d : Dt} {xs : Nat → Int32} {L i : Nat} {Q : Int32 → Prop} {kb : Sg → Dt → Option Int32} (hL : L ≤ 3072) (hi : i + 6 ≤ L) (hI : Inv A σ d) (hk : ∀ A' σ' d', Inv A' σ' d' → ok (kb σ' d') Q) : ok (f_law_C28 xs L kb 0 265 294 (nI i) σ d) Q := by
  have hS := hI.1
  have hn := hI.2.1
  have hW := hI.2.2.1
  have hC := hI.2.2.2.1
  have hsz := hS.1
  unfold f_law_C28
  refine ok_chk (cki il_1 (by omega) hL) ?_
  refine ok_chk (cki il_2 (by omega) hL) ?_
  exact law_go (fun d' => f_X11_reform σ 265 (xs (nI i + (1 : Int32)).toNatClampNeg) (xs (nI i + (2 : Int32)).toNatClampNeg) d') hI (C_reform hS hn hW hC (xs (nI i + (1 : Int32)).toNatClampNeg) (xs (nI i + (2 : Int32)).toNatClampNeg)) (fun d' hM' => M_reform hS hW hM' (xs (nI i + (1 : Int32)).toNatClampNeg) (xs (nI i + (2 : Int32)).toNatClampNeg)) (N_reform hW (xs (nI i + (1 : Int32)).toNatClampNeg) (xs (nI i + (2 : Int32)).toNatClampNeg)) hk

theorem law_29 {A : St} {σ : Sg} {d : Dt} {xs : Nat → Int32} {L i : Nat} {Q : Int32 → Prop} {kb : Sg → Dt → Option Int32} (hL : L ≤ 3072) (hi : i + 6 ≤ L) (hI : Inv A σ d) (hk : ∀ A' σ' d', Inv A' σ' d' → ok (kb σ' d') Q) : ok (f_law_C29 xs L kb 0 265 294 (nI i) σ d) Q := by
  have hS := hI.1
  have hn := hI.2.1
  have hW := hI.2.2.1
  have hC := hI.2.2.2.1
  have hsz := hS.1
  unfold f_law_C29
  refine ok_chk (cki il_1 (by omega) hL) ?_
  refine ok_chk (cki il_2 (by omega) hL) ?_
  exact law_go (fun d' => f_X11_lost σ 265 (xs (nI i + (1 : Int32)).toNatClampNeg) (xs (nI i + (2 : Int32)).toNatClampNeg) d') hI (C_lost hS hn hW hC (xs (nI i + (1 : Int32)).toNatClampNeg) (xs (nI i + (2 : Int32)).toNatClampNeg)) (fun d' hM' => M_lost hS hW hM' (xs (nI i + (1 : Int32)).toNatClampNeg) (xs (nI i + (2 : Int32)).toNatClampNeg)) (N_lost hW (xs (nI i + (1 : Int32)).toNatClampNeg) (xs (nI i + (2 : Int32)).toNatClampNeg)) hk

theorem law_sw {A : St} {σ : Sg} {d : Dt} {xs : Nat → Int32} {L i : Nat} {Q : Int32 → Prop} {kb : Sg → Dt → Option Int32} (hL : L ≤ 3072) (hi : i + 6 ≤ L) (hI : Inv A σ d) (hk : ∀ A' σ' d', Inv A' σ' d' → ok (kb σ' d') Q) (v : Int32) : ok (f_law_sw xs L kb v 0 265 294 (nI i) σ d) Q := by
  unfold f_law_sw
  refine ok_s (fun _ => law_0 hL hi hI hk) (fun _ => ?_)
  refine ok_s (fun _ => law_1 hL hi hI hk) (fun _ => ?_)
  refine ok_s (fun _ => law_2 hL hi hI hk) (fun _ => ?_)
  refine ok_s (fun _ => law_3 hL hi hI hk) (fun _ => ?_)
  refine ok_s (fun _ => law_4 hL hi hI hk) (fun _ => ?_)
  refine ok_s (fun _ => law_5 hL hi hI hk) (fun _ => ?_)
  refine ok_s (fun _ => law_6 hL hi hI hk) (fun _ => ?_)
  refine ok_s (fun _ => law_7 hL hi hI hk) (fun _ => ?_)
  refine ok_s (fun _ => law_8 hL hi hI hk) (fun _ => ?_)
  refine ok_s (fun _ => law_9 hL hi hI hk) (fun _ => ?_)
  refine ok_s (fun _ => law_10 hL hi hI hk) (fun _ => ?_)
  refine ok_s (fun _ => law_11 hL hi hI hk) (fun _ => ?_)
  refine ok_s (fun _ => law_12 hL hi hI hk) (fun _ => ?_)
  refine ok_s (fun _ => law_13 hL hi hI hk) (fun _ => ?_)
  refine ok_s (fun _ => law_14 hL hi hI hk) (fun _ => ?_)
  refine ok_s (fun _ => law_15 hL hi hI hk) (fun _ => ?_)
  refine ok_s (fun _ => law_16 hL hi hI hk) (fun _ => ?_)
  refine ok_s (fun _ => law_17 hL hi hI hk) (fun _ => ?_)
  refine ok_s (fun _ => law_18 hL hi hI hk) (fun _ => ?_)
  refine ok_s (fun _ => law_19 hL hi hI hk) (fun _ => ?_)
  refine ok_s (fun _ => law_20 hL hi hI hk) (fun _ => ?_)
  refine ok_s (fun _ => law_21 hL hi hI hk) (fun _ => ?_)
  refine ok_s (fun _ => law_22 hL hi hI hk) (fun _ => ?_)
  refine ok_s (fun _ => law_23 hL hi hI hk) (fun _ => ?_)
  refine ok_s (fun _ => law_24 hL hi hI hk) (fun _ => ?_)
  refine ok_s (fun _ => law_25 hL hi hI hk) (fun _ => ?_)
  refine ok_s (fun _ => law_26 hL hi hI hk) (fun _ => ?_)
  refine ok_s (fun _ => law_27 hL hi hI hk) (fun _ => ?_)
  refine ok_s (fun _ => law_28 hL hi hI hk) (fun _ => ?_)
  refine ok_s (fun _ => law_29 hL hi hI hk) (fun _ => ?_)
  exact hk A σ d hI

theorem gr_lt {x y : Int} (hx : -1073741824 ≤ x ∧ x < 1073741824) (hy : -1073741824 ≤ y ∧ y < 1073741824) : (Int32.ofInt x < Int32.ofInt y) = (x < y) := by
  rw [Int32.lt_iff_toInt_lt, Int32.toInt_ofInt_of_le (by omega) (by omega), Int32.toInt_ofInt_of_le (by omega) (by omega)]
theorem law_L {xs : Nat → Int32} {L : Nat} (hL : L ≤ 3072) : ∀ (n i : Nat) (A : St) (σ : Sg) (d : Dt), L < i + 6 * n → i ≤ L → Inv A σ d → ok (f_law_L xs L 0 265 294 n (nI i) σ d) (fun z => z = 1) := by
  intro n
  induction n with
  | zero => intro i A σ d h1 h2 hI; omega
  | succ n ih =>
    intro i A σ d h1 h2 hI
    have e6 : Int32.ofNat L - (6 : Int32) = Int32.ofInt ((L : Int) - 6) := by
      rw [Int32.ofInt_sub, Int32.ofInt_eq_ofNat]; rfl
    have hlt : (Int32.ofNat L - (6 : Int32) < nI i) = ((L : Int) - 6 < (i : Int)) := by
      rw [e6, nZ, gr_lt (by omega) (by omega)]
    show ok (if Int32.ofNat L - 6 < nI i then some 1 else aw_chk (¬ (nI i < 0 ∨ L ≤ (nI i).toNatClampNeg)) (f_law_sw xs L (fun σ d => f_law_L xs L 0 265 294 n (nI i + 6) σ d) (xs (nI i).toNatClampNeg &&& 31) 0 265 294 (nI i) σ d)) _
    refine ok_s (fun _ => ok_some rfl) (fun h => ?_)
    rw [hlt] at h
    refine ok_chk (by rw [il_0, nI_cl (by omega), nI_ltJ (by omega) (by omega)]; omega) ?_
    refine law_sw hL (by omega) hI (fun A' σ' d' hI' => ?_) _
    show ok (f_law_L xs L 0 265 294 n (nI i + 6) σ' d') _
    rw [il_6, nI_add]
    exact ih (i + 6) A' σ' d' (by omega) (by omega) hI'

