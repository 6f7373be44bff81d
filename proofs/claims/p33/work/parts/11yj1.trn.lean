/-! the law, turn by turn -/
theorem and_M (x : Int32) : ∃ m, m < 2147483648 ∧ x &&& 2147483647 = nI m := by
  have e : x.toBitVec.toNat &&& 2147483647 = x.toBitVec.toNat % 2147483648 := Nat.and_two_pow_sub_one_eq_mod _ 31
  refine ⟨x.toBitVec.toNat &&& 2147483647, by rw [e]; exact Nat.mod_lt _ (by omega), ?_⟩
  apply Int32.toBitVec_inj.mp
  rw [Int32.toBitVec_and]
  show x.toBitVec &&& 2147483647#32 = BitVec.ofNat 32 _
  apply BitVec.eq_of_toNat_eq
  rw [BitVec.toNat_and, BitVec.toNat_ofNat, BitVec.toNat_ofNat, Nat.mod_eq_of_lt (show 2147483647 < 2 ^ 32 by decide), Nat.mod_eq_of_lt]
  rw [e]
  exact Nat.lt_of_lt_of_le (Nat.mod_lt _ (by omega)) (by decide)
theorem L_part {xs : Nat → Int32} {L : Nat} {σ : Sg} {d : Dt} {k n : Nat} (hL : L ≤ 260) (hk : k < 60000) (hn : 0 < n) (hn2 : n < 2147483648) : ∃ r, r < n ∧ f_L_part xs L σ (nI k) (nI n) d = some (nI r, d) := by
  have key : ∀ x : Int32, ∃ r, r < n ∧ f_L_part_J25 σ x (nI n) d = some (nI r, d) := fun x => by
    obtain ⟨m, hm, e⟩ := and_M x
    refine ⟨m % n, Nat.mod_lt _ hn, ?_⟩
    unfold f_L_part_J25
    rw [ck_t (by rw [il_0, nI_eqJ hn2 (by omega)]; omega), e, nI_mod hm hn2]
  unfold f_L_part
  by_cases c : L ≤ k
  · rw [if_pos (show Int32.ofNat L ≤ nI k by show nI L ≤ nI k; rw [nI_leJ (by omega) (by omega)]; exact c)]
    exact key _
  · rw [if_neg (show ¬ Int32.ofNat L ≤ nI k by show ¬ nI L ≤ nI k; rw [nI_leJ (by omega) (by omega)]; exact c), ck_t (by rw [il_0, nI_ltJ (by omega) (by omega), nI_cl (by omega)]; omega)]
    exact key _
def Inv (A : St) (σ : Sg) (d : Dt) : Prop := Lay σ ∧ ly_n σ = A 11 0 0 ∧ WF A ∧ SoI A d
def One (z : Int32) : Prop := z = 1
theorem K_J593 {xs : Nat → Int32} {L : Nat} {A : St} {σ : Sg} {d : Dt} {i one two : Nat} {kb : Int32 → Int32 → Sg → Dt → Option Int32} (hI : Inv A σ d) (hi : i < 60) (h1 : one < 60000) (h2 : two < 60000) (hkb : ∀ (A : St) (σ : Sg) (d : Dt), Inv A σ d → ok (kb (nI 1) (nI (i + 1)) σ d) One) : ok (f_L_law_J593 xs L kb 0 265 266 267 268 269 270 271 272 273 274 275 276 (nI 1) (nI i) (nI one) (nI two) σ d) One := by
  obtain ⟨hS, hn, hW, hI⟩ := hI
  have hd2 := hI.2.1.d2
  have m2 : nI i - nI i / (2 : Int32) * (2 : Int32) = nI (i % 2) := by rw [il_2]; exact nI_mod (by omega) (by omega)
  have m4 : nI i - nI i / (4 : Int32) * (4 : Int32) = nI (i % 4) := by rw [il_4]; exact nI_mod (by omega) (by omega)
  have q1 : d.1 274 (Int32.toNatClampNeg 1) = nI (A 11 0 0) := rq_des hI.2.1
  have h741 : aw_I σ 20 274 1 := ly_I (N := 2) (i := 1) hS (by decide) (by decide) (by decide) (by decide)
  have fin : ∀ d', SoI A d' → ok (f_L_law_J720 xs L kb 0 265 266 267 268 269 270 271 272 273 274 275 276 (nI i) σ d') One := fun d' hI' => by
    unfold f_L_law_J720 f_L_law_J725
    rw [il_1, nI_add]
    exact hkb A σ d' ⟨hS, hn, hW, hI'⟩
  unfold f_L_law_J593
  rw [if_neg (show ¬ nI 1 = 0 by decide), m2, m4]
  by_cases c2 : i % 2 = 0
  · rw [if_pos (by rw [c2]; rfl)]
    refine ok_bind (L_areSo hS hn hW hI h1 h2) (fun z hz => ?_)
    rw [hz.1, if_neg (show ¬ nI 1 = 0 by decide)]
    exact fin _ hz.2
  · rw [if_neg (by rw [il_0, nI_eqJ (by omega) (by omega)]; exact c2)]
    by_cases c4 : i % 4 = 1
    · rw [if_pos (by rw [c4]; rfl)]
      refine ok_chk h741 ?_
      rw [q1]
      by_cases cD : A 11 0 0 < 1
      · rw [if_pos (by rw [il_1, nI_ltJ (by omega) (by omega)]; exact cD)]
        exact fin _ hI
      · rw [if_neg (by rw [il_1, nI_ltJ (by omega) (by omega)]; exact cD)]
        refine ok_bind (L_isSo (D := 0) hS hn hW hI.1 hI.2 (by omega) h1 h2) (fun z hz => ?_)
        rw [hz.1, if_neg (show ¬ nI 1 = 0 by decide)]
        exact fin _ hz.2
    · rw [if_neg (by rw [il_1, nI_eqJ (by omega) (by omega)]; exact c4)]
      refine ok_chk h741 ?_
      rw [q1]
      by_cases cD : A 11 0 0 < 2
      · rw [if_pos (by rw [il_2, nI_ltJ (by omega) (by omega)]; exact cD)]
        exact fin _ hI
      · rw [if_neg (by rw [il_2, nI_ltJ (by omega) (by omega)]; exact cD)]
        refine ok_bind (L_isSo (D := 1) hS hn hW hI.1 hI.2 (by omega) h2 h1) (fun z hz => ?_)
        rw [hz.1, if_neg (show ¬ nI 1 = 0 by decide)]
        exact fin _ hz.2
theorem K_J503 {xs : Nat → Int32} {L : Nat} {A : St} {σ : Sg} {d : Dt} {i w D one two : Nat} {kb : Int32 → Int32 → Sg → Dt → Option Int32} (hI : Inv A σ d) (hi : i < 60) (hw : w < 40) (hD : D < 3) (hDn : D = 2 → A 11 0 0 ≤ 2) (h1 : one < 60000) (h2 : two < 60000) (hkb : ∀ (A : St) (σ : Sg) (d : Dt), Inv A σ d → ok (kb (nI 1) (nI (i + 1)) σ d) One) : ok (f_L_law_J503 xs L kb (nI D) 0 265 266 267 268 269 270 271 272 273 274 275 276 (nI i) (nI w) (nI one) (nI two) σ d) One := by
  have hd2 := hI.2.2.2.2.1.d2
  have fin1 : ∀ what, what < 3 → D = 1 → ok (f_L_law_J542 xs L kb (nI what) 1 274 271 269 0 0 265 266 267 268 269 270 271 272 273 274 275 276 (nI i) (nI one) (nI two) σ d) One := fun what hwh e => by
    unfold f_L_law_J542 f_L_law_J591
    refine ok_bind (L_isDesign (a := 269) (r := 271) (D := 1) hI.1 hI.2.1 hI.2.2.1 hI.2.2.2 (Or.inr rfl) (Or.inr rfl) (by omega) (fun _ => ⟨rfl, rfl⟩) hwh h1 h2) (fun z hz => ?_)
    obtain ⟨z1, B, hWB, e11, hIB⟩ := hz
    rw [z1]
    exact K_J593 ⟨hI.1, hI.2.1.trans e11.symm, hWB, hIB⟩ hi h1 h2 hkb
  have fin0 : ∀ what, what < 3 → D ≠ 1 → ok (f_L_law_J584 xs L kb (nI what) (nI D) 274 270 268 0 0 265 266 267 268 269 270 271 272 273 274 275 276 (nI i) (nI one) (nI two) σ d) One := fun what hwh e => by
    unfold f_L_law_J584 f_L_law_J591
    refine ok_bind (L_isDesign (a := 268) (r := 270) hI.1 hI.2.1 hI.2.2.1 hI.2.2.2 (Or.inl rfl) (Or.inl rfl) hD (fun h => by omega) hwh h1 h2) (fun z hz => ?_)
    obtain ⟨z1, B, hWB, e11, hIB⟩ := hz
    rw [z1]
    exact K_J593 ⟨hI.1, hI.2.1.trans e11.symm, hWB, hIB⟩ hi h1 h2 hkb
  unfold f_L_law_J503
  by_cases e : D = 1
  · rw [if_pos (by rw [e]; rfl)]
    exact ok_s (fun _ => ok_s (fun _ => fin1 2 (by omega) e) (fun _ => fin1 1 (by omega) e)) (fun _ => fin1 0 (by omega) e)
  · rw [if_neg (by rw [il_1, nI_eqJ (by omega) (by omega)]; exact e)]
    exact ok_s (fun _ => ok_s (fun _ => fin0 2 (by omega) e) (fun _ => fin0 1 (by omega) e)) (fun _ => fin0 0 (by omega) e)
theorem K_told {xs : Nat → Int32} {L : Nat} {A : St} {σ : Sg} {d : Dt} {i what one two : Nat} {kb : Int32 → Int32 → Sg → Dt → Option Int32} (hI : Inv A σ d) (hi : i < 60) (hwh : what < 3) (h1 : one < 60000) (h2 : two < 60000) (hkb : ∀ (A : St) (σ : Sg) (d : Dt), Inv A σ d → ok (kb (nI 1) (nI (i + 1)) σ d) One) : ok (f_L_law_J433 xs L kb (nI what) 274 273 272 269 268 0 0 265 266 267 268 269 270 271 272 273 274 275 276 (nI i) (nI one) (nI two) σ d) One := by
  have hsz := hI.1.sz
  unfold f_L_law_J433
  refine ok_chk (by omega) (ok_chk (by omega) (ok_chk (by omega) (ok_chk (by omega) (ok_chk (by omega) (ok_chk (by omega) (ok_chk (by omega) (ok_chk (by omega) (ok_chk (by omega) (ok_chk (by omega) (ok_chk (by omega) (ok_chk (by omega) (ok_chk (by omega) ?_))))))))))))
  refine ok_bind (L_isTold hI.1 hI.2.1 hI.2.2.1 hI.2.2.2 hwh h1 h2) (fun z hz => ?_)
  obtain ⟨z1, B, hWB, hSB, hnB, hIB⟩ := hz
  rw [z1]
  exact K_J593 ⟨hSB, hnB, hWB, hIB⟩ hi h1 h2 hkb
theorem K_word {xs : Nat → Int32} {L : Nat} {A : St} {σ : Sg} {d : Dt} {i what one two : Nat} {kb : Int32 → Int32 → Sg → Dt → Option Int32} (hI : Inv A σ d) (hi : i < 60) (hwh : what < 3) (h1 : one < 60000) (h2 : two < 60000) (hkb : ∀ (A : St) (σ : Sg) (d : Dt), Inv A σ d → ok (kb (nI 1) (nI (i + 1)) σ d) One) : ok (f_L_law_J391 xs L kb (nI what) 274 267 266 265 0 0 265 266 267 268 269 270 271 272 273 274 275 276 (nI i) (nI one) (nI two) σ d) One := by
  unfold f_L_law_J391
  refine ok_bind (L_isWord hI.1 hI.2.1 hI.2.2.1 hI.2.2.2 hwh h1 h2) (fun z hz => ?_)
  obtain ⟨z1, B, hWB, e11, hIB⟩ := hz
  rw [z1]
  exact K_J593 ⟨hI.1, hI.2.1.trans e11.symm, hWB, hIB⟩ hi h1 h2 hkb
theorem K_J324 {xs : Nat → Int32} {L : Nat} {A : St} {σ : Sg} {d : Dt} {i w : Nat} {kb : Int32 → Int32 → Sg → Dt → Option Int32} (hL : L ≤ 260) (hI : Inv A σ d) (hi : i < 60) (hw : w < 40) (hkb : ∀ (A : St) (σ : Sg) (d : Dt), Inv A σ d → ok (kb (nI 1) (nI (i + 1)) σ d) One) : ok (f_L_law_J324 xs L kb (nI w) 0 265 266 267 268 269 270 271 272 273 274 275 276 (nI i) σ d) One := by
  have hd2 := hI.2.2.2.2.1.d2
  obtain ⟨one, h1, e1⟩ := L_part (xs := xs) (σ := σ) (d := d) (k := 3 * i + 1) hL (by omega) (show 0 < 60000 by omega) (by omega)
  obtain ⟨two, h2, e2⟩ := L_part (xs := xs) (σ := σ) (d := d) (k := 3 * i + 2) hL (by omega) (show 0 < 60000 by omega) (by omega)
  have k1 : (3 : Int32) * nI i + 1 = nI (3 * i + 1) := by rw [il_3, il_1, nI_mulI, nI_add]
  have k2 : (3 : Int32) * nI i + 2 = nI (3 * i + 2) := by rw [il_3, il_2, nI_mulI, nI_add]
  have q1 : d.1 274 (Int32.toNatClampNeg 1) = nI (A 11 0 0) := rq_des hI.2.2.2.2.1
  have q60 : nI one / (60 : Int32) = nI (one / 60) := by rw [il_60, nI_divI (by omega) (by omega)]
  have m9 : nI (one / 60) - nI (one / 60) / (9 : Int32) * (9 : Int32) = nI (one / 60 % 9) := by rw [il_9]; exact nI_mod (by omega) (by omega)
  have m2 : nI (one / 60) - nI (one / 60) / (2 : Int32) * (2 : Int32) = nI (one / 60 % 2) := by rw [il_2]; exact nI_mod (by omega) (by omega)
  unfold f_L_law_J324
  rw [k1, k2]
  refine ok_bs e1 (ok_bs e2 ?_)
  rw [q60, m9, m2]
  refine ok_s (fun _ => ok_s (fun _ => ok_s (fun _ => ok_s (fun _ => ?_) (fun _ => ?_)) (fun _ => ?_)) (fun _ => ok_s (fun _ => ?_) (fun _ => ?_))) (fun _ => ok_s (fun _ => ok_s (fun _ => ?_) (fun _ => ?_)) (fun _ => ?_))
  · refine ok_chk (ly_I (N := 2) (i := 1) hI.1 (by decide) (by decide) (by decide) (by decide)) ?_
    rw [q1]
    exact K_J503 hI hi hw (by omega) (fun _ => hd2) h1 h2 hkb
  · exact K_J503 hI hi hw (by omega) (fun _ => hd2) h1 h2 hkb
  · exact K_told (what := 0) hI hi (by omega) h1 h2 hkb
  · exact K_told (what := 2) hI hi (by omega) h1 h2 hkb
  · exact K_told (what := 1) hI hi (by omega) h1 h2 hkb
  · exact K_word (what := 2) hI hi (by omega) h1 h2 hkb
  · exact K_word (what := 1) hI hi (by omega) h1 h2 hkb
  · exact K_word (what := 0) hI hi (by omega) h1 h2 hkb
theorem K_L244 {xs : Nat → Int32} {L : Nat} (hL : L ≤ 260) : ∀ (m i f : Nat) (A : St) (σ : Sg) (d : Dt), i + m = 60 → m < f → Inv A σ d → ok (f_L_law_L244 xs L f (fun x14_334 σ_336 d_335 => f_L_law_J733 xs L x14_334 σ_336 d_335) 0 265 266 267 268 269 270 271 272 273 274 275 276 (nI 1) (nI i) σ d) One := by
  intro m
  induction m with
  | zero =>
    intro i f A σ d hi hf hI
    cases f with
    | zero => omega
    | succ f =>
      obtain rfl : i = 60 := by omega
      show ok (f_L_law_B244 xs L (f_L_law_L244 xs L f _ 0 265 266 267 268 269 270 271 272 273 274 275 276) _ 0 265 266 267 268 269 270 271 272 273 274 275 276 (nI 1) (nI 60) σ d) One
      unfold f_L_law_B244
      rw [if_pos (by decide)]
      exact ok_some rfl
  | succ m ih =>
    intro i f A σ d hi hf hI
    cases f with
    | zero => omega
    | succ f =>
      have hi60 : i < 60 := by omega
      have hkb := fun (A : St) (σ : Sg) (d : Dt) (h : Inv A σ d) => ih (i + 1) f A σ d (by omega) (by omega) h
      have f0 := K_J324 (xs := xs) (w := 0) hL hI hi60 (by omega) hkb
      have f10 := K_J324 (xs := xs) (w := 10) hL hI hi60 (by omega) hkb
      obtain ⟨r, hr, e⟩ := L_part (xs := xs) (σ := σ) (d := d) (k := 3 * i) hL (by omega) (show 0 < 40 by omega) (by omega)
      have k3 : (3 : Int32) * nI i = nI (3 * i) := by rw [il_3, nI_mulI]
      show ok (f_L_law_B244 xs L (f_L_law_L244 xs L f _ 0 265 266 267 268 269 270 271 272 273 274 275 276) _ 0 265 266 267 268 269 270 271 272 273 274 275 276 (nI 1) (nI i) σ d) One
      unfold f_L_law_B244
      rw [if_neg (by rw [il_60, nI_leJ (by omega) (by omega)]; omega), if_neg (show ¬ nI 1 = 0 by decide)]
      refine ok_s (fun _ => ok_s (fun _ => f0) (fun _ => ok_s (fun _ => f0) (fun _ => ok_s (fun _ => f0) (fun _ => ok_s (fun _ => f10) (fun _ => ok_s (fun _ => f10) (fun _ => ok_s (fun _ => f10) (fun _ => ?_))))))) (fun _ => ?_)
      · rw [k3]
        exact ok_bs e (K_J324 (xs := xs) hL hI hi60 hr hkb)
      · exact K_J324 (xs := xs) (w := 24) hL hI hi60 (by omega) hkb
def S80 (i : Nat) (d0 d : Dt) : Prop := (∀ c, ¬ (270 ≤ c ∧ c ≤ 272) → d.1 c = d0.1 c) ∧ ∀ j, j < i → d.1 270 j = nI j ∧ d.1 271 j = nI j ∧ d.1 272 j = nI (shpO j)
theorem K_L80 {xs : Nat → Int32} {L : Nat} {σ : Sg} {d0 : Dt} (hS : Lay σ) {k : Sg → Dt → Option Int32} (hk : ∀ d, S80 50 d0 d → ok (k σ d) One) : ∀ (m i f : Nat) (d : Dt), i + m = 50 → m < f → S80 i d0 d → ok (f_L_law_L80 xs L f k 0 265 266 267 268 269 270 271 272 273 274 275 276 (nI i) σ d) One := by
  intro m
  induction m with
  | zero =>
    intro i f d hi hf h
    cases f with
    | zero => omega
    | succ f =>
      obtain rfl : i = 50 := by omega
      show ok (f_L_law_B80 xs L (f_L_law_L80 xs L f k 0 265 266 267 268 269 270 271 272 273 274 275 276) k 0 265 266 267 268 269 270 271 272 273 274 275 276 (nI 50) σ d) One
      unfold f_L_law_B80
      rw [if_pos (by decide)]
      exact hk d h
  | succ m ih =>
    intro i f d hi hf h
    cases f with
    | zero => omega
    | succ f =>
      have hi50 : i < 50 := by omega
      have q16 : nI i / (16 : Int32) = nI (i / 16) := by rw [il_16, nI_divI (by omega) (by omega)]
      have q4 : nI i / (4 : Int32) = nI (i / 4) := by rw [il_4, nI_divI (by omega) (by omega)]
      have m44 : nI (i / 4) - nI (i / 4) / (4 : Int32) * (4 : Int32) = nI (i / 4 % 4) := by rw [il_4]; exact nI_mod (by omega) (by omega)
      have m4 : nI i - nI (i / 4) * (4 : Int32) = nI (i % 4) := by
        rw [il_4, nI_mulI, nI_subI (by omega)]; congr 1; omega
      have es : (((100 : Int32) * nI (i / 16) + (10 : Int32) * nI (i / 4 % 4)) + nI (i % 4)) + (111 : Int32) = nI (shpO i) := by
        rw [il_100, il_10, il_111, nI_mulI, nI_mulI, nI_add, nI_add, nI_add]; rfl
      show ok (f_L_law_B80 xs L (f_L_law_L80 xs L f k 0 265 266 267 268 269 270 271 272 273 274 275 276) k 0 265 266 267 268 269 270 271 272 273 274 275 276 (nI i) σ d) One
      unfold f_L_law_B80
      rw [if_neg (by rw [il_50, nI_leJ (by omega) (by omega)]; omega)]
      refine ok_chk (ly_I (N := 50) hS (by decide) (by decide) hi50 (by decide)) (ok_chk (ly_I (N := 50) hS (by decide) (by decide) hi50 (by decide)) (ok_chk (ly_I (N := 50) hS (by decide) (by decide) hi50 (by decide)) ?_))
      rw [q16, q4, m44, m4, es, nI_cl (show i < 2147483648 by omega), il_1, nI_add]
      refine ih (i + 1) f _ (by omega) (by omega) ⟨fun c hc => ?_, fun j hj => ?_⟩
      · rw [← h.1 c hc]; funext j; rw [aw_sI_n (by omega), aw_sI_n (by omega), aw_sI_n (by omega)]
      · by_cases e : j = i
        · subst e
          refine ⟨?_, ?_, ?_⟩
          · rw [aw_sI_n (by omega), aw_sI_n (by omega), aw_sI_e rfl rfl]
          · rw [aw_sI_n (by omega), aw_sI_e rfl rfl]
          · rw [aw_sI_e rfl rfl]
        · have := h.2 j (by omega)
          refine ⟨?_, ?_, ?_⟩
          · rw [aw_sI_n (by omega), aw_sI_n (by omega), aw_sI_n (by omega)]; exact this.1
          · rw [aw_sI_n (by omega), aw_sI_n (by omega), aw_sI_n (by omega)]; exact this.2.1
          · rw [aw_sI_n (by omega), aw_sI_n (by omega), aw_sI_n (by omega)]; exact this.2.2
theorem st_A0 : st_A 0 0 0 = 0 ∧ st_A 2 0 0 = 0 ∧ st_A 11 0 0 = 0 := ⟨rfl, rfl, rfl⟩
theorem st_So {d : Dt} (h : S80 50 st_D d) : SoI st_A d := by
  obtain ⟨z1, z2, z3, z4, z5⟩ := st_z
  refine ⟨st_C.scr (by decide) (fun k hk => h.1 k (by omega)), ⟨?_, ?_, ?_, ?_, ?_, ?_, ?_, ?_, ?_, by decide, by decide⟩, ?_, ?_, ?_, ?_⟩
  · intro w hw; exact absurd hw (by show ¬ w < 0; omega)
  · intro w hw; exact absurd hw (by show ¬ w < 0; omega)
  · intro w hw; exact absurd hw (by show ¬ w < 0; omega)
  · rw [h.1 266 (by omega)]; exact z1
  · intro w hw; exact absurd hw (by show ¬ w < 0; omega)
  · intro x hx; rw [h.1 267 (by omega)]; exact z2 x hx
  · intro x hx c hc; exact absurd hc (by show ¬ c < 0; omega)
  · rw [h.1 274 (by omega)]; exact z3
  · rw [h.1 274 (by omega)]; exact z4
  · intro w hw; exact absurd hw (by show ¬ w < 0; omega)
  · intro D hD s hs
    rw [if_neg (show ¬ D < st_A 11 0 0 by show ¬ D < 0; omega)]
    rcases (show D = 0 ∨ D = 1 by omega) with rfl | rfl
    · exact (h.2 s hs).1
    · exact (h.2 s hs).2.1
  · intro s hs; exact (h.2 s hs).2.2
  · intro g hg
    rw [h.1 273 (by omega)]
    exact ⟨z5 _ (by omega), z5 _ (by omega), z5 _ (by omega)⟩
theorem law_all (xs : Nat → Int32) (L : Nat) (hL : L ≤ 260) : f_law xs L aw_s0 aw_d0 = some 1 := by
  rw [law_stG, stG_is]
  have hS := st_Lay.1
  have hn : ly_n st_S = st_A 11 0 0 := st_Lay.2
  have key : ok (stK xs L 0 265 266 267 268 269 270 271 272 273 274 275 276 st_S st_D) One := by
    unfold stK
    refine K_L80 (d0 := st_D) hS (fun d h => ?_) 50 0 aw_FU st_D (by omega) (by show _ < 5000; omega) ⟨fun _ _ => rfl, fun j hj => by omega⟩
    have I0 := st_So h
    refine ok_bind (D_elected hS hn st_WF I0.1 0 0 0 0 0) (fun z hz => ?_)
    have e1 : o_elected st_A = o_bad st_A 1 := rfl
    rw [e1] at hz
    have I1 := I0.c hz.2.1 hz.2.2
    rw [if_pos (show z.1 = -1000000 from hz.1)]
    refine ok_bind (D_word hS hn st_WF I1.1 1000 0 0 0 0) (fun y hy => ?_)
    have e2 : o_word st_A 1000 = (1, nI 0, st_A) := by unfold o_word; rw [if_pos (by decide)]
    rw [e2] at hy
    have I2 := I1.c hy.2.1 hy.2.2
    rw [if_pos (show y.1 = -2000000 from hy.1)]
    refine ok_bind (D_word hS hn st_WF I2.1 1 0 0 0 0) (fun x hx => ?_)
    have e3 : o_word st_A 1 = (2, nI 0, st_A) := by unfold o_word; rw [if_neg (by decide), if_pos (Or.inl (show st_A 0 0 0 = 0 from rfl))]
    rw [e3] at hx
    have I3 := I2.c hx.2.1 hx.2.2
    rw [if_pos (show x.1 = -1000000 from hx.1)]
    refine ok_bind (D_leastCost hS hn st_WF I3.1 0 0 0 0 0) (fun u hu => ?_)
    have e4 : o_leastCost st_A 0 = o_bad st_A 1 := by unfold o_leastCost; rw [if_pos (by decide)]
    rw [e4] at hu
    have I4 := I3.c hu.2.1 hu.2.2
    rw [if_pos (show u.1 = -3000000 from hu.1)]
    refine ok_bind (D_errors hS hn st_WF I4.1 0 5 0 0 0) (fun v hv => ?_)
    have e5 : o_errors st_A 0 5 = o_bad st_A 1 := by unfold o_errors; rw [if_pos (by decide)]
    rw [e5] at hv
    have I5 := I4.c hv.2.1 hv.2.2
    rw [if_pos (show v.1 = -3000000 from hv.1)]
    refine ok_bind (D_primer hS hn st_WF I5.1 0 (-1) 0 0 0) (fun t ht => ?_)
    have e6 : o_primer st_A 0 (-1) = o_bad st_A 1 := by unfold o_primer; rw [if_neg (fun h => absurd h.1 (by decide))]
    rw [e6] at ht
    have I6 := I5.c ht.2.1 ht.2.2
    rw [if_pos (show t.1 = -3000000 from ht.1)]
    exact K_L244 hL 60 0 62 st_A st_S t.2 (by omega) (by omega) ⟨hS, hn, st_WF, I6⟩
  obtain ⟨z, h1, h2⟩ := key
  rw [h1]
  exact congrArg some h2
