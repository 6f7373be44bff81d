/-! shapes told -/
theorem dok_sh {n : Nat} (h1 : 1 ≤ n) (h2 : n ≤ 4448) : shB (nI n) = dok 4 n := by
  unfold shB
  rw [nI_cl (by omega)]
  cases hd : dok 4 n
  · rw [Bool.and_false]
  · have h3 : dok 4 n = if n = 0 then true else (decide (1 ≤ n % 10) && decide (n % 10 ≤ 4)) && dok 3 (n / 10) := rfl
    rw [h3, if_neg (by omega)] at hd
    simp only [Bool.and_eq_true, decide_eq_true_iff] at hd
    rw [ix_t (show n < 4445 by omega) (by omega), ix_f (show 1 ≤ n by omega) (by omega)]; rfl
theorem T_L296 {σ : Sg} {d : Dt} {x0 x3 : Nat} {x9 x10 : Int32} {k : Int32 → Sg → Dt → Option (Int32 × (Sg × Dt))} : ∀ (m n f : Nat) (b : Bool), n < 10 ^ m → n < 2147483648 → m < f → f_L_isTold_L296 f k x0 x3 x9 x10 (bI b) (nI n) σ d = k (bI (b && dok m n)) σ d := by
  intro m
  induction m with
  | zero =>
    intro n f b hn _ hf
    cases f with
    | zero => omega
    | succ f =>
      obtain rfl : n = 0 := by simpa using hn
      show f_L_isTold_B296 (f_L_isTold_L296 f k x0 x3 x9 x10) k x0 x3 x9 x10 (bI b) (nI 0) σ d = _
      unfold f_L_isTold_B296
      rw [if_pos (show nI 0 ≤ 0 by decide)]
      show _ = k (bI (b && true)) σ d
      rw [Bool.and_true]
  | succ m ih =>
    intro n f b hn hn2 hf
    cases f with
    | zero => omega
    | succ f =>
      show f_L_isTold_B296 (f_L_isTold_L296 f k x0 x3 x9 x10) k x0 x3 x9 x10 (bI b) (nI n) σ d = _
      have hd : dok (m + 1) n = if n = 0 then true else (decide (1 ≤ n % 10) && decide (n % 10 ≤ 4)) && dok m (n / 10) := rfl
      rw [hd]
      unfold f_L_isTold_B296
      by_cases e : n = 0
      · rw [if_pos (by rw [e]; decide), if_pos e, Bool.and_true]
      · rw [if_neg (by rw [il_0, nI_leJ (by omega) (by omega)]; omega), if_neg e]
        have d10 : nI n - nI n / (10 : Int32) * (10 : Int32) = nI (n % 10) := by rw [il_10]; exact nI_mod (by omega) (by omega)
        have q10 : nI n / (10 : Int32) = nI (n / 10) := by rw [il_10, nI_divI (by omega) (by omega)]
        have hlt : n / 10 < 10 ^ m := by rw [Nat.pow_succ] at hn; omega
        have h0 : f_L_isTold_J328 (f_L_isTold_L296 f k x0 x3 x9 x10) 0 x0 x3 x9 x10 (nI n) σ d = k (bI false) σ d := by
          unfold f_L_isTold_J328
          rw [q10]
          have := ih (n / 10) f false hlt (by omega) (by omega)
          rw [Bool.false_and] at this; exact this
        have h1 : f_L_isTold_J328 (f_L_isTold_L296 f k x0 x3 x9 x10) 1 x0 x3 x9 x10 (nI n) σ d = k (bI (dok m (n / 10))) σ d := by
          unfold f_L_isTold_J328
          rw [q10]
          have := ih (n / 10) f true hlt (by omega) (by omega)
          rw [Bool.true_and] at this; exact this
        unfold f_L_isTold_J327
        rw [d10]
        cases b
        · rw [if_pos (show bI false = 0 from rfl), h0, Bool.false_and]
        · rw [if_neg (show ¬ bI true = 0 by decide), Bool.true_and]
          by_cases c1 : 1 ≤ n % 10
          · rw [if_neg (by rw [il_0, nI_leJ (by omega) (by omega)]; omega), decide_eq_true c1, Bool.true_and]
            by_cases c4 : n % 10 ≤ 4
            · rw [if_neg (by rw [il_5, nI_leJ (by omega) (by omega)]; omega), decide_eq_true c4, Bool.true_and, h1]
            · rw [if_pos (by rw [il_5, nI_leJ (by omega) (by omega)]; omega), decide_eq_false c4, Bool.false_and, h0]
          · rw [if_pos (by rw [il_0, nI_leJ (by omega) (by omega)]; omega), decide_eq_false c1, Bool.false_and, Bool.false_and, h0]
theorem T_411 {A : St} {σ : Sg} {y : Dt} {B : St} {x v : Int32} (hx : x = v) (hW : WF B) (hS : Lay σ) (hn : ly_n σ = B 11 0 0) (hI : SoI B y) : ok (f_L_isTold_J411 v x σ y) (PostS A) := by
  unfold f_L_isTold_J411
  rw [if_pos hx]
  exact ok_some ⟨rfl, B, hW, hS, hn, hI⟩
theorem T_J375 {A B : St} {σ : Sg} {d : Dt} {s n : Nat} {x12 : Int32} (hS : Lay σ) (hn : ly_n σ = A 11 0 0) (hW : WF A) (hC : RepC A d) (hs : s ≤ 50) (isR : Bool) (hWB : WF B) (e11 : B 11 0 0 = A 11 0 0) (hB : RepL B d) (ho : ∃ t v, o_shape A (nI s) (nI n) = (t, v, B) ∧ ((s = 50 ∧ t = 1) ∨ (s < 50 ∧ isR = false ∧ t = 2) ∨ (s < 50 ∧ isR = true ∧ t = 0 ∧ x12 = v))) : ok (f_L_isTold_J375 0 (nI s) (nI n) (bI isR) x12 σ d) (PostS A) := by
  obtain ⟨t, v, eo, hcs⟩ := ho
  unfold f_L_isTold_J375
  refine ok_bind (D_shape hS hn hW hC (nI s) (nI n) 0 0 0) (fun z hz => ?_)
  rw [eo] at hz
  obtain ⟨z1, z2, z3⟩ := hz
  have hI : SoI B z.2 := ⟨z2, hB.c z3⟩
  have hnB : ly_n σ = B 11 0 0 := hn.trans e11.symm
  rcases hcs with ⟨h, rfl⟩ | ⟨h, rfl, rfl⟩ | ⟨h, rfl, rfl, hx⟩
  · rw [if_pos (by rw [h]; rfl)]
    exact T_411 z1 hWB hS hnB hI
  · rw [if_neg (by rw [il_50, nI_eqJ (by omega) (by omega)]; omega), if_pos (show bI false = 0 from rfl)]
    exact T_411 z1 hWB hS hnB hI
  · rw [if_neg (by rw [il_50, nI_eqJ (by omega) (by omega)]; omega), if_neg (show ¬ bI true = 0 by decide)]
    exact T_411 (z1.trans hx.symm) hWB hS hnB hI
theorem SoI.w17 {A : St} {d : Dt} {s n : Nat} (hI : SoI A d) (hW : WF A) (hs : s < 50) : RepC A (aw_sI d 272 s (nI n)) ∧ RepL (stU A 17 0 s n) (aw_sI d 272 s (nI n)) := by
  have r : ∀ c, c ≠ 272 → (aw_sI d 272 s (nI n)).1 c = d.1 c := fun c hc => by funext j; exact aw_sI_n (by omega)
  have e : ∀ f i j, f ≠ 17 → stU A 17 0 s n f i j = A f i j := fun f i j hf => stU_n (by omega)
  have hd2 := hI.2.1.d2
  refine ⟨hI.1.w_x (by omega) hW.words, ?_⟩
  obtain ⟨_, ⟨h1, h2, h3, h4, h5, h6, h7, h8, h9, h10, h11⟩, g1, g2, g3, g4⟩ := hI
  have hQ : RepQ A (aw_sI d 272 s (nI n)) := by
    unfold RepQ
    rw [r 265 (by omega), r 266 (by omega), r 267 (by omega), r 274 (by omega)]
    exact ⟨h1, h2, h3, h4, h5, h6, h7, h8, h9, h10, h11⟩
  have e11 : stU A 17 0 s n 11 0 0 = A 11 0 0 := e _ _ _ (by omega)
  refine ⟨hQ.cg (fun f i j hf => e _ _ _ (by omega)), fun D hD => ?_, fun D hD k hk => ?_, fun k hk => ?_, fun k hk => ?_⟩
  · rw [e11] at hD
    have h := g1 D hD
    unfold RepA at h ⊢
    rw [r _ (by omega)]
    unfold mkB at h ⊢
    simp only [e 12 0 D (by omega), e 13 0 D (by omega), e 14 D _ (by omega), e 15 D _ (by omega)]
    exact h
  · rw [e11, r _ (by omega), e 16 _ _ (by omega)]; exact g2 D hD k hk
  · by_cases ek : k = s
    · rw [aw_sI_e rfl ek, stU_e rfl rfl ek]
    · rw [aw_sI_n (by omega), stU_n (by omega)]; exact g3 k hk
  · rw [r _ (by omega), e 18 _ _ (by omega), e 19 _ _ (by omega), e 20 _ _ (by omega)]; exact g4 k hk
theorem T_J275 {A : St} {σ : Sg} {d : Dt} {s n : Nat} (hS : Lay σ) (hn : ly_n σ = A 11 0 0) (hW : WF A) (hI : SoI A d) (hs : s ≤ 50) (h1 : 1 ≤ n) (h2 : n ≤ 4448) : ok (f_L_isTold_J275 (nI n) 0 272 (nI s) σ d) (PostS A) := by
  have esh := dok_sh h1 h2
  unfold f_L_isTold_J275
  rw [if_neg (by rw [il_5000, nI_leJ (by omega) (by omega)]; omega)]
  unfold f_L_isTold_J290
  have hL := fun kk => T_L296 (σ := σ) (d := d) (x0 := 0) (x3 := 272) (x9 := nI s) (x10 := nI n) (k := kk) 4 n aw_FU true (by omega) (by omega) (by show _ < 5000; omega)
  refine (congrArg (fun t => ok t _) (hL _)).mpr ?_
  rw [Bool.true_and]
  by_cases e50 : s = 50
  · rw [if_pos (by rw [e50]; decide)]
    unfold f_L_isTold_J355
    rw [if_pos (by rw [e50]; decide)]
    refine T_J375 hS hn hW hI.1 hs _ hW rfl hI.2 ⟨1, nI 0, ?_, Or.inl ⟨e50, rfl⟩⟩
    unfold o_shape
    rw [if_pos (ix_f (by omega) (by omega))]
  · have hs50 : s < 50 := by omega
    have c1 : (nI s).toNatClampNeg = s := nI_cl (by omega)
    have hc : aw_I σ 20 272 (nI s) := ly_I (N := 50) hS (by decide) (by decide) hs50 (by decide)
    have q : d.1 272 s = nI (A 17 0 s) := hI.2.2.2.2.1 s hs50
    rw [if_neg (by rw [il_50, nI_leJ (by omega) (by omega)]; omega)]
    refine ok_chk hc ?_
    rw [c1, q]
    unfold f_L_isTold_J355
    rw [if_neg (by rw [il_50, nI_leJ (by omega) (by omega)]; omega)]
    cases hd : dok 4 n
    · rw [if_pos (show bI false = 0 from rfl)]
      refine T_J375 hS hn hW hI.1 hs false hW rfl hI.2 ⟨2, nI 0, ?_, Or.inr (Or.inl ⟨hs50, rfl, rfl⟩)⟩
      unfold o_shape
      rw [if_neg (by rw [ix_t hs50 (by omega)]; decide), if_pos (by rw [esh, hd])]
    · rw [if_neg (show ¬ bI true = 0 by decide)]
      refine ok_chk hc ?_
      rw [c1]
      obtain ⟨hC1, hL1⟩ := hI.w17 (n := n) hW hs50
      obtain ⟨n', e', hsh⟩ := shB_is (x := nI n) (by rw [esh, hd])
      have hn' : n' = n := by
        have h3 := hsh.2.1
        rw [nI_eqJ (by omega) (by omega)] at e'; exact e'.symm
      subst hn'
      refine T_J375 hS hn hW hC1 hs true (hW.shp hsh) (stU_n (by omega)) hL1 ⟨0, nI (A 17 0 s), ?_, Or.inr (Or.inr ⟨hs50, rfl, rfl, rfl⟩)⟩
      unfold o_shape
      rw [if_neg (by rw [ix_t hs50 (by omega)]; decide), if_neg (by rw [esh, hd]; decide), c1, nI_cl (by omega)]
theorem T_L220 {σ : Sg} {d : Dt} {x0 x3 two : Nat} {x9 : Int32} (h2 : two < 60000) {Q : Int32 × (Sg × Dt) → Prop} {k : Int32 → Sg → Dt → Option (Int32 × (Sg × Dt))} (hk : ∀ n, 1 ≤ n → n ≤ 4444 → ok (k (nI n) σ d) Q) : ∀ (m i f n : Nat), i + m = 1 + two % 4 → m < f → 9 * n + 4 ≤ 4 * 10 ^ i → (1 ≤ n ∨ i = 0) → ok (f_L_isTold_L220 f k x0 x3 (nI two) x9 (nI n) (nI i) σ d) Q := by
  have d4 : nI two - nI two / (4 : Int32) * (4 : Int32) = nI (two % 4) := by rw [il_4]; exact nI_mod (by omega) (by omega)
  intro m
  induction m with
  | zero =>
    intro i f n hi hf hb h1
    cases f with
    | zero => omega
    | succ f =>
      have hp : (10 : Nat) ^ i ≤ 10 ^ 4 := Nat.pow_le_pow_right (by omega) (by omega)
      show ok (f_L_isTold_B220 (f_L_isTold_L220 f k x0 x3 (nI two) x9) k x0 x3 (nI two) x9 (nI n) (nI i) σ d) Q
      unfold f_L_isTold_B220
      rw [d4, il_1, nI_add, if_pos (by rw [nI_leJ (by omega) (by omega)]; omega)]
      exact hk n (by omega) (by omega)
  | succ m ih =>
    intro i f n hi hf hb h1
    cases f with
    | zero => omega
    | succ f =>
      have hi4 : i < 4 := by omega
      have hp : (10 : Nat) ^ i ≤ 10 ^ 3 := Nat.pow_le_pow_right (by omega) (by omega)
      have hps : (10 : Nat) ^ (i + 1) = 10 ^ i * 10 := Nat.pow_succ 10 i
      have hsl : two >>> (2 * i) ≤ two := by rw [Nat.shiftRight_eq_div_pow]; exact Nat.div_le_self _ _
      have hsr : nI two >>> ((2 * nI i) &&& 31) = nI (two >>> (2 * i)) := by
        rw [il_2, nI_mulI]
        show nI two >>> (nI (2 * i) &&& nI 31) = _
        rw [nI_31 (by omega), nI_shrI (by omega) (by omega)]
      have dm : nI (two >>> (2 * i)) - nI (two >>> (2 * i)) / (4 : Int32) * (4 : Int32) = nI (two >>> (2 * i) % 4) := by rw [il_4]; exact nI_mod (by omega) (by omega)
      show ok (f_L_isTold_B220 (f_L_isTold_L220 f k x0 x3 (nI two) x9) k x0 x3 (nI two) x9 (nI n) (nI i) σ d) Q
      unfold f_L_isTold_B220
      rw [d4, hsr, dm, il_10, il_1, nI_mulI, nI_add, nI_add, nI_add, nI_add, if_neg (by rw [nI_leJ (by omega) (by omega)]; omega)]
      have hm : two >>> (2 * i) % 4 < 4 := Nat.mod_lt _ (by omega)
      exact ih (i + 1) f _ (by omega) (by omega) (by omega) (Or.inl (by omega))
theorem T_J212 {A : St} {σ : Sg} {d : Dt} {s two : Nat} (hS : Lay σ) (hn : ly_n σ = A 11 0 0) (hW : WF A) (hI : SoI A d) (hs : s ≤ 50) (h2 : two < 60000) : ok (f_L_isTold_J212 (nI s) 0 272 (nI two) σ d) (PostS A) := by
  have d13 : nI two - nI two / (13 : Int32) * (13 : Int32) = nI (two % 13) := by rw [il_13]; exact nI_mod (by omega) (by omega)
  unfold f_L_isTold_J212
  refine T_L220 h2 (fun n a1 a2 => ?_) (1 + two % 4) 0 aw_FU 0 (by omega) (by show _ < 5000; omega) (by decide) (Or.inr rfl)
  rw [d13]
  by_cases c : two % 13 = 12
  · rw [if_pos (by rw [c]; rfl), il_4, nI_add]
    exact T_J275 hS hn hW hI hs (by omega) (by omega)
  · rw [if_neg (by rw [il_12, nI_eqJ (by omega) (by omega)]; exact c)]
    exact T_J275 hS hn hW hI hs a1 (by omega)
