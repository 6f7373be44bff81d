/-! primers: the law looks from the last sign on, the class from the first one -/
def Best (T : Nat → Prop) (R U : Nat → Nat) (acc : Nat × Nat × Nat) : Prop := (acc = (0, 0, 0) ∧ ∀ t, ¬ T t) ∨ ∃ s, T s ∧ acc = (s + 1, R s, U s) ∧ ∀ t, T t → R t < R s ∨ (R t = R s ∧ (U t < U s ∨ (U t = U s ∧ s ≤ t)))
theorem Best.uq {T : Nat → Prop} {R U : Nat → Nat} {a b : Nat × Nat × Nat} (h : Best T R U a) (g : Best T R U b) : a = b := by
  rcases h with ⟨h1, h2⟩ | ⟨s, h1, h2, h3⟩
  · rcases g with ⟨g1, g2⟩ | ⟨t, g1, g2, g3⟩
    · rw [h1, g1]
    · exact absurd g1 (h2 t)
  · rcases g with ⟨g1, g2⟩ | ⟨t, g1, g2, g3⟩
    · exact absurd h1 (g2 s)
    · have a1 := h3 t g1
      have a2 := g3 s h1
      have e : s = t := by omega
      subst e
      rw [h2, g2]
theorem Best.cg {T S : Nat → Prop} {R U : Nat → Nat} {a : Nat × Nat × Nat} (h : Best T R U a) (e : ∀ t, T t ↔ S t) : Best S R U a := by
  have e2 : T = S := funext fun t => propext (e t)
  rw [← e2]; exact h
theorem Best.up {T : Nat → Prop} {R U : Nat → Nat} {acc : Nat × Nat × Nat} {s : Nat} (h : Best T R U acc) (hs : ∀ t, T t → t < s) : Best (fun t => T t ∨ t = s) R U (if (decide (acc.1 = 0) || decide (acc.2.1 < R s) || decide (R s = acc.2.1) && decide (acc.2.2 < U s)) = true then (s + 1, R s, U s) else acc) := by
  rcases h with ⟨h1, h2⟩ | ⟨s0, h1, h2, h3⟩
  · subst h1
    rw [if_pos (by simp)]
    refine Or.inr ⟨s, Or.inr rfl, rfl, fun t ht => ?_⟩
    rcases ht with h | rfl
    · exact absurd h (h2 t)
    · omega
  · subst h2
    by_cases c : (decide (s0 + 1 = 0) || decide (R s0 < R s) || decide (R s = R s0) && decide (U s0 < U s)) = true
    · rw [if_pos c]
      simp only [Bool.or_eq_true, Bool.and_eq_true, decide_eq_true_iff] at c
      refine Or.inr ⟨s, Or.inr rfl, rfl, fun t ht => ?_⟩
      rcases ht with h | rfl
      · have := h3 t h; omega
      · omega
    · rw [if_neg c]
      simp only [Bool.or_eq_true, Bool.and_eq_true, decide_eq_true_iff] at c
      refine Or.inr ⟨s0, Or.inl h1, rfl, fun t ht => ?_⟩
      rcases ht with h | rfl
      · exact h3 t h
      · have := hs s0 h1; omega
theorem Best.dn {T : Nat → Prop} {R U : Nat → Nat} {acc : Nat × Nat × Nat} {s : Nat} (h : Best T R U acc) (hs : ∀ t, T t → s < t) : Best (fun t => T t ∨ t = s) R U (if (decide (acc.1 = 0) || decide (acc.2.1 < R s) || decide (R s = acc.2.1) && decide (acc.2.2 ≤ U s)) = true then (s + 1, R s, U s) else acc) := by
  rcases h with ⟨h1, h2⟩ | ⟨s0, h1, h2, h3⟩
  · subst h1
    rw [if_pos (by simp)]
    refine Or.inr ⟨s, Or.inr rfl, rfl, fun t ht => ?_⟩
    rcases ht with h | rfl
    · exact absurd h (h2 t)
    · omega
  · subst h2
    by_cases c : (decide (s0 + 1 = 0) || decide (R s0 < R s) || decide (R s = R s0) && decide (U s0 ≤ U s)) = true
    · rw [if_pos c]
      simp only [Bool.or_eq_true, Bool.and_eq_true, decide_eq_true_iff] at c
      refine Or.inr ⟨s, Or.inr rfl, rfl, fun t ht => ?_⟩
      rcases ht with h | rfl
      · have := h3 t h
        have := hs t h
        omega
      · omega
    · rw [if_neg c]
      simp only [Bool.or_eq_true, Bool.and_eq_true, decide_eq_true_iff] at c
      refine Or.inr ⟨s0, Or.inl h1, rfl, fun t ht => ?_⟩
      rcases ht with h | rfl
      · exact h3 t h
      · have := hs s0 h1; omega
theorem Best.le {T : Nat → Prop} {R U : Nat → Nat} {acc : Nat × Nat × Nat} (h : Best T R U acc) (hT : ∀ t, T t → t < 50) (hR : ∀ t, R t ≤ 19980) (hU : ∀ t, U t ≤ 19980) : acc.1 ≤ 50 ∧ acc.2.1 ≤ 19980 ∧ acc.2.2 ≤ 19980 := by
  rcases h with ⟨h1, _⟩ | ⟨s, h1, h2, _⟩
  · rw [h1]; exact ⟨Nat.zero_le _, Nat.zero_le _, Nat.zero_le _⟩
  · rw [h2]; exact ⟨hT s h1, hR s, hU s⟩
theorem usL_sort {m a b : Nat} (hab : a < b) (hb : b < (usL m).length) : (usL m).getD a 0 < (usL m).getD b 0 := by
  have h : List.Pairwise (· < ·) (usL m) := List.Pairwise.filter _ List.pairwise_lt_range
  have h2 := List.pairwise_iff_getElem.mp h a b (by omega) hb hab
  rw [List.getD_eq_getElem?_getD, List.getD_eq_getElem?_getD, List.getElem?_eq_getElem (by omega), List.getElem?_eq_getElem hb]
  exact h2
theorem bstK_best (A : St) (D L : Nat) : ∀ n, n ≤ (usL (allS A D)).length → Best (fun t => ∃ k, k < n ∧ t = (usL (allS A D)).getD k 0 ∧ L.testBit t = false) (fun s => rdW A D (L ||| 2 ^ s)) (fun s => unS A D L s) (bstK A D L n) := by
  intro n
  induction n with
  | zero => intro _; exact Or.inl ⟨rfl, fun t ⟨k, h, _⟩ => by omega⟩
  | succ n ih =>
    intro hn
    have h := ih (by omega)
    show Best _ _ _ (bstI A D L (bstK A D L n) ((usL (allS A D)).getD n 0))
    generalize bstK A D L n = acc at h ⊢
    cases hb : L.testBit ((usL (allS A D)).getD n 0)
    · have e : bstI A D L acc ((usL (allS A D)).getD n 0) = if (decide (acc.1 = 0) || decide (acc.2.1 < rdW A D (L ||| 2 ^ ((usL (allS A D)).getD n 0))) || decide (rdW A D (L ||| 2 ^ ((usL (allS A D)).getD n 0)) = acc.2.1) && decide (acc.2.2 < unS A D L ((usL (allS A D)).getD n 0))) = true then ((usL (allS A D)).getD n 0 + 1, rdW A D (L ||| 2 ^ ((usL (allS A D)).getD n 0)), unS A D L ((usL (allS A D)).getD n 0)) else acc := by
        unfold bstI bstC
        rw [hb, Bool.not_false, Bool.true_and]
      rw [e]
      refine (h.up (s := (usL (allS A D)).getD n 0) (fun t ⟨k, h1, h2, _⟩ => by rw [h2]; exact usL_sort h1 (by omega))).cg (fun t => ?_)
      constructor
      · rintro (⟨k, h1, h2, h3⟩ | h)
        · exact ⟨k, by omega, h2, h3⟩
        · exact ⟨n, by omega, h, by rw [h]; exact hb⟩
      · rintro ⟨k, h1, h2, h3⟩
        by_cases e2 : k = n
        · subst e2; exact Or.inr h2
        · exact Or.inl ⟨k, by omega, h2, h3⟩
    · have e : bstI A D L acc ((usL (allS A D)).getD n 0) = acc := by
        unfold bstI bstC
        rw [hb, Bool.not_true, Bool.false_and, if_neg (by decide)]
      rw [e]
      refine h.cg (fun t => ?_)
      constructor
      · rintro ⟨k, h1, h2, h3⟩; exact ⟨k, by omega, h2, h3⟩
      · rintro ⟨k, h1, h2, h3⟩
        by_cases e2 : k = n
        · subst e2; rw [h2, hb] at h3; cases h3
        · exact ⟨k, by omega, h2, h3⟩
/-- one sign more, the law's way -/
def lwC (A : St) (D L : Nat) (acc : Nat × Nat × Nat) (s : Nat) : Bool := decide (acc.1 = 0) || decide (acc.2.1 < rdW A D (L ||| 2 ^ s)) || decide (rdW A D (L ||| 2 ^ s) = acc.2.1) && decide (acc.2.2 ≤ unS A D L s)
def lwI (A : St) (D L : Nat) (acc : Nat × Nat × Nat) (s : Nat) : Nat × Nat × Nat := if ((allS A D).testBit s && !L.testBit s) = true then (if lwC A D L acc s = true then (s + 1, rdW A D (L ||| 2 ^ s), unS A D L s) else acc) else acc
def lwK (A : St) (D L n : Nat) : Nat × Nat × Nat := foldR (fun acc k => lwI A D L acc (49 - k)) (0, 0, 0) n
theorem lwK_best (A : St) (D L : Nat) : ∀ n, n ≤ 50 → Best (fun t => t < 50 ∧ 50 ≤ t + n ∧ (allS A D).testBit t = true ∧ L.testBit t = false) (fun s => rdW A D (L ||| 2 ^ s)) (fun s => unS A D L s) (lwK A D L n) := by
  intro n
  induction n with
  | zero => intro _; exact Or.inl ⟨rfl, fun t ⟨h1, h2, _⟩ => by omega⟩
  | succ n ih =>
    intro hn
    have h := ih (by omega)
    show Best _ _ _ (lwI A D L (lwK A D L n) (49 - n))
    generalize lwK A D L n = acc at h ⊢
    unfold lwI
    by_cases hc : ((allS A D).testBit (49 - n) && !L.testBit (49 - n)) = true
    · rw [if_pos hc]
      simp only [Bool.and_eq_true, Bool.not_eq_true'] at hc
      refine (h.dn (s := 49 - n) (fun t ⟨h1, h2, _⟩ => by omega)).cg (fun t => ?_)
      constructor
      · rintro (⟨h1, h2, h3⟩ | h)
        · exact ⟨h1, by omega, h3⟩
        · exact ⟨by omega, by omega, by rw [h]; exact hc⟩
      · rintro ⟨h1, h2, h3⟩
        by_cases e2 : t = 49 - n
        · exact Or.inr e2
        · exact Or.inl ⟨h1, by omega, h3⟩
    · rw [if_neg hc]
      refine h.cg (fun t => ?_)
      constructor
      · rintro ⟨h1, h2, h3⟩; exact ⟨h1, by omega, h3⟩
      · rintro ⟨h1, h2, h3⟩
        by_cases e2 : t = 49 - n
        · subst e2
          exact absurd (by rw [h3.1, h3.2]; rfl) hc
        · exact ⟨h1, by omega, h3⟩
theorem lwK_le {A : St} (hW : WF A) (D L n : Nat) (hn : n ≤ 50) : (lwK A D L n).1 ≤ 50 ∧ (lwK A D L n).2.1 ≤ 19980 ∧ (lwK A D L n).2.2 ≤ 19980 := (lwK_best A D L n hn).le (fun t h => h.1) (fun t => rdW_le hW _ _) (fun t => unS_le hW _ _ _)
theorem lwK_bst (A : St) (D L : Nat) : lwK A D L 50 = bst A D L := by
  refine (lwK_best A D L 50 (Nat.le_refl _)).uq ((bstK_best A D L _ (Nat.le_refl _)).cg (fun t => ?_))
  constructor
  · rintro ⟨k, h1, h2, h3⟩
    exact ⟨by rw [h2]; exact usL_lt _ _, by omega, by rw [h2]; exact usL_bit h1, h3⟩
  · rintro ⟨h1, h2, h3, h4⟩
    obtain ⟨i, hi, e⟩ := List.mem_iff_getElem.mp (usL_mem.mpr ⟨h1, h3⟩)
    exact ⟨i, hi, by rw [List.getD_eq_getElem?_getD, List.getElem?_eq_getElem hi]; exact e.symm, h4⟩
/-- when all signs are learned there is no next one -/
theorem bst_none {A : St} (hW : WF A) {D : Nat} : bst A D (lrn A D (usL (allS A D)).length) = (0, 0, 0) := by
  rcases bstK_is A D (lrn A D (usL (allS A D)).length) _ (Nat.le_refl _) with ⟨h1, _⟩ | ⟨k, h1, h2, _⟩
  · exact h1
  · obtain ⟨c1, _, c3⟩ := lrn_is (D := D) hW _ (Nat.le_refl _)
    have hb := usL_bit h1
    have hl := usL_lt (allS A D) k
    have h4 := cb_add hl h2
    obtain ⟨s, s1, s2, s3⟩ := cb_lt (a := allS A D) (b := lrn A D (usL (allS A D)).length ||| 2 ^ ((usL (allS A D)).getD k 0)) (by rw [h4, c1, usL_cb]; omega)
    rw [Nat.testBit_or, Nat.testBit_two_pow, Bool.or_eq_true, decide_eq_true_iff] at s2
    rcases s2 with h | h
    · rw [c3 s h] at s3; cases s3
    · rw [← h, hb] at s3; cases s3
/-- what the order of the quick primer costs -/
def costN (A : St) (D n : Nat) : Nat := sumR (fun m => (m + 1) * (rdW A D (lrn A D (m + 1)) - rdW A D (lrn A D m))) n
theorem lrn_s (A : St) (D m : Nat) : lrn A D (m + 1) = lrn A D m ||| 2 ^ pick A D m := rfl
theorem rd_lrn (A : St) (D m : Nat) : rdW A D (lrn A D m) ≤ rdW A D (lrn A D (m + 1)) := rdW_mono (fun s h => by rw [lrn_s, Nat.testBit_or, h]; rfl)
theorem bst_next {A : St} (hW : WF A) {D m : Nat} (hm : m < (usL (allS A D)).length) : (bst A D (lrn A D m)).1 = pick A D m + 1 ∧ pick A D m < 50 ∧ (bst A D (lrn A D m)).2.1 = rdW A D (lrn A D (m + 1)) := by
  obtain ⟨h1, h2, h3, h4, h5⟩ := bst_some (D := D) (L := lrn A D m) hW (by rw [(lrn_is hW m (by omega)).1]; exact hm)
  exact ⟨by unfold pick; omega, h2, h5⟩
theorem costN_le {A : St} (hW : WF A) (D n : Nat) (hn : n ≤ 50) : costN A D n ≤ 49950000 := by
  have h : costN A D n ≤ n * (50 * 19980) := sumR_le (fun m hm => Nat.mul_le_mul (by omega) (Nat.le_trans (Nat.sub_le _ _) (rdW_le hW _ _)))
  have h2 : n * (50 * 19980) ≤ 50 * (50 * 19980) := Nat.mul_le_mul_right _ hn
  omega
theorem costI_N {A : St} (hW : WF A) (D : Nat) : costI A D = nI (costN A D (usL (allS A D)).length) := by
  have key : ∀ n, n ≤ (usL (allS A D)).length → foldR (fun c n => c + nI (n + 1) * (nI (bst A D (lrn A D n)).2.1 - nI (rdW A D (lrn A D n)))) (nI 0) n = nI (costN A D n) := by
    intro n
    induction n with
    | zero => intro _; rfl
    | succ n ih =>
      intro hn
      show foldR _ (nI 0) n + nI (n + 1) * (nI (bst A D (lrn A D n)).2.1 - nI (rdW A D (lrn A D n))) = nI (costN A D n + (n + 1) * (rdW A D (lrn A D (n + 1)) - rdW A D (lrn A D n)))
      rw [ih (by omega), (bst_next hW (show n < _ by omega)).2.2, nI_subI (rd_lrn A D n), nI_mulI, nI_add]
  exact key _ (Nat.le_refl _)
/-- an entry of the table, once and for all -/
theorem lcT_at {A : St} {D : Nat} {u : Nat → Nat} {n x : Nat} : ∀ S, x < S → lcT A D u n S x = lcV A D u n (lcT A D u n x) x := by
  intro S
  induction S with
  | zero => intro h; omega
  | succ S ih =>
    intro h
    show (if x = S then lcV A D u n (lcT A D u n S) S else lcT A D u n S x) = _
    by_cases e : x = S
    · rw [if_pos e, e]
    · rw [if_neg e]; exact ih (by omega)
theorem lcI_min {A : St} {D : Nat} {u : Nat → Nat} {n s k : Nat} {t : Nat → Nat} (hk : s.testBit k = true) : ∀ i, k < i → foldR (lcI A D u n t s) 0 i ≤ lcX A D u n t s k + 1 := by
  intro i
  induction i with
  | zero => intro h; omega
  | succ i ih =>
    intro h
    show lcI A D u n t s (foldR (lcI A D u n t s) 0 i) i ≤ _
    by_cases e : k = i
    · subst e
      unfold lcI
      rw [if_pos hk]
      split
      · exact Nat.le_refl _
      · exact Nat.min_le_right _ _
    · have hp := lcI_pos (A := A) (D := D) (u := u) (n := n) (t := t) (z := 0) i (Or.inl ⟨k, by omega, hk⟩)
      have h2 := ih (by omega)
      generalize foldR (lcI A D u n t s) 0 i = acc at hp h2
      unfold lcI
      split
      · rw [if_neg (by omega)]
        exact Nat.le_trans (Nat.min_le_left _ _) h2
      · exact h2
theorem lc_0 {A : St} {D : Nat} {u : Nat → Nat} {n : Nat} {t : Nat → Nat} : ∀ i, foldR (lcI A D u n t 0) 1 i = 1 := by
  intro i
  induction i with
  | zero => rfl
  | succ i ih =>
    show lcI A D u n t 0 (foldR (lcI A D u n t 0) 1 i) i = 1
    rw [ih]
    unfold lcI
    rw [if_neg (by rw [Nat.zero_testBit]; decide)]
theorem lcT_0 {A : St} {D : Nat} {u : Nat → Nat} {n S : Nat} (hS : 0 < S) : lcT A D u n S 0 = 0 := by
  rw [lcT_at S hS]
  unfold lcV
  rw [if_pos rfl, lc_0]
theorem mS_0 (u : Nat → Nat) (n : Nat) : mS u n 0 = 0 := by
  apply Nat.eq_of_testBit_eq
  intro i
  rw [Nat.zero_testBit, Bool.eq_false_iff]
  intro h
  obtain ⟨k, _, h2, _⟩ := (mS_bit n).mp h
  rw [Nat.zero_testBit] at h2; cases h2
/-- a place more in a set of places -/
theorem or_sub {s k : Nat} (h : s.testBit k = false) : (s ||| 2 ^ k) - 2 ^ k = s := by
  apply Nat.eq_of_testBit_eq
  intro j
  have hb : (s ||| 2 ^ k).testBit k = true := by rw [Nat.testBit_or, Nat.testBit_two_pow_self, Bool.or_true]
  rw [sub_bit hb, Nat.testBit_or, Nat.testBit_two_pow]
  by_cases e : k = j
  · subst e; rw [h]; simp
  · have e' : j ≠ k := fun g => e g.symm
    rw [decide_eq_false e, Bool.or_false, decide_eq_true e', Bool.and_true]
theorem nS_or {n s k : Nat} (hk : k < n) (h : s.testBit k = false) : nS n (s ||| 2 ^ k) = nS n s + 1 := by
  refine sumR_pt hk (fun w hw hne => ?_) ?_
  · show (if _ then 1 else 0) = (if _ then 1 else 0)
    rw [Nat.testBit_or, Nat.testBit_two_pow, decide_eq_false (fun g => hne g.symm), Bool.or_false]
  · show (if _ then 1 else 0) = (if _ then 1 else 0) + 1
    rw [Nat.testBit_or, Nat.testBit_two_pow_self, Bool.or_true, h]; rfl
/-- the quick primer's signs, as a set of places; the table is not above its cost -/
theorem lc_walk {A : St} (hW : WF A) {D : Nat} : ∀ m, m ≤ (usL (allS A D)).length → ∃ s, s < 2 ^ (usL (allS A D)).length ∧ mS (usd A D) (usL (allS A D)).length s = lrn A D m ∧ nS (usL (allS A D)).length s = m ∧ lcT A D (usd A D) (usL (allS A D)).length (2 ^ (usL (allS A D)).length) s ≤ costN A D m := by
  intro m
  induction m with
  | zero =>
    intro _
    have hp : 0 < 2 ^ (usL (allS A D)).length := Nat.pow_pos (by omega)
    refine ⟨0, hp, mS_0 _ _, ?_, ?_⟩
    · have : nS (usL (allS A D)).length 0 = sumR (fun _ => 0) (usL (allS A D)).length := sumR_cg (fun u _ => by rw [Nat.zero_testBit]; rfl)
      rw [this, sumR_zz]
    · rw [lcT_0 hp]; exact Nat.zero_le _
  | succ m ih =>
    intro hm
    obtain ⟨s, s1, s2, s3, s4⟩ := ih (by omega)
    obtain ⟨b1, b2, b3, b4, b5⟩ := bst_some (D := D) (L := lrn A D m) hW (by rw [(lrn_is hW m (by omega)).1]; omega)
    have b2' : pick A D m < 50 := b2
    have b3' : (allS A D).testBit (pick A D m) = true := b3
    have b4' : (lrn A D m).testBit (pick A D m) = false := b4
    obtain ⟨k, hk, e⟩ := List.mem_iff_getElem.mp (usL_mem.mpr ⟨b2', b3'⟩)
    have uk : usd A D k = pick A D m := by
      unfold usd
      rw [List.getD_eq_getElem?_getD, List.getElem?_eq_getElem hk]; exact e
    have hsk : s.testBit k = false := by
      rw [Bool.eq_false_iff]
      intro h
      have h2 := (mS_bit (u := usd A D) (s := s) (i := pick A D m) (usL (allS A D)).length).mpr ⟨k, hk, h, uk⟩
      rw [s2, b4'] at h2; cases h2
    have hb : (s ||| 2 ^ k).testBit k = true := by rw [Nat.testBit_or, Nat.testBit_two_pow_self, Bool.or_true]
    have hlt : s ||| 2 ^ k < 2 ^ (usL (allS A D)).length := Nat.or_lt_two_pow s1 (Nat.pow_lt_pow_right (by omega) hk)
    have hm2 : mS (usd A D) (usL (allS A D)).length (s ||| 2 ^ k) = lrn A D (m + 1) := by
      apply Nat.eq_of_testBit_eq
      intro i
      rw [lrn_s, Nat.testBit_or, Nat.testBit_two_pow, Bool.eq_iff_iff, mS_bit, Bool.or_eq_true, decide_eq_true_iff, ← s2, mS_bit]
      constructor
      · rintro ⟨j, j1, j2, j3⟩
        rw [Nat.testBit_or, Nat.testBit_two_pow, Bool.or_eq_true, decide_eq_true_iff] at j2
        rcases j2 with h | h
        · exact Or.inl ⟨j, j1, h, j3⟩
        · subst h; exact Or.inr (uk.symm.trans j3)
      · rintro (⟨j, j1, j2, j3⟩ | h)
        · exact ⟨j, j1, by rw [Nat.testBit_or, j2]; rfl, j3⟩
        · exact ⟨k, hk, hb, uk.trans h⟩
    have hn2 : nS (usL (allS A D)).length (s ||| 2 ^ k) = m + 1 := by rw [nS_or hk hsk, s3]
    refine ⟨s ||| 2 ^ k, hlt, hm2, hn2, ?_⟩
    have hd : del (lrn A D (m + 1)) (usd A D k) = lrn A D m := by
      rw [← hm2, ← mS_sub hk hb (fun i j hi hj h => usd_inj hi hj h), or_sub hsk, s2]
    have hne : s ||| 2 ^ k ≠ 0 := fun h => by rw [h, Nat.zero_testBit] at hb; cases hb
    have hge := bit_ge hb
    have hp : 0 < 2 ^ k := Nat.pow_pos (by omega)
    have hslt : s < s ||| 2 ^ k := by have := or_sub hsk; omega
    rw [lcT_at _ hlt]
    unfold lcV
    rw [if_neg hne]
    have h := lcI_min (A := A) (D := D) (u := usd A D) (n := (usL (allS A D)).length) (t := lcT A D (usd A D) (usL (allS A D)).length (s ||| 2 ^ k)) hb _ hk
    have hX : lcX A D (usd A D) (usL (allS A D)).length (lcT A D (usd A D) (usL (allS A D)).length (s ||| 2 ^ k)) (s ||| 2 ^ k) k ≤ costN A D (m + 1) := by
      unfold lcX
      rw [or_sub hsk, hn2, hm2, hd, lcT_at _ hslt, ← lcT_at _ s1]
      show _ ≤ costN A D m + (m + 1) * (rdW A D (lrn A D (m + 1)) - rdW A D (lrn A D m))
      exact Nat.add_le_add_right s4 _
    omega
/-- all places -/
theorem lc_all {A : St} (hW : WF A) {D s : Nat} (s1 : s < 2 ^ (usL (allS A D)).length) (s2 : mS (usd A D) (usL (allS A D)).length s = lrn A D (usL (allS A D)).length) : s = 2 ^ (usL (allS A D)).length - 1 := by
  apply Nat.eq_of_testBit_eq
  intro k
  rw [Nat.testBit_two_pow_sub_one]
  by_cases hk : k < (usL (allS A D)).length
  · rw [decide_eq_true hk]
    have hn := bst_none (D := D) hW
    have hbit : (lrn A D (usL (allS A D)).length).testBit (usd A D k) = true := by
      rcases bstK_is A D (lrn A D (usL (allS A D)).length) _ (Nat.le_refl _) with ⟨_, h2⟩ | ⟨j, _, _, h3⟩
      · exact h2 k hk
      · have h4 : bst A D (lrn A D (usL (allS A D)).length) = _ := h3
        rw [hn] at h4
        have h5 := congrArg Prod.fst h4
        exact absurd h5 (by simp)
    rw [← s2] at hbit
    obtain ⟨j, j1, j2, j3⟩ := (mS_bit _).mp hbit
    rw [usd_inj j1 hk j3] at j2; exact j2
  · rw [decide_eq_false hk]
    exact Nat.testBit_lt_two_pow (Nat.lt_of_lt_of_le s1 (Nat.pow_le_pow_right (by omega) (by omega)))
theorem lcA_le {A : St} (hW : WF A) (D : Nat) : lcA A D ≤ costN A D (usL (allS A D)).length := by
  obtain ⟨s, s1, s2, _, s4⟩ := lc_walk (D := D) hW _ (Nat.le_refl _)
  rw [lc_all hW s1 s2] at s4
  exact s4
theorem lcA_1 {A : St} (hW : WF A) {D : Nat} (h : (usL (allS A D)).length ≤ 1) : lcA A D = costN A D (usL (allS A D)).length := by
  obtain ⟨s, s1, s2, _, _⟩ := lc_walk (D := D) hW _ (Nat.le_refl _)
  have e := lc_all hW s1 s2
  unfold lcA lcS
  rw [← e]
  rcases (show (usL (allS A D)).length = 0 ∨ (usL (allS A D)).length = 1 by omega) with h0 | h0
  · rw [h0] at s1 ⊢
    obtain rfl : s = 0 := by omega
    exact lcT_0 s1
  · rw [h0] at s1 s2 e ⊢
    have e' : s = 1 := e
    subst e'
    have hd : del (lrn A D 1) (usd A D 0) = lrn A D 0 := by
      rw [← s2, ← mS_sub (by omega) (by decide) (fun i j hi hj _ => by omega)]
      exact mS_0 _ _
    rw [lcT_at _ s1]
    have hf : ∀ t, lcV A D (usd A D) 1 t 1 = lcX A D (usd A D) 1 t 1 0 := fun t => rfl
    rw [hf]
    unfold lcX
    rw [s2, hd]
    show lcT A D (usd A D) 1 1 0 + 1 * _ = 0 + (0 + 1) * _
    rw [lcT_0 (by omega)]
theorem lcA_lt {A : St} (hW : WF A) (D : Nat) : lcA A D ≤ 49950000 := Nat.le_trans (lcA_le hW D) (costN_le hW D _ (usL_len _))
