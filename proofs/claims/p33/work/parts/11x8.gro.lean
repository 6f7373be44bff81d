/-! how the travel grows by an exchange -/
def sumZ (g : Nat → Int) : Nat → Int
  | 0 => 0
  | n + 1 => sumZ g n + g n
theorem sumZ_cg {f g : Nat → Int} {n : Nat} (e : ∀ u, u < n → f u = g u) : sumZ f n = sumZ g n := by
  induction n with
  | zero => rfl
  | succ n ih => simp only [sumZ]; rw [ih (fun u hu => e u (by omega)), e n (by omega)]
theorem sumZ_c (g : Nat → Nat) (n : Nat) : ((sumR g n : Nat) : Int) = sumZ (fun i => (g i : Int)) n := by
  induction n with
  | zero => rfl
  | succ n ih => simp only [sumR, sumZ]; rw [Int.natCast_add, ih]
theorem sumZ_sub (f g : Nat → Int) (n : Nat) : sumZ f n - sumZ g n = sumZ (fun i => f i - g i) n := by
  induction n with
  | zero => rfl
  | succ n ih => simp only [sumZ]; rw [← ih]; omega
theorem sumZ_add (f g : Nat → Int) (n : Nat) : sumZ f n + sumZ g n = sumZ (fun i => f i + g i) n := by
  induction n with
  | zero => rfl
  | succ n ih => simp only [sumZ]; rw [← ih]; omega
theorem sumZ_mul (f : Nat → Int) (c : Int) (n : Nat) : sumZ f n * c = sumZ (fun i => f i * c) n := by
  induction n with
  | zero => exact Int.zero_mul c
  | succ n ih => simp only [sumZ]; rw [← ih, Int.add_mul]
theorem sumZ_0 (n : Nat) : sumZ (fun _ => 0) n = 0 := by
  induction n with
  | zero => rfl
  | succ n ih => simp only [sumZ]; rw [ih]; rfl
theorem sumZ_swap (f : Nat → Nat → Int) (m n : Nat) : sumZ (fun s => sumZ (fun w => f s w) n) m = sumZ (fun w => sumZ (fun s => f s w) m) n := by
  induction m with
  | zero => simp only [sumZ]; exact (sumZ_0 n).symm
  | succ m ih => simp only [sumZ]; rw [ih, sumZ_add]
theorem sumZ_pt (P : Nat → Int) (y : Nat) : ∀ n, sumZ (fun s => if s = y then P s else 0) n = if y < n then P y else 0 := by
  intro n
  induction n with
  | zero => rfl
  | succ n ih =>
    simp only [sumZ]
    rw [ih]
    by_cases e : n = y
    · subst e; rw [if_neg (Nat.lt_irrefl _), if_pos rfl, if_pos (Nat.lt_succ_self _)]; omega
    · rw [if_neg e]
      by_cases e2 : y < n
      · rw [if_pos e2, if_pos (by omega)]; omega
      · rw [if_neg e2, if_neg (by omega)]; omega
/-- does a going from x to y or back count for s and t -/
def gc (x y s t : Nat) : Nat := (if x = s ∧ y = t then 1 else 0) + if y = s ∧ x = t then 1 else 0
def goS (A : St) (D s t : Nat) : Nat := sumR (fun w => sumR (fun k => A 5 0 w * gc ((own A D w).getD k 0) ((own A D w).getD (k + 1) 0) s t) ((own A D w).length - 1)) (A 2 0 0)
def moZ (K : Nat → Nat) (a b s : Nat) : Int := (adf (K b) (K s) : Int) - (adf (K a) (K s) : Int)
def grI (A : St) (D : Nat) (K : Nat → Nat) (a b s : Nat) : Int := if s = a ∨ s = b then 0 else ((goS A D a s : Int) - (goS A D b s : Int)) * moZ K a b s
theorem adf_self (a : Nat) : adf a a = 0 := by unfold adf; split <;> omega
theorem pair_gr {K : Nat → Nat} {a b x y : Nat} {W : Int} (hx : x < 50) (hy : y < 50) (hab : a ≠ b) : sumZ (fun s => if s = a ∨ s = b then 0 else (W * (gc x y a s : Nat) - W * (gc x y b s : Nat)) * moZ K a b s) 50 = W * (adf (swK K a b y) (swK K a b x) : Nat) - W * (adf (K y) (K x) : Nat) := by
  have e1 : ∀ s, s < 50 → (if s = a ∨ s = b then 0 else (W * (gc x y a s : Nat) - W * (gc x y b s : Nat)) * moZ K a b s) = (if s = y then (if s = a ∨ s = b then 0 else W * ((if x = a then 1 else 0) - (if x = b then 1 else 0)) * moZ K a b s) else 0) + (if s = x then (if s = a ∨ s = b then 0 else W * ((if y = a then 1 else 0) - (if y = b then 1 else 0)) * moZ K a b s) else 0) := by
    intro s _
    by_cases e : s = a ∨ s = b
    · rw [if_pos e]; simp [e]
    · rw [if_neg e]
      unfold gc
      generalize moZ K a b s = M
      by_cases h1 : s = y <;> by_cases h2 : s = x <;> by_cases h3 : x = a <;> by_cases h4 : x = b <;> by_cases h5 : y = a <;> by_cases h6 : y = b <;> first | (exfalso; omega) | (simp_all [eq_comm] <;> grind)
  rw [sumZ_cg e1, ← sumZ_add, sumZ_pt, sumZ_pt, if_pos hy, if_pos hx]
  clear e1
  unfold swK moZ
  by_cases h3 : x = a <;> by_cases h4 : x = b <;> by_cases h5 : y = a <;> by_cases h6 : y = b <;> first | (exfalso; omega) | (simp_all [adf_comm, adf_self] <;> grind)

theorem growth {A : St} (hW : WF A) {D : Nat} (hD : D < A 11 0 0) (K : Nat → Nat) {a b : Nat} (hab : a ≠ b) : sumZ (grI A D K a b) 50 = (travK A D (swK K a b) : Int) - (travK A D K : Int) := by
  have e1 : ∀ s, s < 50 → grI A D K a b s = sumZ (fun w => sumZ (fun k => if s = a ∨ s = b then 0 else ((A 5 0 w : Int) * (gc ((own A D w).getD k 0) ((own A D w).getD (k + 1) 0) a s : Nat) - (A 5 0 w : Int) * (gc ((own A D w).getD k 0) ((own A D w).getD (k + 1) 0) b s : Nat)) * moZ K a b s) ((own A D w).length - 1)) (A 2 0 0) := by
    intro s _
    unfold grI goS
    by_cases e : s = a ∨ s = b
    · rw [if_pos e]
      refine ((sumZ_cg (g := fun _ => 0) (fun w _ => ?_)).trans (sumZ_0 _)).symm
      exact (sumZ_cg (g := fun _ => 0) (fun k _ => by rw [if_pos e])).trans (sumZ_0 _)
    · rw [if_neg e, sumZ_c, sumZ_c, sumZ_sub, sumZ_mul]
      refine sumZ_cg (fun w _ => ?_)
      rw [sumZ_c, sumZ_c, sumZ_sub, sumZ_mul]
      exact sumZ_cg (fun k _ => by rw [if_neg e, Int.natCast_mul, Int.natCast_mul])
  rw [sumZ_cg e1, sumZ_swap]
  unfold travK
  rw [sumZ_c, sumZ_c, sumZ_sub]
  refine sumZ_cg (fun w hw => ?_)
  rw [sumZ_swap, sumZ_c, sumZ_c, sumZ_sub]
  refine sumZ_cg (fun k _ => ?_)
  rw [pair_gr (own_lt hW hD hw k) (own_lt hW hD hw (k + 1)) hab, Int.natCast_mul, Int.natCast_mul]
/-- the exchanges in the class's order -/
def inS (A : St) (D a : Nat) (acc : Nat × Nat) (i : Nat) : Nat × Nat := foldR (fun acc s => if ((allS A D).testBit a && (allS A D).testBit s && decide (a < s)) = true then exI A D acc a s else acc) acc i
def ouS (A : St) (D i : Nat) : Nat × Nat := foldR (fun acc a => inS A D a acc 50) (travK A D (A 16 D), 0) i
theorem fold_skip {α : Type} {g : α → Nat → α} {p : Nat} (h : ∀ acc j, j < p → g acc j = acc) : ∀ (q : Nat) (z : α), foldR g z (p + q) = foldR (fun acc i => g acc (p + i)) z q := by
  have h0 : ∀ n, n ≤ p → ∀ z, foldR g z n = z := by
    intro n
    induction n with
    | zero => intro _ z; rfl
    | succ n ih => intro hn z; show g (foldR g z n) n = z; rw [h _ _ (by omega)]; exact ih (by omega) z
  intro q
  induction q with
  | zero => intro z; exact h0 p (Nat.le_refl _) z
  | succ q ih => intro z; show g (foldR g z (p + q)) (p + q) = g (foldR _ z q) (p + q); rw [ih]
theorem exK_is {A : St} {D k : Nat} (hk : k < (usL (allS A D)).length) (acc : Nat × Nat) : exK A D k acc ((usL (allS A D)).length - 1 - k) = inS A D (usd A D k) acc 50 := by
  have h1 := fold_us (fun acc s => if usd A D k < s then exI A D acc (usd A D k) s else acc) acc (allS A D) 50
  have hb : (allS A D).testBit (usd A D k) = true := usL_bit hk
  have h2 : inS A D (usd A D k) acc 50 = foldR (fun acc s => if (allS A D).testBit s = true then (if usd A D k < s then exI A D acc (usd A D k) s else acc) else acc) acc 50 := by
    unfold inS
    refine foldR_cg (fun a u _ => ?_)
    rw [hb, Bool.true_and]
    cases (allS A D).testBit u
    · rw [Bool.false_and, if_neg Bool.false_ne_true, if_neg Bool.false_ne_true]
    · rw [Bool.true_and, if_pos rfl]
      by_cases e : usd A D k < u
      · rw [if_pos e, decide_eq_true e, if_pos rfl]
      · rw [if_neg e, decide_eq_false e, if_neg Bool.false_ne_true]
  rw [h2, ← h1]
  show _ = foldR (fun acc j => if usd A D k < usd A D j then exI A D acc (usd A D k) (usd A D j) else acc) acc (usL (allS A D)).length
  rw [show (usL (allS A D)).length = (k + 1) + ((usL (allS A D)).length - 1 - k) by omega, fold_skip (fun acc j hj => ?_)]
  · unfold exK
    rw [show (k + 1) + ((usL (allS A D)).length - 1 - k) - 1 - k = (usL (allS A D)).length - 1 - k by omega]
    refine foldR_cg (fun a u hu => ?_)
    have h3 : usd A D k < usd A D (k + 1 + u) := usF_rise 50 k (k + 1 + u) (by omega) (by show _ < (usL (allS A D)).length; omega)
    rw [if_pos h3]
  · by_cases e : j = k
    · rw [e, if_neg (Nat.lt_irrefl _)]
    · have h3 : usd A D j < usd A D k := usF_rise 50 j k (by omega) hk
      rw [if_neg (by omega)]
theorem exS_is (A : St) (D : Nat) : exS A D = ouS A D 50 := by
  have h1 := fold_us (fun acc a => inS A D a acc 50) (travK A D (A 16 D), 0) (allS A D) 50
  have h2 : exS A D = foldR (fun acc k => inS A D (usd A D k) acc 50) (travK A D (A 16 D), 0) (usL (allS A D)).length := by
    unfold exS
    exact foldR_cg (fun a u hu => exK_is hu a)
  rw [h2]
  refine h1.trans ?_
  unfold ouS
  refine foldR_cg (fun acc a _ => ?_)
  by_cases e : (allS A D).testBit a = true
  · rw [if_pos e]
  · rw [if_neg e]
    have h3 : ∀ n, inS A D a acc n = acc := by
      intro n
      induction n with
      | zero => rfl
      | succ n ih =>
        show (if _ then _ else inS A D a acc n) = acc
        rw [ih, if_neg (by simp [e])]
    exact (h3 50).symm
theorem inS_le {A : St} {D a : Nat} {acc : Nat × Nat} (h : acc.1 ≤ 15000000 ∧ acc.2 ≤ 5000) (ha : a < 50) : ∀ n, n ≤ 50 → (inS A D a acc n).1 ≤ 15000000 ∧ (inS A D a acc n).2 ≤ 5000 := by
  intro n
  induction n with
  | zero => intro _; exact h
  | succ n ih =>
    intro hn
    show (if _ then exI A D (inS A D a acc n) a n else inS A D a acc n).1 ≤ _ ∧ (if _ then exI A D (inS A D a acc n) a n else inS A D a acc n).2 ≤ _
    split
    · exact exI_le (ih (by omega)) ha (by omega)
    · exact ih (by omega)
theorem inS_lo {A : St} {D a : Nat} {acc : Nat × Nat} : ∀ n, n ≤ a + 1 → inS A D a acc n = acc := by
  intro n
  induction n with
  | zero => intro _; rfl
  | succ n ih =>
    intro hn
    show (if _ then _ else inS A D a acc n) = acc
    rw [ih (by omega), if_neg (by rw [decide_eq_false (by omega), Bool.and_false]; exact Bool.false_ne_true)]
theorem ouS_le {A : St} (hW : WF A) {D : Nat} (hD : D < A 11 0 0) : ∀ n, n ≤ 50 → (ouS A D n).1 ≤ 15000000 ∧ (ouS A D n).2 ≤ 5000 := by
  intro n
  induction n with
  | zero => intro _; exact ⟨travK_le hW (hW.G hD).2.2.2.2 hD, Nat.zero_le _⟩
  | succ n ih => intro hn; exact inS_le (ih (by omega)) (by omega) 50 (Nat.le_refl _)
