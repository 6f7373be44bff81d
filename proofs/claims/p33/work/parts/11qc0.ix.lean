/-! ranges, counts, block writes -/
theorem ck_and0 : (nI 0 &&& nI 1 = nI 0) = True := eq_true rfl
theorem ck_and1 : (nI 1 &&& nI 1 = nI 1) = True := eq_true rfl
theorem nar_0 : vp_nar .boolean (nI 0) = nI 0 := rfl
theorem nar_1 : vp_nar .boolean (nI 1) = nI 1 := rfl
def ix (x : Int32) (N : Nat) : Bool := decide (¬ x < 0) && decide (x < nI N)
theorem ix_or (x : Int32) (N : Nat) (hN : N < 2147483648) : (∃ j, j < N ∧ x = nI j ∧ ix x N = true) ∨ (ix x N = false ∧ (x < 0 ∨ ¬ x < 0 ∧ ∃ j, N ≤ j ∧ j < 2147483648 ∧ x = nI j)) := by
  rcases nI_split x with h | ⟨j, hj, rfl⟩
  · exact Or.inr ⟨by simp [ix, h], Or.inl h⟩
  · have h0 : ¬ nI j < 0 := by rw [il_0, nI_ltJ hj (by omega)]; omega
    by_cases h : j < N
    · exact Or.inl ⟨j, h, rfl, by simp [ix, h0, nI_ltJ hj hN, h]⟩
    · exact Or.inr ⟨by simp [ix, nI_ltJ hj hN, h], Or.inr ⟨h0, j, by omega, hj, rfl⟩⟩
theorem ix_t {j N : Nat} (h : j < N) (hN : N < 2147483648) : ix (nI j) N = true := by
  simp [ix, il_0, nI_ltJ (show j < 2147483648 by omega) hN, nI_ltJ (show j < 2147483648 by omega) (show 0 < 2147483648 by omega), h]
theorem ix_f {j N : Nat} (h : N ≤ j) (hj : j < 2147483648) : ix (nI j) N = false := by
  simp [ix, il_0, nI_ltJ hj (show N < 2147483648 by omega), nI_ltJ hj (show 0 < 2147483648 by omega)]; omega
theorem ix_neg {x : Int32} {N : Nat} (h : x < 0) : ix x N = false := by simp [ix, h]
/-- the facts of a number below 0 -/
theorem ng_i {x : Int32} (h : x < 0) : x.toInt < 0 := by
  have h1 := Int32.lt_iff_toInt_lt.mp h
  exact h1
theorem ng_1 {x : Int32} (h : x < 0) {c : Nat} (hc : c < 2147483648) : (nI c < x) = False := by
  refine eq_false fun g => ?_
  have h1 := ng_i h; have h2 := Int32.lt_iff_toInt_lt.mp g
  rw [nI_toInt (by omega)] at h2; omega
theorem ng_2 {x : Int32} (h : x < 0) {c : Nat} (hc : c < 2147483648) : (nI c ≤ x) = False := by
  refine eq_false fun g => ?_
  have h1 := ng_i h; have h2 := Int32.le_iff_toInt_le.mp g
  rw [nI_toInt (by omega)] at h2; omega
theorem ng_3 {x : Int32} (h : x < 0) {c : Nat} (hc : c < 2147483648) : (x < nI c) = True := by
  refine eq_true (Int32.lt_iff_toInt_lt.mpr ?_)
  have h1 := ng_i h
  rw [nI_toInt (by omega)]; omega
theorem ng_4 {x : Int32} (h : x < 0) {c : Nat} (hc : c < 2147483648) : (x ≤ nI c) = True := by
  refine eq_true (Int32.le_iff_toInt_le.mpr ?_)
  have h1 := ng_i h
  rw [nI_toInt (by omega)]; omega
theorem ng_5 {x : Int32} (h : x < 0) {c : Nat} (hc : c < 2147483648) : (x = nI c) = False := by
  refine eq_false fun g => ?_
  have h1 := ng_i h
  rw [g, nI_toInt (by omega)] at h1; omega
def bI (b : Bool) : Int32 := nI (if b then 1 else 0)
theorem bI_t : bI true = nI 1 := rfl
theorem bI_f : bI false = nI 0 := rfl
theorem bI_and (b : Bool) : (bI b &&& nI 1 = bI b) = True := by cases b <;> exact eq_true rfl
theorem bI_0 (b : Bool) : (bI b = nI 0) = (b = false) := by
  cases b
  · exact propext ⟨fun _ => rfl, fun _ => rfl⟩
  · exact propext ⟨fun h => absurd h (by decide), fun h => by cases h⟩
/-- a block written -/
def stF (A : St) (f i n : Nat) (g : Nat → Nat) : St := fun a b c => if a = f ∧ b = i ∧ c < n then g c else A a b c
theorem stF_e {A : St} {f i n : Nat} {g : Nat → Nat} {a b c : Nat} (h1 : a = f) (h2 : b = i) (h3 : c < n) : stF A f i n g a b c = g c := if_pos ⟨h1, h2, h3⟩
theorem stF_n {A : St} {f i n : Nat} {g : Nat → Nat} {a b c : Nat} (h : ¬ (a = f ∧ b = i ∧ c < n)) : stF A f i n g a b c = A a b c := if_neg h
theorem stF_0 {A : St} {f i : Nat} {g : Nat → Nat} : stF A f i 0 g = A := by
  funext a b c; exact stF_n (by omega)
theorem stF_s {A : St} {f i n : Nat} {g : Nat → Nat} : stF A f i (n + 1) g = stU (stF A f i n g) f i n (g n) := by
  funext a b c
  by_cases h : a = f ∧ b = i ∧ c = n
  · rw [stU_e h.1 h.2.1 h.2.2, stF_e h.1 h.2.1 (by omega), h.2.2]
  · rw [stU_n h]
    by_cases h2 : a = f ∧ b = i ∧ c < n
    · rw [stF_e h2.1 h2.2.1 (by omega), stF_e h2.1 h2.2.1 h2.2.2]
    · rw [stF_n (by omega), stF_n h2]
/-- how many of m from a on -/
def cntR (p : Nat → Bool) (a : Nat) : Nat → Nat
  | 0 => 0
  | m + 1 => cntR p a m + (if p (a + m) then 1 else 0)
theorem cntR_le (p : Nat → Bool) (a m : Nat) : cntR p a m ≤ m := by
  induction m with
  | zero => exact Nat.le_refl _
  | succ m ih => simp only [cntR]; split <;> omega
theorem cntR_pos {p : Nat → Bool} {a m : Nat} : 0 < cntR p a m ↔ ∃ u, u < m ∧ p (a + u) = true := by
  induction m with
  | zero => simp [cntR]
  | succ m ih =>
    simp only [cntR]
    constructor
    · intro h
      by_cases h2 : 0 < cntR p a m
      · obtain ⟨u, hu, hp⟩ := ih.mp h2; exact ⟨u, by omega, hp⟩
      · refine ⟨m, by omega, ?_⟩
        by_cases h3 : p (a + m) = true
        · exact h3
        · rw [if_neg h3] at h; omega
    · rintro ⟨u, hu, hp⟩
      by_cases e : u = m
      · subst e; rw [if_pos hp]; omega
      · have := ih.mpr ⟨u, by omega, hp⟩; omega
theorem cntR_congr {p q : Nat → Bool} {a m : Nat} (h : ∀ u, u < m → p (a + u) = q (a + u)) : cntR p a m = cntR q a m := by
  induction m with
  | zero => rfl
  | succ m ih => simp only [cntR]; rw [ih (fun u hu => h u (by omega)), h m (by omega)]
/-- is there such a unit in a design of kind k -/
def isU (k u : Nat) : Bool := decide (u < if k = 0 then 12 else 44) || (decide (44 ≤ u) && decide (u < 47))
/-- units of a design with a sign -/
def hasU (A : St) (D s u : Nat) : Bool := isU (A 12 0 D) u && decide (A 14 D u = s)
