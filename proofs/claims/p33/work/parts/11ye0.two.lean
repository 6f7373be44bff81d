/-! two designs: ways back and forth, votes -/
theorem ed_comm (a b : Nat → Nat) : ∀ i j, ed a b i j = ed b a j i := by
  intro i
  induction i with
  | zero => intro j; rw [ed_0j, ed_i0]
  | succ i ih =>
    intro j
    induction j with
    | zero => rw [ed_i0, ed_0j]
    | succ j ih2 =>
      rw [ed_ss, ed_ss, ih j, ih (j + 1), ih2, Nat.min_comm (ed b a (j + 1) i)]
      congr 2
      by_cases e : a i = b j
      · rw [if_pos e, if_pos e.symm]
      · rw [if_neg e, if_neg (fun h => e h.symm)]
theorem ed_self (a : Nat → Nat) : ∀ i, ed a a i i = 0 := by
  intro i
  induction i with
  | zero => rfl
  | succ i ih => rw [ed_ss, ih, if_pos rfl, Nat.zero_add, Nat.zero_min]
theorem edL_comm (l r : List Nat) : edL l r = edL r l := ed_comm _ _ _ _
theorem edL_self (l : List Nat) : edL l l = 0 := ed_self _ _
theorem reform_comm (A : St) (D E : Nat) : reformS A D E = reformS A E D := sumR_cg (fun w _ => by rw [edL_comm])
theorem reform_self (A : St) (D : Nat) : reformS A D D = 0 := by
  unfold reformS
  rw [sumR_cg (h := fun _ => 0) (fun w _ => by rw [edL_self, Nat.mul_zero]), sumR_zz]
/-- for the first one -/
def v0S (A : St) (n : Nat) : Nat := sumR (fun g => if scS A g 0 ≤ scS A g 1 then A 18 0 g else 0) n
theorem v0_le (A : St) (n : Nat) : v0S A n ≤ sumR (fun g => A 18 0 g) n := sumR_mono (fun u _ => by split <;> omega)
theorem forS_2 {A : St} (h : A 11 0 0 = 2) (g : Nat) : (forS A g 3).1 = if scS A g 0 ≤ scS A g 1 then 1 else 2 := by
  unfold forS
  rw [h]
  have e0 : forI A g 3 (0, 0) 0 = (1, scS A g 0) := by unfold forI; rw [if_pos (by simp)]
  have e : foldR (forI A g 3) (0, 0) 2 = forI A g 3 (forI A g 3 (0, 0) 0) 1 := rfl
  rw [e, e0]
  unfold forI
  have hb : Nat.testBit 3 1 = true := by decide
  by_cases c : scS A g 0 ≤ scS A g 1
  · rw [if_pos c, if_neg (by rw [hb, Bool.true_and, decide_eq_false Nat.one_ne_zero, Bool.false_or, decide_eq_false (by dsimp only; omega)]; decide)]
  · rw [if_neg c, if_pos (by rw [hb, Bool.true_and, decide_eq_false Nat.one_ne_zero, Bool.false_or, decide_eq_true (by dsimp only; omega)])]
theorem forS_1 {A : St} (h : A 11 0 0 = 2) (g : Nat) : (forS A g 1).1 = 1 := by
  unfold forS
  rw [h]
  have e0 : forI A g 1 (0, 0) 0 = (1, scS A g 0) := by unfold forI; rw [if_pos (by simp)]
  have e : foldR (forI A g 1) (0, 0) 2 = forI A g 1 (forI A g 1 (0, 0) 0) 1 := rfl
  rw [e, e0]
  unfold forI
  have hb : Nat.testBit 1 1 = false := by decide
  rw [if_neg (by rw [hb, Bool.false_and]; decide)]
theorem vot_0 {A : St} (h : A 11 0 0 = 2) : votS A 0 3 = v0S A 4 := sumR_cg (fun g _ => by
  rw [forS_2 h]
  by_cases c : scS A g 0 ≤ scS A g 1
  · rw [if_pos c, if_pos c]; rfl
  · rw [if_neg c, if_neg c]; rfl)
theorem vot_1 {A : St} (h : A 11 0 0 = 2) : votS A 1 3 = ppS A - v0S A 4 := by
  have e : v0S A 4 + votS A 1 3 = ppS A := by
    unfold v0S votS ppS
    rw [← sumR_add]
    refine sumR_cg (fun g _ => ?_)
    rw [forS_2 h]
    by_cases c : scS A g 0 ≤ scS A g 1
    · rw [if_pos c, if_pos c, if_neg (by decide), Nat.add_zero]
    · rw [if_neg c, if_neg c, if_pos rfl, Nat.zero_add]
  omega
theorem vot_a {A : St} (h : A 11 0 0 = 2) : votS A 0 1 = ppS A := sumR_cg (fun g _ => by rw [forS_1 h]; rfl)
theorem hit_2 (A : St) (set : Nat) : hitK A set 2 = if ppS A < 2 * votS A 0 set then 1 else if ppS A < 2 * votS A 1 set then 2 else 0 := by
  have e : hitK A set 2 = (if (if ppS A < 2 * votS A 0 set then 1 else 0) ≠ 0 then (if ppS A < 2 * votS A 0 set then 1 else 0) else if ppS A < 2 * votS A 1 set then 2 else 0) := rfl
  rw [e]
  by_cases c : ppS A < 2 * votS A 0 set
  · rw [if_pos c, if_pos Nat.one_ne_zero, if_pos c]
  · rw [if_neg c, if_neg (fun h => h rfl), if_neg c]
theorem el_2 {A : St} (h : A 11 0 0 = 2) (hp : ppS A ≠ 0) : elS A 32 3 = if ppS A - v0S A 4 ≤ v0S A 4 then 1 else 2 := by
  have hv : v0S A 4 ≤ ppS A := v0_le A 4
  have g0 := vot_0 h
  have g1 := vot_1 h
  have e : elS A 32 3 = if 3 = 0 then 0 else if hitK A 3 (A 11 0 0) ≠ 0 then hitK A 3 (A 11 0 0) else elS A 31 (3 - 2 ^ ((fewS A 3 (A 11 0 0)).1 - 1)) := rfl
  rw [e, if_neg (by decide), h, hit_2, g0, g1]
  by_cases c1 : ppS A < 2 * v0S A 4
  · rw [if_pos c1, if_pos Nat.one_ne_zero, if_pos (by omega)]
  · rw [if_neg c1]
    by_cases c2 : ppS A < 2 * (ppS A - v0S A 4)
    · rw [if_pos c2, if_pos (by decide), if_neg (by omega)]
    · rw [if_neg c2, if_neg (fun h => h rfl), if_pos (by omega)]
      have f0 : fewI A 3 (0, 0) 0 = (1, votS A 0 3) := by unfold fewI; rw [if_pos (by simp)]
      have f1 : fewS A 3 2 = fewI A 3 (fewI A 3 (0, 0) 0) 1 := rfl
      have f2 : (fewS A 3 2).1 = 2 := by
        rw [f1, f0]
        unfold fewI
        have hb : Nat.testBit 3 1 = true := by decide
        rw [if_pos (by rw [hb, Bool.true_and, decide_eq_false Nat.one_ne_zero, Bool.false_or, decide_eq_true (by rw [g0, g1]; omega)])]
      rw [f2]
      have e1 : elS A 31 (3 - 2 ^ (2 - 1)) = if 1 = 0 then 0 else if hitK A 1 (A 11 0 0) ≠ 0 then hitK A 1 (A 11 0 0) else elS A 30 (1 - 2 ^ ((fewS A 1 (A 11 0 0)).1 - 1)) := rfl
      rw [e1, if_neg (by decide), h, hit_2, vot_a h, if_pos (show ppS A < 2 * ppS A by omega), if_pos Nat.one_ne_zero]
