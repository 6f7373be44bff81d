/-! how many codes are spelled so -/
theorem sumR_prod (f : Nat → Nat) (a b : Nat) : sumR f (a * b) = sumR (fun i => sumR (fun j => f (b * i + j)) b) a := by
  induction a with
  | zero => simp [sumR]
  | succ a ih =>
    have h : ∀ n, sumR f (a * b + n) = sumR f (a * b) + sumR (fun j => f (b * a + j)) n := by
      intro n
      induction n with
      | zero => rfl
      | succ n ihn =>
        show sumR f (a * b + n) + f (a * b + n) = _
        rw [ihn, Nat.mul_comm a b]; simp only [sumR]; omega
    rw [Nat.succ_mul, h, ih]; rfl
theorem cntR_sum (p : Nat → Bool) (a m : Nat) : cntR p a m = sumR (fun i => if p (a + i) = true then 1 else 0) m := by
  induction m with
  | zero => rfl
  | succ m ih => simp only [cntR, sumR, ih]
theorem un_sum (A : St) (D a m s : Nat) : un A D a m s = sumR (fun i => if A 14 D (a + i) = s then 1 else 0) m := by
  unfold un; rw [cntR_sum]; exact sumR_cg (fun u _ => by simp)
/-- a window of signs -/
def win (g : Nat → Nat) (j : Nat) : List Nat := (List.range j).map g
def cntS (A : St) (D : Nat) (g : Nat → Nat) (j : Nat) : Nat := sumR (fun c => if syl A D c = win g j then 1 else 0) 972
theorem ofc_at {o v cd t : Nat} (hv : v < 4) (hc : cd < 9) (ht : t < 3) : ofc (108 * o + (27 * v + (3 * cd + t))) 0 = o ∧ ofc (108 * o + (27 * v + (3 * cd + t))) 1 = v ∧ ofc (108 * o + (27 * v + (3 * cd + t))) 2 = cd ∧ ofc (108 * o + (27 * v + (3 * cd + t))) 3 = t := by
  refine ⟨?_, ?_, ?_, ?_⟩ <;> simp only [ofc, if_true, Nat.one_ne_zero, if_false, show ¬ (2 = 0) by decide, show ¬ (2 = 1) by decide, show ¬ (3 = 0) by decide, show ¬ (3 = 1) by decide, show ¬ (3 = 2) by decide] <;> omega
def sylP (A : St) (D o v cd t : Nat) : List Nat :=
  ((if A 12 0 D = 0 then (if o = 8 then [] else [A 14 D o]) ++ [A 14 D (8 + v)] else [A 14 D (4 * o + v)]) ++ (if A 15 D t = 0 then [] else [A 14 D (44 + t)])) ++ (if cd = 8 then [] else [A 14 D ((if A 12 0 D = 0 then 0 else 36) + cd)])
theorem cntS_4 (A : St) (D : Nat) (g : Nat → Nat) (j : Nat) : cntS A D g j = sumR (fun o => sumR (fun v => sumR (fun cd => sumR (fun t => if sylP A D o v cd t = win g j then 1 else 0) 3) 9) 4) 9 := by
  unfold cntS
  rw [show 972 = 9 * 108 from rfl, sumR_prod]
  refine sumR_cg (fun o ho => ?_)
  rw [show 108 = 4 * 27 from rfl, sumR_prod]
  refine sumR_cg (fun v hv => ?_)
  rw [show 27 = 9 * 3 from rfl, sumR_prod]
  refine sumR_cg (fun cd hc => ?_)
  refine sumR_cg (fun t ht => ?_)
  obtain ⟨h0, h1, h2, h3⟩ := ofc_at (o := o) hv hc ht
  have e : 4 * 27 * o + (9 * 3 * v + (3 * cd + t)) = 108 * o + (27 * v + (3 * cd + t)) := rfl
  rw [e]
  unfold syl sylP
  rw [h0, h1, h2, h3]
def ind (p : Prop) [Decidable p] : Nat := if p then 1 else 0
theorem fac4 (a b c d : Nat → Nat) (n1 n2 n3 n4 : Nat) : sumR (fun o => sumR (fun v => sumR (fun cd => sumR (fun t => a o * b v * c t * d cd) n4) n3) n2) n1 = sumR a n1 * sumR b n2 * sumR c n4 * sumR d n3 := by
  have e1 : ∀ o v cd, sumR (fun t => a o * b v * c t * d cd) n4 = a o * b v * sumR c n4 * d cd := fun o v cd => by rw [← sumR_mulL, ← sumR_mulR]
  simp only [e1, sumR_mulL, sumR_mulR]
theorem fac3 (a : Nat → Nat → Nat) (c d : Nat → Nat) (n1 n2 n3 n4 : Nat) : sumR (fun o => sumR (fun v => sumR (fun cd => sumR (fun t => a o v * c t * d cd) n4) n3) n2) n1 = sumR (fun o => sumR (fun v => a o v) n2) n1 * sumR c n4 * sumR d n3 := by
  have e1 : ∀ o v cd, sumR (fun t => a o v * c t * d cd) n4 = a o v * sumR c n4 * d cd := fun o v cd => by rw [← sumR_mulL, ← sumR_mulR]
  simp only [e1, sumR_mulL, sumR_mulR]
/-- the pieces -/
def fO (A : St) (D : Nat) (g : Nat → Nat) (b : Nat) (o : Nat) : Nat := if b = 1 then (if o = 8 then 0 else if A 14 D o = g 0 then 1 else 0) else (if o = 8 then 1 else 0)
def fV (A : St) (D : Nat) (g : Nat → Nat) (b : Nat) (v : Nat) : Nat := if A 14 D (8 + v) = g b then 1 else 0
def fT (A : St) (D : Nat) (g : Nat → Nat) (i b : Nat) (t : Nat) : Nat := if b = 1 then (if A 15 D t = 0 then 0 else if A 14 D (44 + t) = g i then 1 else 0) else (if A 15 D t = 0 then 1 else 0)
def fC (A : St) (D : Nat) (g : Nat → Nat) (a i b : Nat) (cd : Nat) : Nat := if b = 0 then (if cd = 8 then 1 else 0) else (if cd = 8 then 0 else if A 14 D (a + cd) = g i then 1 else 0)
theorem fO_sum (A : St) (D : Nat) (g : Nat → Nat) (b : Nat) : sumR (fO A D g b) 9 = if b = 1 then un A D 0 8 (g 0) else 1 := by
  by_cases h : b = 1
  · subst h
    rw [if_pos rfl, un_sum]
    show sumR (fO A D g 1) 8 + fO A D g 1 8 = _
    rw [show fO A D g 1 8 = 0 from rfl, Nat.add_zero]
    refine sumR_cg (fun u hu => ?_)
    unfold fO; rw [if_pos rfl, if_neg (by omega), Nat.zero_add]
  · rw [if_neg h]
    show sumR (fO A D g b) 8 + fO A D g b 8 = 1
    rw [sum_head (fun k hk => by unfold fO; rw [if_neg h, if_neg (by omega)])]
    unfold fO; rw [if_neg h, if_pos rfl]
theorem fV_sum (A : St) (D : Nat) (g : Nat → Nat) (b : Nat) : sumR (fV A D g b) 4 = un A D 8 4 (g b) := by rw [un_sum]; rfl
theorem fT_sum (A : St) (D : Nat) (g : Nat → Nat) (i b : Nat) : sumR (fT A D g i b) 3 = if b = 1 then tnM A D (g i) else tnU A D := by
  by_cases h : b = 1
  · subst h
    rw [if_pos rfl, tnM, cntR_sum]
    refine sumR_cg (fun u hu => ?_)
    unfold fT; rw [if_pos rfl, Nat.zero_add]
    by_cases e : A 15 D u = 0 <;> by_cases e2 : A 14 D (44 + u) = g i <;> simp [e, e2]
  · rw [if_neg h, tnU, cntR_sum]
    refine sumR_cg (fun u hu => ?_)
    unfold fT; rw [if_neg h, Nat.zero_add]
    by_cases e : A 15 D u = 0 <;> simp [e]
theorem fC_sum (A : St) (D : Nat) (g : Nat → Nat) (a i b : Nat) : sumR (fC A D g a i b) 9 = if b = 0 then 1 else un A D a 8 (g i) := by
  by_cases h : b = 0
  · rw [if_pos h]
    show sumR (fC A D g a i b) 8 + fC A D g a i b 8 = 1
    rw [sum_head (fun k hk => by unfold fC; rw [if_pos h, if_neg (by omega)])]
    unfold fC; rw [if_pos h, if_pos rfl]
  · rw [if_neg h, un_sum]
    show sumR (fC A D g a i b) 8 + fC A D g a i b 8 = _
    have e8 : fC A D g a i b 8 = 0 := by unfold fC; rw [if_neg h, if_pos rfl]
    rw [e8, Nat.add_zero]
    refine sumR_cg (fun u hu => ?_)
    unfold fC; rw [if_neg h, if_neg (by omega)]
theorem win_eq (g : Nat → Nat) : win g 1 = [g 0] ∧ win g 2 = [g 0, g 1] ∧ win g 3 = [g 0, g 1, g 2] ∧ win g 4 = [g 0, g 1, g 2, g 3] := ⟨rfl, rfl, rfl, rfl⟩
/-- pointwise: one of the eight ways -/
theorem pt0 (A : St) (D : Nat) (g : Nat → Nat) {j : Nat} (h1 : 0 < j) (h4 : j ≤ 4) (hk : A 12 0 D = 0) (o v cd t : Nat) : (if sylP A D o v cd t = win g j then 1 else 0) = sumR (fun h => if h % 2 + 1 + h / 2 % 2 + h / 4 = j then fO A D g (h % 2) o * fV A D g (h % 2) v * fT A D g (h % 2 + 1) (h / 2 % 2) t * fC A D g 0 (h % 2 + 1 + h / 2 % 2) (h / 4) cd else 0) 8 := by
  obtain ⟨w1, w2, w3, w4⟩ := win_eq g
  rcases (show j = 1 ∨ j = 2 ∨ j = 3 ∨ j = 4 by omega) with rfl | rfl | rfl | rfl <;> by_cases e1 : o = 8 <;> by_cases e2 : A 15 D t = 0 <;> by_cases e3 : cd = 8 <;> simp [sylP, hk, e1, e2, e3, w1, w2, w3, w4, sumR, fO, fV, fT, fC] <;> grind
theorem pt1 (A : St) (D : Nat) (g : Nat → Nat) {j : Nat} (h1 : 0 < j) (h4 : j ≤ 4) (hk : A 12 0 D ≠ 0) (o v cd t : Nat) : (if sylP A D o v cd t = win g j then 1 else 0) = sumR (fun h => if 1 + h % 2 + h / 2 = j then (if A 14 D (4 * o + v) = g 0 then 1 else 0) * fT A D g 1 (h % 2) t * fC A D g 36 (1 + h % 2) (h / 2) cd else 0) 4 := by
  obtain ⟨w1, w2, w3, w4⟩ := win_eq g
  rcases (show j = 1 ∨ j = 2 ∨ j = 3 ∨ j = 4 by omega) with rfl | rfl | rfl | rfl <;> by_cases e2 : A 15 D t = 0 <;> by_cases e3 : cd = 8 <;> simp [sylP, hk, e2, e3, w1, w2, w3, w4, sumR, fT, fC] <;> grind
