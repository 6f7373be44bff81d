/-! codes counted, the whole -/
theorem swap5 (G : Nat → Nat → Nat → Nat → Nat → Nat) (n1 n2 n3 n4 m : Nat) : sumR (fun o => sumR (fun v => sumR (fun cd => sumR (fun t => sumR (fun h => G h o v cd t) m) n4) n3) n2) n1 = sumR (fun h => sumR (fun o => sumR (fun v => sumR (fun cd => sumR (fun t => G h o v cd t) n4) n3) n2) n1) m := by
  have s1 : ∀ o v cd, sumR (fun t => sumR (fun h => G h o v cd t) m) n4 = sumR (fun h => sumR (fun t => G h o v cd t) n4) m := fun o v cd => sumR_swap (fun t h => G h o v cd t) n4 m
  have s2 : ∀ o v, sumR (fun cd => sumR (fun h => sumR (fun t => G h o v cd t) n4) m) n3 = sumR (fun h => sumR (fun cd => sumR (fun t => G h o v cd t) n4) n3) m := fun o v => sumR_swap (fun cd h => sumR (fun t => G h o v cd t) n4) n3 m
  have s3 : ∀ o, sumR (fun v => sumR (fun h => sumR (fun cd => sumR (fun t => G h o v cd t) n4) n3) m) n2 = sumR (fun h => sumR (fun v => sumR (fun cd => sumR (fun t => G h o v cd t) n4) n3) n2) m := fun o => sumR_swap (fun v h => sumR (fun cd => sumR (fun t => G h o v cd t) n4) n3) n2 m
  rw [sumR_cg (fun o _ => sumR_cg (fun v _ => sumR_cg (fun cd _ => s1 o v cd))), sumR_cg (fun o _ => sumR_cg (fun v _ => s2 o v)), sumR_cg (fun o _ => s3 o)]
  exact sumR_swap (fun o h => sumR (fun v => sumR (fun cd => sumR (fun t => G h o v cd t) n4) n3) n2) n1 m
theorem if4 (c : Prop) [Decidable c] (F : Nat → Nat → Nat → Nat → Nat) (n1 n2 n3 n4 : Nat) : sumR (fun o => sumR (fun v => sumR (fun cd => sumR (fun t => if c then F o v cd t else 0) n4) n3) n2) n1 = if c then sumR (fun o => sumR (fun v => sumR (fun cd => sumR (fun t => F o v cd t) n4) n3) n2) n1 else 0 := by
  by_cases h : c
  · simp only [h, if_true]
  · simp only [h, if_false, sumR_0]
theorem cnt_eq (A : St) (D : Nat) (g : Nat → Nat) {j : Nat} (h1 : 0 < j) (h4 : j ≤ 4) : cntS A D g j = syS A D g j := by
  rw [cntS_4]
  by_cases hk : A 12 0 D = 0
  · rw [sumR_cg (fun o _ => sumR_cg (fun v _ => sumR_cg (fun cd _ => sumR_cg (fun t _ => pt0 A D g h1 h4 hk o v cd t))))]
    rw [swap5 (fun h o v cd t => if h % 2 + 1 + h / 2 % 2 + h / 4 = j then fO A D g (h % 2) o * fV A D g (h % 2) v * fT A D g (h % 2 + 1) (h / 2 % 2) t * fC A D g 0 (h % 2 + 1 + h / 2 % 2) (h / 4) cd else 0)]
    unfold syS
    refine sumR_cg (fun h hh => ?_)
    rw [if4, fac4, fO_sum, fV_sum, fT_sum, fC_sum]
    unfold syH syP
    simp only [hk, if_true, true_or, and_true]
  · rw [sumR_cg (fun o _ => sumR_cg (fun v _ => sumR_cg (fun cd _ => sumR_cg (fun t _ => pt1 A D g h1 h4 hk o v cd t))))]
    rw [swap5 (fun h o v cd t => if 1 + h % 2 + h / 2 = j then (if A 14 D (4 * o + v) = g 0 then 1 else 0) * fT A D g 1 (h % 2) t * fC A D g 36 (1 + h % 2) (h / 2) cd else 0)]
    have ev : sumR (fun o => sumR (fun v => if A 14 D (4 * o + v) = g 0 then 1 else 0) 4) 9 = un A D 0 36 (g 0) := by
      rw [un_sum, show 36 = 9 * 4 from rfl, sumR_prod]
      exact sumR_cg (fun u _ => sumR_cg (fun v _ => by rw [Nat.zero_add]))
    have e2 : ∀ h, sumR (fun o => sumR (fun v => sumR (fun cd => sumR (fun t => if 1 + h % 2 + h / 2 = j then (if A 14 D (4 * o + v) = g 0 then 1 else 0) * fT A D g 1 (h % 2) t * fC A D g 36 (1 + h % 2) (h / 2) cd else 0) 3) 9) 4) 9 = if 1 + h % 2 + h / 2 = j then un A D 0 36 (g 0) * (if h % 2 = 1 then tnM A D (g 1) else tnU A D) * (if h / 2 = 0 then 1 else un A D 36 8 (g (1 + h % 2))) else 0 := fun h => by
      rw [if4, fac3, ev, fT_sum, fC_sum]
    rw [sumR_cg (fun h _ => e2 h)]
    simp [syS, sumR, syH, syP, hk]
/-! the ways from both ends -/
def bkF (A : St) (D : Nat) (l : List Nat) : Nat → Nat → Nat
  | 0 => fun k => if l.length = k then 1 else 0
  | n + 1 => fun k => sumR (fun e => rdT A D l k e * bkF A D l n e) (l.length + 1)
def prS (A : St) (D : Nat) (l : List Nat) (n m : Nat) : Nat := sumR (fun k => rdF A D l n k * bkF A D l m k) (l.length + 1)
theorem prS_step (A : St) (D : Nat) (l : List Nat) (n m : Nat) : prS A D l (n + 1) m = prS A D l n (m + 1) := by
  have e1 : ∀ e, rdF A D l (n + 1) e * bkF A D l m e = sumR (fun k => rdF A D l n k * rdT A D l k e * bkF A D l m e) (l.length + 1) := fun e => by
    show sumR (fun k => rdF A D l n k * rdT A D l k e) l.length * bkF A D l m e = _
    rw [← sumR_mulR]
    show _ = sumR (fun k => rdF A D l n k * rdT A D l k e * bkF A D l m e) l.length + rdF A D l n l.length * rdT A D l l.length e * bkF A D l m e
    have h0 : rdT A D l l.length e = 0 := by unfold rdT; rw [if_neg (by omega)]
    rw [h0, Nat.mul_zero, Nat.zero_mul, Nat.add_zero]
  have e2 : ∀ k, rdF A D l n k * bkF A D l (m + 1) k = sumR (fun e => rdF A D l n k * rdT A D l k e * bkF A D l m e) (l.length + 1) := fun k => by
    show rdF A D l n k * sumR (fun e => rdT A D l k e * bkF A D l m e) (l.length + 1) = _
    rw [← sumR_mulL]
    exact sumR_cg (fun e _ => by rw [Nat.mul_assoc])
  unfold prS
  rw [sumR_cg (fun e _ => e1 e), sumR_cg (fun k _ => e2 k)]
  exact sumR_swap _ _ _
theorem prS_all (A : St) (D : Nat) (l : List Nat) : ∀ n m, prS A D l n m = prS A D l 0 (n + m) := by
  intro n
  induction n with
  | zero => intro m; rw [Nat.zero_add]
  | succ n ih => intro m; rw [prS_step, ih]; congr 1; omega
theorem bk_eq (A : St) (D : Nat) (l : List Nat) (n : Nat) : bkF A D l n 0 = rdF A D l n l.length := by
  have h1 : prS A D l n 0 = rdF A D l n l.length := by
    unfold prS
    rw [sumR_cg (h := fun k => if l.length = k then rdF A D l n k else 0) (fun k _ => by
      show rdF A D l n k * (if l.length = k then 1 else 0) = _
      split <;> simp)]
    rw [sumR_delta (fun k => rdF A D l n k), if_pos (by omega)]
  have h2 : prS A D l 0 n = bkF A D l n 0 := by
    unfold prS
    rw [sumR_cg (h := fun k => if 0 = k then bkF A D l n k else 0) (fun k _ => by
      show (if k = 0 then 1 else 0) * bkF A D l n k = _
      by_cases e : k = 0
      · subst e; simp
      · rw [if_neg e, if_neg (fun h => e h.symm), Nat.zero_mul])]
    rw [sumR_delta (fun k => bkF A D l n k), if_pos (by omega)]
  rw [← h2, ← h1, prS_all A D l n 0, Nat.add_zero]
