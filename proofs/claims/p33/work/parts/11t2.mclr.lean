/-! the model: reform, apart, clear, errors -/
def reformS (A : St) (D E : Nat) : Nat := sumR (fun w => A 5 0 w * edL (own A D w) (own A E w)) (A 2 0 0)
def isOfS (A : St) (D s : Nat) : Bool := decide (0 < cntR (hasU A D s) 0 47)
def farS (A : St) (s v : Nat) : Nat := edN (A 17 0 s) (A 17 0 v)
def clrI (A : St) (D s acc v : Nat) : Nat := if (isOfS A D s && isOfS A D v) = true then (if acc = 0 then farS A s v + 1 else min acc (farS A s v + 1)) else acc
def clrS (A : St) (D : Nat) : Nat := foldR (fun acc s => foldR (clrI A D s) acc s) 0 50
def takS (A : St) (D far s v : Nat) : Bool := decide (v ≠ s) && isOfS A D v && decide (farS A s v ≤ far)
def errS (A : St) (D far : Nat) : Nat := sumR (fun s => if (isOfS A D s && anyR (takS A D far s) 50) = true then sumR (fun w => sumR (fun k => if (own A D w).getD k 0 = s then A 5 0 w else 0) (own A D w).length) (A 2 0 0) else 0) 50
theorem shp {A : St} (hW : WF A) {s : Nat} (hs : s < 50) : 1 ≤ A 17 0 s ∧ A 17 0 s ≤ 4444 := ⟨(hW.s hs).1, (hW.s hs).2.1⟩
theorem farS_le {A : St} (hW : WF A) {s v : Nat} (hs : s < 50) (hv : v < 50) : farS A s v ≤ 8 := by
  have h1 := figs_le (shp hW hs).2
  have h2 := figs_le (shp hW hv).2
  have h := ed_le (dig (A 17 0 s)) (dig (A 17 0 v)) (figs (A 17 0 s)) (figs (A 17 0 v))
  unfold farS edN; omega
theorem clrI_le {A : St} (hW : WF A) {D s c : Nat} (hs : s < 50) (hc : c ≤ 9) : ∀ n, n ≤ 50 → foldR (clrI A D s) c n ≤ 9 := by
  intro n
  induction n with
  | zero => intro _; exact hc
  | succ n ih =>
    intro hn
    have h := ih (by omega)
    have hf := farS_le hW hs (show n < 50 by omega)
    simp only [foldR, clrI]
    repeat' split
    all_goals omega
theorem clrS_le {A : St} (hW : WF A) {D : Nat} : ∀ n, n ≤ 50 → foldR (fun acc s => foldR (clrI A D s) acc s) 0 n ≤ 9 := by
  intro n
  induction n with
  | zero => intro _; simp [foldR]
  | succ n ih => intro hn; exact clrI_le hW (by omega) (ih (by omega)) n (by omega)

def o_reform (A : St) (D E : Int32) : Res := if ix D (A 11 0 0) = true ∧ ix E (A 11 0 0) = true then (0, nI (reformS A D.toNatClampNeg E.toNatClampNeg), A) else o_bad A 1
def o_apart (A : St) (s v : Int32) : Res := if ix s 50 = true ∧ ix v 50 = true then (0, nI (farS A s.toNatClampNeg v.toNatClampNeg), A) else o_bad A 1
def o_clear (A : St) (D : Int32) : Res := if ix D (A 11 0 0) = true then (0, dI (clrS A D.toNatClampNeg), A) else o_bad A 1
