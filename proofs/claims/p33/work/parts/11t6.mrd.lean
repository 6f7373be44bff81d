/-! the model: readings -/
/-- how many syllables stand from k to e -/
def rdT (A : St) (D : Nat) (l : List Nat) (k e : Nat) : Nat := if k < e ∧ e ≤ k + 4 ∧ e ≤ l.length then syS A D (fun x => l.getD (k + x) 0) (e - k) else 0
def rdF (A : St) (D : Nat) (l : List Nat) : Nat → Nat → Nat
  | 0 => fun e => if e = 0 then 1 else 0
  | n + 1 => fun e => sumR (fun k => rdF A D l n k * rdT A D l k e) l.length
def rdS (A : St) (D : Nat) (l : List Nat) : Nat := sumR (fun n => rdF A D l (n + 1) l.length) 4
theorem rdT_le (A : St) (D : Nat) (l : List Nat) (k e : Nat) : rdT A D l k e ≤ 55296 := ite_le (syS_le _ _ _ _) (Nat.zero_le _)
theorem rdF_le {A : St} {D : Nat} {l : List Nat} (hl : l.length ≤ 16) {n e c : Nat} (h : ∀ k, rdF A D l n k ≤ c) : rdF A D l (n + 1) e ≤ 884736 * c := by
  have h1 := sumR_le (g := fun k => rdF A D l n k * rdT A D l k e) (n := l.length) (c := c * 55296) (fun u _ => Nat.mul_le_mul (h u) (rdT_le _ _ _ _ _))
  have h2 : l.length * (c * 55296) ≤ 16 * (c * 55296) := Nat.mul_le_mul_right _ hl
  show sumR (fun k => rdF A D l n k * rdT A D l k e) l.length ≤ _
  omega
theorem rdF_b {A : St} {D : Nat} {l : List Nat} (hl : l.length ≤ 16) {n : Nat} (hn : n < 4) (k : Nat) : rdF A D l n k < 9223372036854775808 := by
  have h0 : ∀ k, rdF A D l 0 k ≤ 1 := fun k => by show (if k = 0 then 1 else 0) ≤ 1; split <;> omega
  have h1 : ∀ k, rdF A D l 1 k ≤ 884736 * 1 := fun k => rdF_le hl h0
  have h2 : ∀ k, rdF A D l 2 k ≤ 884736 * (884736 * 1) := fun k => rdF_le hl h1
  have h3 : ∀ k, rdF A D l 3 k ≤ 884736 * (884736 * (884736 * 1)) := fun k => rdF_le hl h2
  rcases (show n = 0 ∨ n = 1 ∨ n = 2 ∨ n = 3 by omega) with rfl | rfl | rfl | rfl
  · have := h0 k; omega
  · have := h1 k; omega
  · have := h2 k; omega
  · have := h3 k; omega
/-- a row of long numbers -/
def RwL (c : Nat) (d : Dt) (g : Nat → Nat) : Prop := ∀ e, e ≤ 16 → d.2 c e = nL (g e)
theorem RwL.cg {c : Nat} {d : Dt} {g h : Nat → Nat} (r : RwL c d g) (e : ∀ k, k ≤ 16 → g k = h k) : RwL c d h := fun k hk => by rw [r k hk, e k hk]

abbrev ResL : Type := Nat × Int64 × St
def o_readings (A : St) (D w : Int32) : ResL := if ix D (A 11 0 0) = true ∧ ix w (A 2 0 0) = true then (0, nL (rdS A D.toNatClampNeg (own A D.toNatClampNeg w.toNatClampNeg)), A) else (1, nL 0, A)
