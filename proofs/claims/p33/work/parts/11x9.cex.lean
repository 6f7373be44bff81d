/-! the class: exchange -/
/-- the goings that the class keeps -/
def Go (d : Dt) (G : Nat → Nat → Nat) : Prop := ∀ s, s < 50 → ∀ t, t < 50 → d.1 183 (50 * s + t) = nI (G s t)
theorem Go.add {d : Dt} {G : Nat → Nat → Nat} (h : Go d G) {x y W : Nat} (hx : x < 50) (hy : y < 50) : Go (aw_sI d 183 (50 * x + y) (nI (G x y + W))) (fun s t => G s t + if x = s ∧ y = t then W else 0) := by
  intro s hs t ht
  by_cases e : x = s ∧ y = t
  · obtain ⟨rfl, rfl⟩ := e
    rw [aw_sI_e rfl rfl]
    show nI (G x y + W) = nI (G x y + if x = x ∧ y = y then W else 0)
    rw [if_pos ⟨rfl, rfl⟩]
  · rw [aw_sI_n (by omega)]
    show _ = nI (G s t + if x = s ∧ y = t then W else 0)
    rw [if_neg e]
    exact h s hs t ht
theorem Go.cg {d : Dt} {G H : Nat → Nat → Nat} (h : Go d G) (e : ∀ s t, G s t = H s t) : Go d H := fun s hs t ht => by rw [← e]; exact h s hs t ht
def goK (A : St) (D w k s t : Nat) : Nat := sumR (fun k => A 5 0 w * gc ((own A D w).getD k 0) ((own A D w).getD (k + 1) 0) s t) k
def goW (A : St) (D w s t : Nat) : Nat := sumR (fun w => goK A D w ((own A D w).length - 1) s t) w

theorem nZ (a : Nat) : nI a = Int32.ofInt a := Int32.ofInt_eq_ofNat.symm
theorem gr_step (z : Int) (p q u v : Nat) : Int32.ofInt z + (nI p - nI q) * (nI u - nI v) = Int32.ofInt (z + ((p : Int) - q) * ((u : Int) - v)) := by
  rw [nZ, nZ, nZ, nZ, ← Int32.ofInt_sub, ← Int32.ofInt_sub, ← Int32.ofInt_mul, ← Int32.ofInt_add]
theorem gr_le {x y : Int} (hx : -1073741824 ≤ x ∧ x < 1073741824) (hy : -1073741824 ≤ y ∧ y < 1073741824) : (Int32.ofInt x ≤ Int32.ofInt y) = (x ≤ y) := by
  rw [Int32.le_iff_toInt_le, Int32.toInt_ofInt_of_le (by omega) (by omega), Int32.toInt_ofInt_of_le (by omega) (by omega)]
