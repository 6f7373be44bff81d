/-! the model's cells written -/
theorem FrC.rf {d : Dt} : FrC d d := fun _ _ _ => ⟨rfl, rfl⟩
theorem FrC.tr {a b c : Dt} (h : FrC a b) (g : FrC b c) : FrC a c := fun k hk hk2 => ⟨(g k hk hk2).1.trans (h k hk hk2).1, (g k hk hk2).2.trans (h k hk hk2).2⟩
theorem FrC.w {a d : Dt} {c j : Nat} {x : Int32} (hc : c < 265 ∨ 277 ≤ c) (h : FrC a d) : FrC a (aw_sI d c j x) := fun k hk hk2 => ⟨by
  rw [← (h k hk hk2).1]; funext i; exact aw_sI_n (by omega), (h k hk hk2).2⟩
theorem FrC.wl {a d : Dt} {c j : Nat} {x : Int64} (hc : c < 265 ∨ 277 ≤ c) (h : FrC a d) : FrC a (aw_sL d c j x) := fun k hk hk2 => ⟨(h k hk hk2).1, by
  rw [← (h k hk hk2).2]; funext i; exact aw_sL_n (by omega)⟩
