/-! walks of pure functions -/
def ok {α : Type} (f : Option α) (Q : α → Prop) : Prop := ∃ z, f = some z ∧ Q z
theorem ok_some {α : Type} {z : α} {Q : α → Prop} (h : Q z) : ok (some z) Q := ⟨z, rfl, h⟩
theorem ok_chk {α : Type} {b : Prop} {inst : Decidable b} {x : Option α} {Q : α → Prop} (hb : b) (h : ok x Q) : ok (@aw_chk α b inst x) Q := by
  rw [ck_t hb]; exact h
theorem ok_bs {α β : Type} {e : Option β} {q : β} {K : β → Option α} {Q : α → Prop} (he : e = some q) (h : ok (K q) Q) : ok (e.bind K) Q := by
  rw [he]; exact h
theorem ok_bind {α β : Type} {e : Option β} {P : β → Prop} {K : β → Option α} {Q : α → Prop} (he : ok e P) (h : ∀ z, P z → ok (K z) Q) : ok (e.bind K) Q := by
  obtain ⟨z, h1, h2⟩ := he
  rw [h1]; exact h z h2
theorem ok_t {α : Type} {c : Prop} {inst : Decidable c} {a b : Option α} {Q : α → Prop} (hc : c) (h : ok a Q) : ok (@ite (Option α) c inst a b) Q := by
  rw [if_pos hc]; exact h
theorem ok_f {α : Type} {c : Prop} {inst : Decidable c} {a b : Option α} {Q : α → Prop} (hc : ¬ c) (h : ok b Q) : ok (@ite (Option α) c inst a b) Q := by
  rw [if_neg hc]; exact h
theorem ok_s {α : Type} {c : Prop} {inst : Decidable c} {a b : Option α} {Q : α → Prop} (ht : c → ok a Q) (hf : ¬ c → ok b Q) : ok (@ite (Option α) c inst a b) Q := by
  by_cases hc : c
  · rw [if_pos hc]; exact ht hc
  · rw [if_neg hc]; exact hf hc
theorem ok_w {α : Type} {f : Option α} {P Q : α → Prop} (h : ok f P) (hw : ∀ z, P z → Q z) : ok f Q := by
  obtain ⟨z, h1, h2⟩ := h
  exact ⟨z, h1, hw z h2⟩
theorem nI_and1 {a : Nat} (h : a ≤ 1) : nI a &&& nI 1 = nI a := by
  rcases (show a = 0 ∨ a = 1 by omega) with rfl | rfl <;> rfl
