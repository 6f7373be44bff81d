/-! the model: are two spellings alike -/
theorem drop_dec {l1 l2 : List Nat} {i : Nat} (h1 : i < l1.length) (h2 : i < l2.length) : decide (l1.drop i = l2.drop i) = (decide (l1.getD i 0 = l2.getD i 0) && decide (l1.drop (i + 1) = l2.drop (i + 1))) := by
  rw [List.drop_eq_getElem_cons h1, List.drop_eq_getElem_cons h2, List.getD_eq_getElem?_getD, List.getD_eq_getElem?_getD, List.getElem?_eq_getElem h1, List.getElem?_eq_getElem h2]
  simp only [List.cons.injEq, Bool.decide_and, Option.getD_some]
