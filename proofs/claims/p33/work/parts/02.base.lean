/-! THE ABSTRACT HEAP. Cells are numbered from 0; σ says how many there are, what kind each is (a class' number, or 20 + the kind of array), how long, and its references by number; d has its ints and longs. 'ad' gives each number its address. -/
abbrev Sg : Type := Nat × (Nat → Nat × Nat) × (Nat → Nat → Option Nat)
abbrev Dt : Type := (Nat → Nat → Int32) × (Nat → Nat → Int64)
/-- the kind of a slot of a class: 0 an int, 1 a long, 2 a reference -/
def aw_sT (c j : Nat) : Nat := match c with
  | 0 => match j with
    | 0 => 2
    | 1 => 2
    | 2 => 2
    | 3 => 2
    | 4 => 2
    | 5 => 2
    | 6 => 0
    | _ => 0
  | 1 => match j with
    | 0 => 0
    | 1 => 0
    | 2 => 2
    | 3 => 2
    | 4 => 2
    | _ => 0
  | 2 => match j with
    | 0 => 2
    | 1 => 2
    | 2 => 2
    | 3 => 2
    | 4 => 0
    | 5 => 2
    | 6 => 2
    | 7 => 0
    | _ => 0
  | 3 => match j with
    | 0 => 2
    | _ => 0
  | 4 => match j with
    | 0 => 2
    | 1 => 2
    | 2 => 0
    | 3 => 1
    | 4 => 2
    | 5 => 0
    | 6 => 2
    | 7 => 2
    | _ => 0
  | 5 => match j with
    | 0 => 2
    | 1 => 2
    | 2 => 2
    | 3 => 2
    | 4 => 2
    | 5 => 2
    | _ => 0
  | 6 => match j with
    | 0 => 2
    | 1 => 2
    | 2 => 2
    | 3 => 2
    | _ => 0
  | 7 => match j with
    | 0 => 2
    | 1 => 2
    | 2 => 0
    | _ => 0
  | 8 => match j with
    | 0 => 2
    | _ => 0
  | 9 => match j with
    | 0 => 2
    | 1 => 0
    | 2 => 2
    | 3 => 0
    | _ => 0
  | 10 => match j with
    | 0 => 2
    | 1 => 2
    | 2 => 2
    | 3 => 2
    | 4 => 0
    | 5 => 2
    | 6 => 2
    | 7 => 2
    | 8 => 2
    | 9 => 2
    | 10 => 2
    | 11 => 2
    | 12 => 2
    | _ => 0
  | 11 => match j with
    | 0 => 0
    | _ => 0
  | _ => 0
def aw_v (ad : Nat → Nat) (σ : Sg) (d : Dt) (t k j : Nat) : Value := match t with
  | 0 => .int (d.1 k j)
  | 1 => .long (d.2 k j)
  | _ => va_rf ((σ.2.2 k j).map ad)
def aw_a (ad : Nat → Nat) (σ : Sg) (d : Dt) (t k n : Nat) : vp_A := match t with
  | 20 => (n, .inl (d.1 k))
  | 21 => (n, .inr (.inl (d.2 k)))
  | 22 => (n, .inl (d.1 k))
  | _ => (n, .inr (.inr (.inr (.inr (fun j => (σ.2.2 k j).map ad)))))
def aw_fs (ad : Nat → Nat) (σ : Sg) (d : Dt) (c k n : Nat) : List Value := (List.range n).map (fun j => aw_v ad σ d (aw_sT c j) k j)
def aw_e (cA : Nat → ClassId) (ad : Nat → Nat) (σ : Sg) (d : Dt) (k : Nat) : va_E := if (σ.2.1 k).1 < 20 then .inr ((σ.2.1 k).1, aw_fs ad σ d (σ.2.1 k).1 k (σ.2.1 k).2) else .inl (cA (σ.2.1 k).1, aw_a ad σ d (σ.2.1 k).1 k (σ.2.1 k).2)
def aw_ws (cA : Nat → ClassId) (ad : Nat → Nat) (σ : Sg) (d : Dt) : va_W := (List.range σ.1).map (fun k => (ad k, aw_e cA ad σ d k))
/-- cell k is an object of class c with n slots -/
abbrev aw_O (σ : Sg) (c n k : Nat) : Prop := k < σ.1 ∧ σ.2.1 k = (c, n)
/-- cell k is an array of kind t, and i is a place of it -/
abbrev aw_I (σ : Sg) (t k : Nat) (i : Int32) : Prop := k < σ.1 ∧ (σ.2.1 k).1 = t ∧ ¬ (i < 0 ∨ (σ.2.1 k).2 ≤ i.toNatClampNeg)
/-- cell k is an array of kind t -/
abbrev aw_Y (σ : Sg) (t k : Nat) : Prop := k < σ.1 ∧ (σ.2.1 k).1 = t
def aw_chk {α : Type} (b : Prop) [Decidable b] (x : Option α) : Option α := if b then x else none
theorem aw_chk_some {α : Type} {b : Prop} [Decidable b] {x : Option α} {r : α} (h : aw_chk b x = some r) : b ∧ x = some r := by
  unfold aw_chk at h
  by_cases hb : b
  · rw [if_pos hb] at h; exact ⟨hb, h⟩
  · rw [if_neg hb] at h; cases h
theorem aw_chk_t {α : Type} {b : Prop} [Decidable b] {x : Option α} (h : b) : aw_chk b x = x := if_pos h
theorem aw_ite_some {α : Type} {b : Prop} [Decidable b] {x y : Option α} {r : α} (h : (if b then x else y) = some r) : (b ∧ x = some r) ∨ (¬ b ∧ y = some r) := by
  by_cases hb : b
  · rw [if_pos hb] at h; exact Or.inl ⟨hb, h⟩
  · rw [if_neg hb] at h; exact Or.inr ⟨hb, h⟩
theorem aw_bind_some {α β : Type} {x : Option α} {f : α → Option β} {r : β} (h : x.bind f = some r) : ∃ z, x = some z ∧ f z = some r := by
  cases x with
  | none => cases h
  | some z => exact ⟨z, rfl, h⟩
/-- one int written -/
def aw_sI (d : Dt) (k j : Nat) (v : Int32) : Dt := (fun a b => if a = k ∧ b = j then v else d.1 a b, d.2)
/-- one long written -/
def aw_sL (d : Dt) (k j : Nat) (v : Int64) : Dt := (d.1, fun a b => if a = k ∧ b = j then v else d.2 a b)
/-- one reference written -/
def aw_sR (σ : Sg) (k j v : Nat) : Sg := (σ.1, σ.2.1, fun a b => if a = k ∧ b = j then some v else σ.2.2 a b)
/-- one cell made: of kind t, n long -/
def aw_nw (σ : Sg) (t n : Nat) : Sg := (σ.1 + 1, fun k => if k = σ.1 then (t, n) else σ.2.1 k, fun k j => if k = σ.1 then none else σ.2.2 k j)
/-- .. with 0 in it -/
def aw_nd (σ : Sg) (d : Dt) : Dt := (fun k j => if k = σ.1 then 0 else d.1 k j, fun k j => if k = σ.1 then 0 else d.2 k j)
theorem aw_len {cA ad σ d} : (aw_ws cA ad σ d).length = σ.1 := by simp [aw_ws]
theorem aw_get {cA : Nat → ClassId} {ad : Nat → Nat} {σ : Sg} {d : Dt} {k : Nat} (hk : k < σ.1) : (aw_ws cA ad σ d)[k]? = some (ad k, aw_e cA ad σ d k) := by
  simp [aw_ws, hk]
theorem aw_set {cA : Nat → ClassId} {ad : Nat → Nat} {σ σ' : Sg} {d d' : Dt} {k : Nat} {v : va_E} (hz : σ'.1 = σ.1) (h1 : aw_e cA ad σ' d' k = v) (h2 : ∀ j, j ≠ k → aw_e cA ad σ' d' j = aw_e cA ad σ d j) : (aw_ws cA ad σ d).set k (ad k, v) = aw_ws cA ad σ' d' := by
  apply List.ext_getElem?
  intro j
  rw [List.getElem?_set]
  unfold aw_ws
  simp only [List.length_map, List.length_range, List.getElem?_map, hz]
  by_cases e : k = j
  · subst e
    by_cases hl : k < σ.1
    · simp [hl, h1]
    · simp [hl]
  · have e' : j ≠ k := fun q => e q.symm
    simp only [e, if_false]
    by_cases hl : j < σ.1
    · simp [hl, h2 j e']
    · simp [hl]
theorem aw_e_O {cA : Nat → ClassId} {ad : Nat → Nat} {σ : Sg} {d : Dt} {c n k : Nat} (hc : c < 20) (h : aw_O σ c n k) : aw_e cA ad σ d k = .inr (c, aw_fs ad σ d c k n) := by
  unfold aw_e; rw [h.2]; simp [hc]
theorem aw_e_Y {cA : Nat → ClassId} {ad : Nat → Nat} {σ : Sg} {d : Dt} {t k : Nat} (ht : 20 ≤ t) (h : (σ.2.1 k).1 = t) : aw_e cA ad σ d k = .inl (cA t, aw_a ad σ d t k (σ.2.1 k).2) := by
  unfold aw_e; rw [h]; simp [Nat.not_lt.mpr ht]
theorem aw_fs_at {ad : Nat → Nat} {σ : Sg} {d : Dt} {c k n j : Nat} (hj : j < n) : (aw_fs ad σ d c k n)[j]? = some (aw_v ad σ d (aw_sT c j) k j) := by
  simp [aw_fs, hj]
theorem aw_fs_set {ad : Nat → Nat} {σ σ' : Sg} {d d' : Dt} {c k n j : Nat} {v : Value} (h1 : aw_v ad σ' d' (aw_sT c j) k j = v) (h2 : ∀ i, i ≠ j → aw_v ad σ' d' (aw_sT c i) k i = aw_v ad σ d (aw_sT c i) k i) : (aw_fs ad σ d c k n).set j v = aw_fs ad σ' d' c k n := by
  apply List.ext_getElem?
  intro i
  rw [List.getElem?_set]
  unfold aw_fs
  simp only [List.length_map, List.length_range, List.getElem?_map]
  by_cases e : j = i
  · subst e
    by_cases hl : j < n
    · simp [hl, h1]
    · simp [hl]
  · have e' : i ≠ j := fun q => e q.symm
    simp only [e, if_false]
    by_cases hl : i < n
    · simp [hl, h2 i e']
    · simp [hl]
theorem aw_fs_len {ad : Nat → Nat} {σ : Sg} {d : Dt} {c k n : Nat} : (aw_fs ad σ d c k n).length = n := by simp [aw_fs]
theorem aw_e_sI {cA : Nat → ClassId} {ad : Nat → Nat} {σ : Sg} {d : Dt} {k j : Nat} {x : Int32} (i : Nat) (hi : i ≠ k) : aw_e cA ad σ (aw_sI d k j x) i = aw_e cA ad σ d i := by
  have e1 : (aw_sI d k j x).1 i = d.1 i := by funext q; simp [aw_sI, hi]
  have e2 : (aw_sI d k j x).2 i = d.2 i := rfl
  unfold aw_e aw_fs aw_a aw_v
  simp only [e1, e2]
theorem aw_e_sL {cA : Nat → ClassId} {ad : Nat → Nat} {σ : Sg} {d : Dt} {k j : Nat} {x : Int64} (i : Nat) (hi : i ≠ k) : aw_e cA ad σ (aw_sL d k j x) i = aw_e cA ad σ d i := by
  have e1 : (aw_sL d k j x).2 i = d.2 i := by funext q; simp [aw_sL, hi]
  have e2 : (aw_sL d k j x).1 i = d.1 i := rfl
  unfold aw_e aw_fs aw_a aw_v
  simp only [e1, e2]
theorem aw_e_sR {cA : Nat → ClassId} {ad : Nat → Nat} {σ : Sg} {d : Dt} {k j x : Nat} (i : Nat) (hi : i ≠ k) : aw_e cA ad (aw_sR σ k j x) d i = aw_e cA ad σ d i := by
  have e1 : (aw_sR σ k j x).2.2 i = σ.2.2 i := by funext q; simp [aw_sR, hi]
  have e2 : (aw_sR σ k j x).2.1 = σ.2.1 := rfl
  unfold aw_e aw_fs aw_a aw_v
  simp only [e1, e2]
/-! the words of the tables, the statics and the texts, as a state has them -/
def aw_ok (w : Cond) : Bool := match w with
  | .arrayClass _ => true
  | .declares _ => true
  | w => w.onTables && w.keepsH
def aw_tbl : List Cond := lw_tbl.filter aw_ok
theorem aw_mem {w : Cond} (i : Nat) (h : tables_1[i]? = some w) (h2 : aw_ok w = true) : w ∈ aw_tbl := List.mem_filter.mpr ⟨List.mem_append_right _ (List.mem_of_getElem? h), h2⟩
theorem aw_sel {q : MethodName × Nat} (i : Nat) (h : lw_privs[i]? = some q) : Cond.selects q.1.cls q.1 q.1 ∈ aw_tbl := List.mem_filter.mpr ⟨List.mem_append_left _ (List.mem_map.mpr ⟨q, List.mem_of_getElem? h, rfl⟩), by first | rfl | decide⟩
theorem aw_word {args a' : Array Value} {s U : State} (hW : s.WarmedH U.vm) {w : Cond} (hg : aw_ok w = true) (h : w.before args s = true) : w.before a' U = true := by
  by_cases e : ∃ ty, w = .arrayClass ty
  · obtain ⟨ty, rfl⟩ := e
    exact word_at hW (Or.inr ⟨ty, rfl⟩) h
  · by_cases e2 : ∃ x, w = .declares x
    · obtain ⟨x, rfl⟩ := e2
      exact va_Nw.use rfl (va_Nw.warmD hW (va_Nw.of rfl h))
    · have h2 : (w.onTables && w.keepsH) = true := by
        cases w <;> first | exact hg | exact absurd ⟨_, rfl⟩ e | exact absurd ⟨_, rfl⟩ e2
      simp only [Bool.and_eq_true] at h2
      have h3 := Cond.onTables_warmH (args' := a') (T := U) hW h2.1 h2.2 h
      rwa [State.setVm_self] at h3
def aw_strs : List (String × Nat × String) := [("Letterforge", 91, "code is out of range"), ("Letterforge", 101, "the draft has 4 syllables"), ("Letterforge", 108, "weight is out of range"), ("Letterforge", 110, "the draft is empty"), ("Letterforge", 115, "there are 20 words"), ("Letterforge", 362, "no such dialect"), ("Letterforge", 134, "no such part"), ("Letterforge", 140, "no value of the part"), ("Letterforge", 145, "the dialect has 6 changes"), ("Letterforge", 167, "no such kind"), ("Letterforge", 169, "no such base"), ("Letterforge", 171, "there are 5 designs"), ("Letterforge", 368, "no such design"), ("Letterforge", 183, "no such unit"), ("Letterforge", 185, "sign is out of range"), ("Letterforge", 191, "another unit has the sign"), ("Letterforge", 372, "no such sign"), ("Letterforge", 236, "no shape"), ("Letterforge", 300, "no such key"), ("Letterforge", 374, "no such group"), ("Letterforge", 320, "people are not from 0 to 999"), ("Letterforge", 322, "worths are not from 0 to 999"), ("Letterforge", 364, "no such word"), ("Letterforge", 366, "place is below 0"), ("Letterforge", 295, "more than 10 signs are in use"), ("Letterforge", 256, "far is out of range"), ("Letterforge", 345, "there is no design"), ("Letterforge", 370, "no such tone")]
def aw_exs : List String := ["java/lang/IndexOutOfBoundsException", "java/lang/IllegalArgumentException", "java/lang/IllegalStateException"]
def aw_T (base : Nat) (U : State) : Prop := (∀ w ∈ aw_tbl, w.before #[] U = true) ∧ vx_Zq Bundle.tN "UNASSIGNED_STACK" Bundle.steD (fun q => base ≤ q) U U.heap ∧ vx_Zq Bundle.tN "SUPPRESSED_SENTINEL" Bundle.listD (fun q => base ≤ q) U U.heap ∧ (∀ q ∈ aw_strs, ∃ a : Nat, vk_R q.1 q.2.1 q.2.2 a U) ∧ (va_AO "Letterforge$Dialect" U ∧ va_AO "Letterforge$Design" U ∧ va_AOA .int U ∧ va_AOA .long U) ∧ base ≤ U.heap.size ∧ (∀ q ∈ aw_exs, va_Nw (.castable q q) U) ∧ (∀ q ∈ aw_exs, ∀ r ∈ aw_exs, q ≠ r → va_Nc q r U)
theorem aw_T.of {base : Nat} {s U : State} {H : Heap} {locs : List Loc} (h : aw_T base s) (hS : va_S (fun q => base ≤ q) s.heap H locs) (hH : U.heap = H) (hW : s.WarmedH U.vm) : aw_T base U := by
  obtain ⟨h1, h2, h3, h4, ⟨h5, h6, h7, h8⟩, h9, h10, h11⟩ := h
  refine ⟨fun w hw => aw_word hW (List.mem_filter.mp hw).2 (h1 w hw), ?_, ?_, fun q hq => ?_, ⟨h5.moved hW.alike, h6.moved hW.alike, h7.moved hW.alike, h8.moved hW.alike⟩, by rw [hH]; exact Nat.le_trans h9 hS.1, fun q hq => (h10 q hq).warmC hW, fun q hq r hr hqr => (h11 q hq r hr hqr).moved hW.alike⟩
  · rw [hH]; exact (h2.kept hS.2.1).moved hW.alike
  · rw [hH]; exact (h3.kept hS.2.1).moved hW.alike
  · obtain ⟨a, ha⟩ := h4 q hq
    exact ⟨a, vk_R.warm hW ha⟩
theorem aw_T.hts {base : Nat} {s : State} (h : aw_T base s) {args : Array Value} : ∀ w ∈ aw_tbl, w.before args s = true := fun w hw => aw_word (State.WarmedH.refl s) (List.mem_filter.mp hw).2 (h.1 w hw)
def aw_tys (cA : Nat → ClassId) : List (ClassId × FieldType) := [(cA 20, .int), (cA 21, .long), (cA 22, .boolean), (cA 23, .array .int), (cA 24, .array .long), (cA 25, .object "Letterforge$Dialect"), (cA 26, .object "Letterforge$Design")]
/-- what a method finds at its start -/
def aw_W (D : va_G) (cA : Nat → ClassId) (base : Nat) (ad : Nat → Nat) (σ : Sg) (d : Dt) (U : State) : Prop := aw_T base U ∧ va_K D vwCl (aw_tys cA) U ∧ va_P D vwCl (aw_ws cA ad σ d) U.heap ∧ va_D (fun q => base ≤ q) (aw_ws cA ad σ d)
/-- what it leaves -/
def aw_B (D : va_G) (cA : Nat → ClassId) (base : Nat) (ad : Nat → Nat) (σ : Sg) (d : Dt) (t : State) : Prop := va_P D vwCl (aw_ws cA ad σ d) t.heap ∧ va_D (fun q => base ≤ q) (aw_ws cA ad σ d)
/-- on the way -/
def aw_G (D : va_G) (cA : Nat → ClassId) (base : Nat) (ad : Nat → Nat) (σ : Sg) (d : Dt) (s : State) (H : Heap) (locs : List Loc) : Prop := aw_T base s ∧ va_K D vwCl (aw_tys cA) s ∧ va_P D vwCl (aw_ws cA ad σ d) H ∧ va_D (fun q => base ≤ q) (aw_ws cA ad σ d) ∧ va_S (fun q => base ≤ q) s.heap H locs
theorem aw_W.go {D cA base ad σ d} {s : State} (h : aw_W D cA base ad σ d s) : aw_G D cA base ad σ d s s.heap [] := ⟨h.1, h.2.1, h.2.2.1, h.2.2.2, va_S.rf⟩
theorem aw_G.pre {D cA base ad σ d} {s U : State} {H : Heap} {locs : List Loc} (h : aw_G D cA base ad σ d s H locs) (hH : U.heap = H) (hW : s.WarmedH U.vm) : aw_W D cA base ad σ d U :=
  ⟨h.1.of h.2.2.2.2 hH hW, h.2.1.moved hW.alike, by rw [hH]; exact h.2.2.1, h.2.2.2.1⟩
theorem aw_G.post {D cA base ad σ d} {s t : State} {H : Heap} {locs : List Loc} (h : aw_G D cA base ad σ d s H locs) (hH : t.heap = H) : aw_B D cA base ad σ d t := ⟨by rw [hH]; exact h.2.2.1, h.2.2.2.1⟩
theorem aw_blind {D cA base ad σ d} {av : List Value} : FrameBlind (va_Pc av (aw_W D cA base ad σ d)) := fun a U g mk q => by
  obtain ⟨h0, ⟨h1, h2, h3, h4, ⟨h5, h6, h7, h8⟩, h9, h10, h11⟩, hK, hP, hD⟩ := q
  have hW : U.WarmedH (U.calling g mk a).vm := State.WarmedH.refl U
  exact ⟨h0, ⟨fun w hw => aw_word hW (List.mem_filter.mp hw).2 (h1 w hw), h2.moved hW.alike, h3.moved hW.alike, fun q hq => (h4 q hq).elim fun a ha => ⟨a, vk_R.warm hW ha⟩, ⟨h5.moved hW.alike, h6.moved hW.alike, h7.moved hW.alike, h8.moved hW.alike⟩, h9, fun q hq => (h10 q hq).warmC hW, fun q hq r hr hqr => (h11 q hq r hr hqr).moved hW.alike⟩, hK.moved hW.alike, hP, hD⟩
/-! contracts -/
def aw_Mi (l : Launch) (y : MethodName) (w : Cond) (rm : Room) (as : (Nat → Nat) → List Value) (σ : Sg) (d : Dt) (z : Int32 × Dt) : Prop := ∀ D cA base ad, Met l y [w] rm (va_Pc (as ad) (aw_W D cA base ad σ d)) (va_Qi (fun r (_ : Unit) => r = z.1) (fun _ => aw_B D cA base ad σ z.2) (fun q => base ≤ q)) rm.cells rm.slots (fun q => base ≤ q)
def aw_Ml (l : Launch) (y : MethodName) (w : Cond) (rm : Room) (as : (Nat → Nat) → List Value) (σ : Sg) (d : Dt) (z : Int64 × Dt) : Prop := ∀ D cA base ad, Met l y [w] rm (va_Pc (as ad) (aw_W D cA base ad σ d)) (va_Ql (fun r (_ : Unit) => r = z.1) (fun _ => aw_B D cA base ad σ z.2) (fun q => base ≤ q)) rm.cells rm.slots (fun q => base ≤ q)
def aw_Mv (l : Launch) (y : MethodName) (w : Cond) (rm : Room) (as : (Nat → Nat) → List Value) (σ : Sg) (d : Dt) (z : Unit × Dt) : Prop := ∀ D cA base ad, Met l y [w] rm (va_Pc (as ad) (aw_W D cA base ad σ d)) (va_Qv (fun (_ : Unit) => True) (fun _ => aw_B D cA base ad σ z.2) (fun q => base ≤ q)) rm.cells rm.slots (fun q => base ≤ q)
def aw_Mr (l : Launch) (y : MethodName) (w : Cond) (rm : Room) (as : (Nat → Nat) → List Value) (σ : Sg) (d : Dt) (z : Nat × Dt) : Prop := ∀ D cA base ad, Met l y [w] rm (va_Pc (as ad) (aw_W D cA base ad σ d)) (va_Qr (fun (_ : Unit) => True) (fun _ a t => a = ad z.1 ∧ aw_B D cA base ad σ z.2 t) (fun q => base ≤ q)) rm.cells rm.slots (fun q => base ≤ q)
/-- how a method is linked from a class: plainly, or as a nest mate -/
def aw_LV (own : String) (idx : Nat) (C : String) (y : MethodName) (n : Nat) (w : Cond) : Prop := (Cond.methodLink own idx y ∈ aw_tbl ∧ Cond.instanceMethod y ∈ aw_tbl ∧ Cond.selects C y y ∈ aw_tbl ∧ Cond.initialized C ∈ aw_tbl ∧ w ∈ aw_tbl) ∧ (y.cls = C ∧ y.cls ≠ "java/lang/invoke/MethodHandle" ∧ y.cls ≠ "java/lang/invoke/VarHandle" ∧ (parseMethodDescriptor y.desc).map (fun d => d.parameters.length) = some n)
def aw_LS (own : String) (idx : Nat) (y : MethodName) (n : Nat) (w : Cond) : Prop := (Cond.methodLink own idx y ∈ aw_tbl ∧ Cond.static y ∈ aw_tbl ∧ Cond.initialized y.cls ∈ aw_tbl ∧ w ∈ aw_tbl) ∧ (y.cls ≠ "java/lang/invoke/MethodHandle" ∧ y.cls ≠ "java/lang/invoke/VarHandle" ∧ (parseMethodDescriptor y.desc).map (fun d => d.parameters.length) = some n)
def aw_LSN (own : String) (idx : Nat) (y : MethodName) (host : String) (n : Nat) (w : Cond) : Prop := (Cond.methodLinkNest own idx y host ∈ aw_tbl ∧ Cond.static y ∈ aw_tbl ∧ Cond.initialized y.cls ∈ aw_tbl ∧ w ∈ aw_tbl) ∧ (y.cls ≠ "java/lang/invoke/MethodHandle" ∧ y.cls ≠ "java/lang/invoke/VarHandle" ∧ (parseMethodDescriptor y.desc).map (fun d => d.parameters.length) = some n)
/-! the rows over the abstract heap -/
section AWR
variable {p : Program} {l : Launch} {e : Env} {R : Room} {s : State} {m : MethodId} {args : Array Value} {below : List Frame} {meth : Method} {c : Code} {H : Heap} {locs : List Loc} {cells slots : Nat} {Q : State → Prop}
variable {cc : ByteArray} {pc : Nat} {ls : Array Slot} {rest : List Value} {D : va_G} {cA : Nat → ClassId} {base : Nat} {ad : Nat → Nat} {σ : Sg} {d : Dt}
theorem aw_gF (hexec : p.tables.exec = Jvm.exec) (hb : c.code = cc) (G : aw_G D cA base ad σ d s H locs) {own ref C : String} {T : u_T} {N ci index : Nat} (hown : s.vm.findClass own = some m.cls) (hc : vwCl[ci]? = some (C, T, N)) (hi : ci < 20) (hin : ∀ w ∈ u_ws C T N, w ∈ aw_tbl) (j : Nat) (hj : j < N) (hlink : Cond.fieldLink own index ref (T j).2.1 (T j).2.2.1 ∈ aw_tbl) (hsame : (T j).1 = ref) {k : Nat} (hk : aw_O σ ci N k) (hdg : decode cc pc = .ok (.getfield index, 3))
    (kk : W p l e R s m args below meth c H locs cells slots Q (F0 m (pc + 3) ls (aw_v ad σ d (aw_sT ci j) k j :: rest))) : W p l e R s m args below meth c H locs cells slots Q (F0 m pc ls (.ref (ad k) :: rest)) :=
  va_get hexec hb (Ts := aw_tbl) G.1.hts hin hown G.2.1 G.2.2.1 k ((aw_get hk.1).trans (by rw [aw_e_O hi hk])) hc j hj (G.1.hts _ hlink) (fun x h => by rw [← hsame]; exact h) (aw_fs_at hj) hdg kk
theorem aw_gFN (hexec : p.tables.exec = Jvm.exec) (hb : c.code = cc) (G : aw_G D cA base ad σ d s H locs) {own ref C host : String} {T : u_T} {N ci index : Nat} (hown : s.vm.findClass own = some m.cls) (hc : vwCl[ci]? = some (C, T, N)) (hi : ci < 20) (hin : ∀ w ∈ u_ws C T N, w ∈ aw_tbl) (j : Nat) (hj : j < N) (hlink : Cond.fieldLinkNest own index ref (T j).2.1 (T j).2.2.1 host ∈ aw_tbl) (hsame : (T j).1 = ref) {k : Nat} (hk : aw_O σ ci N k) (hdg : decode cc pc = .ok (.getfield index, 3))
    (kk : W p l e R s m args below meth c H locs cells slots Q (F0 m (pc + 3) ls (aw_v ad σ d (aw_sT ci j) k j :: rest))) : W p l e R s m args below meth c H locs cells slots Q (F0 m pc ls (.ref (ad k) :: rest)) :=
  va_getN hexec hb (Ts := aw_tbl) G.1.hts hin hown G.2.1 G.2.2.1 k ((aw_get hk.1).trans (by rw [aw_e_O hi hk])) hc j hj (G.1.hts _ hlink) (fun x h => by rw [← hsame]; exact h) (aw_fs_at hj) hdg kk
theorem aw_putS {σ' : Sg} {d' : Dt} {N ci k j : Nat} {v : Value} {H1 : Heap} {locs1 : List Loc} (G : aw_G D cA base ad σ d s H locs) (hi : ci < 20) (hk : aw_O σ ci N k) (hz : σ'.1 = σ.1) (ht : σ'.2.1 = σ.2.1) (h1 : aw_v ad σ' d' (aw_sT ci j) k j = v) (h2 : ∀ i, i ≠ j → aw_v ad σ' d' (aw_sT ci i) k i = aw_v ad σ d (aw_sT ci i) k i) (h3 : ∀ i, i ≠ k → aw_e cA ad σ' d' i = aw_e cA ad σ d i)
    (hP : va_P D vwCl ((aw_ws cA ad σ d).set k (ad k, .inr (ci, (aw_fs ad σ d ci k N).set j v))) H1) (hD : va_D (fun q => base ≤ q) ((aw_ws cA ad σ d).set k (ad k, .inr (ci, (aw_fs ad σ d ci k N).set j v)))) (hS : va_S (fun q => base ≤ q) s.heap H1 locs1) : aw_G D cA base ad σ' d' s H1 locs1 := by
  have e1 : (aw_ws cA ad σ d).set k (ad k, .inr (ci, (aw_fs ad σ d ci k N).set j v)) = aw_ws cA ad σ' d' := by
    refine aw_set hz ?_ h3
    rw [aw_e_O hi (show aw_O σ' ci N k from ⟨by rw [hz]; exact hk.1, by rw [ht]; exact hk.2⟩), ← aw_fs_set h1 h2]
  rw [e1] at hP hD
  exact ⟨G.1, G.2.1, hP, hD, hS⟩
theorem aw_pF (hexec : p.tables.exec = Jvm.exec) (hb : c.code = cc) (G : aw_G D cA base ad σ d s H locs) {own ref C : String} {T : u_T} {N ci index : Nat} (ty0 : Nat → FieldType) (hty : ∀ k, k < N → parseFieldDescriptor (T k).2.2.1 = some (ty0 k)) (hnm : ∀ a, a < N → ∀ b, b < N → a ≠ b → (T a).2.1 ≠ (T b).2.1) (hown : s.vm.findClass own = some m.cls) (hc : vwCl[ci]? = some (C, T, N)) (hi : ci < 20) (hin : ∀ w ∈ u_ws C T N, w ∈ aw_tbl) (j : Nat) (hj : j < N) (hlink : Cond.fieldLink own index ref (T j).2.1 (T j).2.2.1 ∈ aw_tbl) (hsame : (T j).1 = ref) (hfin : (T j).2.2.2 = false) {ty : FieldType} {v : Value} (hd : parseFieldDescriptor (T j).2.2.1 = some ty) (hn : narrow ty v = v) (hfit : fits ty v = true) {k : Nat} (hk : aw_O σ ci N k)
    {σ' : Sg} {d' : Dt} (hz : σ'.1 = σ.1) (ht : σ'.2.1 = σ.2.1) (h1 : aw_v ad σ' d' (aw_sT ci j) k j = v) (h2 : ∀ i, i ≠ j → aw_v ad σ' d' (aw_sT ci i) k i = aw_v ad σ d (aw_sT ci i) k i) (h3 : ∀ i, i ≠ k → aw_e cA ad σ' d' i = aw_e cA ad σ d i) (hdg : decode cc pc = .ok (.putfield index, 3))
    (kk : ∀ H locs, aw_G D cA base ad σ' d' s H locs → W p l e R s m args below meth c H locs cells slots Q (F0 m (pc + 3) ls rest)) : W p l e R s m args below meth c H locs cells slots Q (F0 m pc ls (v :: .ref (ad k) :: rest)) :=
  va_put hexec hb (Ts := aw_tbl) G.1.hts hin ty0 hty hnm hown G.2.1 G.2.2.1 G.2.2.2.1 G.2.2.2.2 k ((aw_get hk.1).trans (by rw [aw_e_O hi hk])) hc j hj (G.1.hts _ hlink) (fun x h => by rw [← hsame]; exact h) hfin hd hn hfit (by rw [aw_fs_len]; exact hj) hdg (fun H1 locs1 hP hD hS => kk H1 locs1 (aw_putS G hi hk hz ht h1 h2 h3 hP hD hS))
theorem aw_pFF (hexec : p.tables.exec = Jvm.exec) (hb : c.code = cc) (G : aw_G D cA base ad σ d s H locs) {own ref C : String} {T : u_T} {N ci index : Nat} (ty0 : Nat → FieldType) (hty : ∀ k, k < N → parseFieldDescriptor (T k).2.2.1 = some (ty0 k)) (hnm : ∀ a, a < N → ∀ b, b < N → a ≠ b → (T a).2.1 ≠ (T b).2.1) (hown : s.vm.findClass own = some m.cls) (hc : vwCl[ci]? = some (C, T, N)) (hi : ci < 20) (hin : ∀ w ∈ u_ws C T N, w ∈ aw_tbl) (j : Nat) (hj : j < N) (hlink : Cond.fieldLink own index ref (T j).2.1 (T j).2.2.1 ∈ aw_tbl) (hsame : (T j).1 = ref) (hfin : (T j).2.2.2 = true) (hin2 : meth.name = "<init>") (hdecl : (T j).1 = own) {ty : FieldType} {v : Value} (hd : parseFieldDescriptor (T j).2.2.1 = some ty) (hn : narrow ty v = v) (hfit : fits ty v = true) {k : Nat} (hk : aw_O σ ci N k)
    {σ' : Sg} {d' : Dt} (hz : σ'.1 = σ.1) (ht : σ'.2.1 = σ.2.1) (h1 : aw_v ad σ' d' (aw_sT ci j) k j = v) (h2 : ∀ i, i ≠ j → aw_v ad σ' d' (aw_sT ci i) k i = aw_v ad σ d (aw_sT ci i) k i) (h3 : ∀ i, i ≠ k → aw_e cA ad σ' d' i = aw_e cA ad σ d i) (hdg : decode cc pc = .ok (.putfield index, 3))
    (kk : ∀ H locs, aw_G D cA base ad σ' d' s H locs → W p l e R s m args below meth c H locs cells slots Q (F0 m (pc + 3) ls rest)) : W p l e R s m args below meth c H locs cells slots Q (F0 m pc ls (v :: .ref (ad k) :: rest)) :=
  va_putF hexec hb (Ts := aw_tbl) G.1.hts hin ty0 hty hnm hown G.2.1 G.2.2.1 G.2.2.2.1 G.2.2.2.2 k ((aw_get hk.1).trans (by rw [aw_e_O hi hk])) hc j hj (G.1.hts _ hlink) (fun x h => by rw [← hsame]; exact h) hfin hin2 hdecl hd hn hfit (by rw [aw_fs_len]; exact hj) hdg (fun H1 locs1 hP hD hS => kk H1 locs1 (aw_putS G hi hk hz ht h1 h2 h3 hP hD hS))
theorem aw_v_sI {ci k j : Nat} {x : Int32} (h : aw_sT ci j = 0) : aw_v ad σ (aw_sI d k j x) (aw_sT ci j) k j = .int x := by rw [h]; simp [aw_v, aw_sI]
theorem aw_v_sI' {ci k j : Nat} {x : Int32} (i : Nat) (hi : i ≠ j) : aw_v ad σ (aw_sI d k j x) (aw_sT ci i) k i = aw_v ad σ d (aw_sT ci i) k i := by
  unfold aw_v
  split <;> simp [aw_sI, hi]
theorem aw_v_sL {ci k j : Nat} {x : Int64} (h : aw_sT ci j = 1) : aw_v ad σ (aw_sL d k j x) (aw_sT ci j) k j = .long x := by rw [h]; simp [aw_v, aw_sL]
theorem aw_v_sL' {ci k j : Nat} {x : Int64} (i : Nat) (hi : i ≠ j) : aw_v ad σ (aw_sL d k j x) (aw_sT ci i) k i = aw_v ad σ d (aw_sT ci i) k i := by
  unfold aw_v
  split <;> simp [aw_sL, hi]
theorem aw_v_sR {ci k j x : Nat} (h : aw_sT ci j = 2) : aw_v ad (aw_sR σ k j x) d (aw_sT ci j) k j = .ref (ad x) := by rw [h]; simp [aw_v, aw_sR, va_rf]
theorem aw_v_sR' {ci k j x : Nat} (i : Nat) (hi : i ≠ j) : aw_v ad (aw_sR σ k j x) d (aw_sT ci i) k i = aw_v ad σ d (aw_sT ci i) k i := by
  unfold aw_v
  split <;> simp [aw_sR, hi]
/-! arrays -/
theorem aw_ial (hexec : p.tables.exec = Jvm.exec) (hb : c.code = cc) (G : aw_G D cA base ad σ d s H locs) {k : Nat} {i : Int32} (hk : aw_I σ 20 k i) (hdg : decode cc pc = .ok (.iaload, 1))
    (kk : W p l e R s m args below meth c H locs cells slots Q (F0 m (pc + 1) ls (.int (d.1 k i.toNatClampNeg) :: rest))) : W p l e R s m args below meth c H locs cells slots Q (F0 m pc ls (.int i :: .ref (ad k) :: rest)) :=
  va_iald hexec hb G.2.1 G.2.2.1 k 0 (cA := cA 20) (n := (σ.2.1 k).2) (f := d.1 k) ((aw_get hk.1).trans (by rw [aw_e_Y (Nat.le_refl 20) hk.2.1]; rfl)) rfl hk.2.2 hdg kk
theorem aw_lal (hexec : p.tables.exec = Jvm.exec) (hb : c.code = cc) (G : aw_G D cA base ad σ d s H locs) {k : Nat} {i : Int32} (hk : aw_I σ 21 k i) (hdg : decode cc pc = .ok (.laload, 1))
    (kk : W p l e R s m args below meth c H locs cells slots Q (F0 m (pc + 1) ls (.long (d.2 k i.toNatClampNeg) :: rest))) : W p l e R s m args below meth c H locs cells slots Q (F0 m pc ls (.int i :: .ref (ad k) :: rest)) :=
  va_lald hexec hb G.2.1 G.2.2.1 k 1 (cA := cA 21) (n := (σ.2.1 k).2) (f := d.2 k) ((aw_get hk.1).trans (by rw [aw_e_Y (by decide) hk.2.1]; rfl)) rfl hk.2.2 hdg kk
theorem aw_zal (hexec : p.tables.exec = Jvm.exec) (hb : c.code = cc) (G : aw_G D cA base ad σ d s H locs) {k : Nat} {i : Int32} (hk : aw_I σ 22 k i) (hdg : decode cc pc = .ok (.baload, 1))
    (kk : W p l e R s m args below meth c H locs cells slots Q (F0 m (pc + 1) ls (.int (d.1 k i.toNatClampNeg) :: rest))) : W p l e R s m args below meth c H locs cells slots Q (F0 m pc ls (.int i :: .ref (ad k) :: rest)) :=
  va_zald hexec hb G.2.1 G.2.2.1 k 2 (cA := cA 22) (n := (σ.2.1 k).2) (f := d.1 k) ((aw_get hk.1).trans (by rw [aw_e_Y (by decide) hk.2.1]; rfl)) rfl hk.2.2 hdg kk
theorem aw_qal (hexec : p.tables.exec = Jvm.exec) (hb : c.code = cc) (G : aw_G D cA base ad σ d s H locs) (t : Nat) (ty : FieldType) (ht : (aw_tys cA)[t - 20]? = some (cA t, ty)) (hr : ty.isReference = true) (h23 : 23 ≤ t) {k q : Nat} {i : Int32} (hk : aw_I σ t k i) (hq : σ.2.2 k i.toNatClampNeg = some q) (hdg : decode cc pc = .ok (.aaload, 1))
    (kk : W p l e R s m args below meth c H locs cells slots Q (F0 m (pc + 1) ls (.ref (ad q) :: rest))) : W p l e R s m args below meth c H locs cells slots Q (F0 m pc ls (.int i :: .ref (ad k) :: rest)) := by
  have hlt : i.toNatClampNeg < (σ.2.1 k).2 := Nat.not_le.mp fun q => hk.2.2 (Or.inr q)
  have he : aw_a ad σ d t k (σ.2.1 k).2 = ((σ.2.1 k).2, .inr (.inr (.inr (.inr (fun j => (σ.2.2 k j).map ad))))) := by
    unfold aw_a
    split <;> first | omega | rfl
  have hcell : H[ad k]? = some (arrV (cA t) (σ.2.1 k).2 (fun j => va_rf ((σ.2.2 k j).map ad))) := by
    have h9 := G.2.2.1 k _ ((aw_get hk.1).trans (by rw [aw_e_Y (Nat.le_trans (by decide) h23) hk.2.1, he]))
    exact h9
  exact W.aald (v := .ref (ad q)) (ty := ty) hexec hb hcell ((G.2.1.2 _ _ ht).1 _ _) hr (fun q => by cases q) (by show ¬ (i < 0 ∨ (arrV _ _ _).slots.size ≤ _); rw [arrV_size]; exact hk.2.2) (by show (arrV _ _ _).slots[_]? = _; rw [arrV_read _ _ hlt, hq]; rfl) rfl rfl hdg kk
theorem aw_arrS {σ' : Sg} {d' : Dt} {t k : Nat} {v : vp_A} {H1 : Heap} {locs1 : List Loc} (G : aw_G D cA base ad σ d s H locs) (ht : 20 ≤ t) (hk : (σ.2.1 k).1 = t) (hz : σ'.1 = σ.1) (hy : σ'.2.1 = σ.2.1) (h1 : aw_a ad σ' d' t k (σ.2.1 k).2 = v) (h3 : ∀ i, i ≠ k → aw_e cA ad σ' d' i = aw_e cA ad σ d i)
    (hP : va_P D vwCl ((aw_ws cA ad σ d).set k (ad k, .inl (cA t, v))) H1) (hD : va_D (fun q => base ≤ q) ((aw_ws cA ad σ d).set k (ad k, .inl (cA t, v)))) (hS : va_S (fun q => base ≤ q) s.heap H1 locs1) : aw_G D cA base ad σ' d' s H1 locs1 := by
  have e1 : (aw_ws cA ad σ d).set k (ad k, .inl (cA t, v)) = aw_ws cA ad σ' d' := by
    refine aw_set hz ?_ h3
    rw [aw_e_Y ht (show (σ'.2.1 k).1 = t by rw [hy]; exact hk), hy, h1]
  rw [e1] at hP hD
  exact ⟨G.1, G.2.1, hP, hD, hS⟩
theorem aw_updI {k : Nat} {i : Int32} {x : Int32} : (aw_sI d k i.toNatClampNeg x).1 k = upd (d.1 k) i.toNatClampNeg x := by
  funext j
  by_cases h : j = i.toNatClampNeg <;> simp [aw_sI, upd, h]
theorem aw_updL {k : Nat} {i : Int32} {x : Int64} : (aw_sL d k i.toNatClampNeg x).2 k = vp_updL (d.2 k) i.toNatClampNeg x := by
  funext j
  by_cases h : j = i.toNatClampNeg <;> simp [aw_sL, vp_updL, h]
theorem aw_ias (hexec : p.tables.exec = Jvm.exec) (hb : c.code = cc) (G : aw_G D cA base ad σ d s H locs) {k : Nat} {i x : Int32} (hk : aw_I σ 20 k i) (hdg : decode cc pc = .ok (.iastore, 1))
    (kk : ∀ H locs, aw_G D cA base ad σ (aw_sI d k i.toNatClampNeg x) s H locs → W p l e R s m args below meth c H locs cells slots Q (F0 m (pc + 1) ls rest)) : W p l e R s m args below meth c H locs cells slots Q (F0 m pc ls (.int x :: .int i :: .ref (ad k) :: rest)) :=
  va_iast hexec hb G.2.1 G.2.2.1 G.2.2.2.1 G.2.2.2.2 k 0 (cA := cA 20) (n := (σ.2.1 k).2) (f := d.1 k) ((aw_get hk.1).trans (by rw [aw_e_Y (Nat.le_refl 20) hk.2.1]; rfl)) rfl hk.2.2 hdg (fun H1 locs1 hP hD hS => kk H1 locs1 (aw_arrS G (Nat.le_refl 20) hk.2.1 rfl rfl (by rw [← aw_updI]; rfl) aw_e_sI hP hD hS))
theorem aw_zas (hexec : p.tables.exec = Jvm.exec) (hb : c.code = cc) (G : aw_G D cA base ad σ d s H locs) {k : Nat} {i x : Int32} (hk : aw_I σ 22 k i) (hdg : decode cc pc = .ok (.bastore, 1))
    (kk : ∀ H locs, aw_G D cA base ad σ (aw_sI d k i.toNatClampNeg (vp_nar .boolean x)) s H locs → W p l e R s m args below meth c H locs cells slots Q (F0 m (pc + 1) ls rest)) : W p l e R s m args below meth c H locs cells slots Q (F0 m pc ls (.int x :: .int i :: .ref (ad k) :: rest)) :=
  va_zast hexec hb G.2.1 G.2.2.1 G.2.2.2.1 G.2.2.2.2 k 2 (cA := cA 22) (n := (σ.2.1 k).2) (f := d.1 k) ((aw_get hk.1).trans (by rw [aw_e_Y (by decide) hk.2.1]; rfl)) rfl hk.2.2 hdg (fun H1 locs1 hP hD hS => kk H1 locs1 (aw_arrS G (by decide) hk.2.1 rfl rfl (by rw [← aw_updI]; rfl) aw_e_sI hP hD hS))
theorem aw_las (hexec : p.tables.exec = Jvm.exec) (hb : c.code = cc) (G : aw_G D cA base ad σ d s H locs) {k : Nat} {i : Int32} {x : Int64} (hk : aw_I σ 21 k i) (hdg : decode cc pc = .ok (.lastore, 1))
    (kk : ∀ H locs, aw_G D cA base ad σ (aw_sL d k i.toNatClampNeg x) s H locs → W p l e R s m args below meth c H locs cells slots Q (F0 m (pc + 1) ls rest)) : W p l e R s m args below meth c H locs cells slots Q (F0 m pc ls (.long x :: .int i :: .ref (ad k) :: rest)) :=
  va_last hexec hb G.2.1 G.2.2.1 G.2.2.2.1 G.2.2.2.2 k 1 (cA := cA 21) (n := (σ.2.1 k).2) (f := d.2 k) ((aw_get hk.1).trans (by rw [aw_e_Y (by decide) hk.2.1]; rfl)) rfl hk.2.2 hdg (fun H1 locs1 hP hD hS => kk H1 locs1 (aw_arrS G (by decide) hk.2.1 rfl rfl (by rw [← aw_updL]; rfl) aw_e_sL hP hD hS))
theorem aw_iln (hexec : p.tables.exec = Jvm.exec) (hb : c.code = cc) (G : aw_G D cA base ad σ d s H locs) {k : Nat} (hk : aw_Y σ 20 k) (hdg : decode cc pc = .ok (.arraylength, 1))
    (kk : W p l e R s m args below meth c H locs cells slots Q (F0 m (pc + 1) ls (.int (Int32.ofNat (σ.2.1 k).2) :: rest))) : W p l e R s m args below meth c H locs cells slots Q (F0 m pc ls (.ref (ad k) :: rest)) :=
  va_alen hexec hb G.2.1 G.2.2.1 k 0 (cA := cA 20) (x := aw_a ad σ d 20 k (σ.2.1 k).2) ((aw_get hk.1).trans (by rw [aw_e_Y (Nat.le_refl 20) hk.2])) rfl rfl hdg kk
theorem aw_lln (hexec : p.tables.exec = Jvm.exec) (hb : c.code = cc) (G : aw_G D cA base ad σ d s H locs) {k : Nat} (hk : aw_Y σ 21 k) (hdg : decode cc pc = .ok (.arraylength, 1))
    (kk : W p l e R s m args below meth c H locs cells slots Q (F0 m (pc + 1) ls (.int (Int32.ofNat (σ.2.1 k).2) :: rest))) : W p l e R s m args below meth c H locs cells slots Q (F0 m pc ls (.ref (ad k) :: rest)) :=
  va_alen hexec hb G.2.1 G.2.2.1 k 1 (cA := cA 21) (x := aw_a ad σ d 21 k (σ.2.1 k).2) ((aw_get hk.1).trans (by rw [aw_e_Y (by decide) hk.2])) rfl rfl hdg kk
end AWR
/-! calls and ends -/
section AWC
variable {p : Program} {l : Launch} {e : Env} {R : Room} {s : State} {m : MethodId} {args : Array Value} {below : List Frame} {meth : Method} {c : Code} {H : Heap} {locs : List Loc} {cells slots : Nat} {Q : State → Prop}
variable {cc : ByteArray} {pc nL : Nat} {ls : Array Slot} {rest st0 : List Value} {D : va_G} {cA : Nat → ClassId} {base : Nat} {ad : Nat → Nat} {σ : Sg} {d : Dt}
variable {own C host : String} {index n maxL ci N : Nat} {y : MethodName} {bytes : ByteArray} {ret : Option FieldType} {rm : Room} {as : (Nat → Nat) → List Value} {As : List Value} {k : Nat} {T : u_T} {ret0 : Option FieldType}
abbrev aw_X (p : Program) (c : Code) (cc : ByteArray) (nL : Nat) (s : State) (own : String) (m : MethodId) (meth : Method) (ret : Option FieldType) : Prop := p.tables.exec = Jvm.exec ∧ c.code = cc ∧ c.maxLocals = nL ∧ s.vm.findClass own = some m.cls ∧ meth.sig.returnType = ret ∧ meth.locks = false
theorem aw_good {w : Cond} (h : w ∈ aw_tbl) (hg : goodWord w = true) : w ∈ aw_tbl ∧ ((w.onTables && w.keeps) = true ∨ ∃ ty, w = .arrayClass ty) := ⟨h, good_of_word hg⟩
theorem aw_cw {args : Array Value} (G : aw_T base s) (L : aw_LV own index C y n (.code y bytes maxL ret)) (hR : rm.frames + 1 ≤ R.frames ∧ 8 + (maxL + 11) + rm.locals ≤ R.locals) : CallW R s args own C index y bytes maxL ret [.code y bytes maxL ret] rm rm.cells rm.slots n :=
  cwV n (G.hts (args := args)) (fun w hw => by
    rcases List.mem_append.mp hw with h | h
    · simp only [List.mem_cons, List.not_mem_nil, or_false] at h
      rcases h with rfl | rfl | rfl | rfl
      · exact aw_good L.1.1 rfl
      · exact aw_good L.1.2.1 rfl
      · exact aw_good L.1.2.2.1 rfl
      · exact aw_good L.1.2.2.2.1 rfl
    · rw [List.mem_singleton.mp h]
      exact aw_good L.1.2.2.2.2 rfl) rfl rfl rfl L.2 hR
theorem aw_cs {args : Array Value} (G : aw_T base s) (L : aw_LS own index y n (.code y bytes maxL ret)) (hR : rm.frames + 1 ≤ R.frames ∧ 8 + (maxL + 11) + rm.locals ≤ R.locals) : CallB R s args own index y bytes maxL ret [.code y bytes maxL ret] rm rm.cells rm.slots n ∧ (Cond.static y).before args s = true :=
  ⟨callB_of n (G.hts (args := args)) (fun w hw => by rw [List.mem_singleton.mp hw]; exact aw_good L.1.2.2.2 rfl) rfl rfl rfl (G.hts _ L.1.2.2.1) (G.hts _ L.1.1) L.2 hR, G.hts _ L.1.2.1⟩
theorem aw_csn {args : Array Value} (G : aw_T base s) (L : aw_LSN own index y host n (.code y bytes maxL ret)) (hR : rm.frames + 1 ≤ R.frames ∧ 8 + (maxL + 11) + rm.locals ≤ R.locals) : va_CN R s args own index y host bytes maxL ret [.code y bytes maxL ret] rm rm.cells rm.slots n ∧ (Cond.static y).before args s = true ∧ True :=
  ⟨va_cnB n (G.hts (args := args)) (fun w hw => by rw [List.mem_singleton.mp hw]; exact aw_good L.1.2.2.2 rfl) rfl rfl rfl (G.1 _ L.1.1) (G.hts _ L.1.2.2.1) L.2 hR, G.hts _ L.1.2.1, trivial⟩
theorem aw_recv (G : aw_G D cA base ad σ d s H locs) (hc : vwCl[ci]? = some (C, T, N)) (hi : ci < 20) (hk : aw_O σ ci N k) : ∃ cell : Cell, H[ad k]? = some cell ∧ cell.vm.isStatics = false ∧ s.vm.findClass C = some cell.cls :=
  va_recv (q := (C, T, N)) G.2.1 G.2.2.1 hc ((aw_get hk.1).trans (by rw [aw_e_O hi hk]))
theorem aw_preV (G : aw_G D cA base ad σ d s H locs) (hc : vwCl[ci]? = some (C, T, N)) (hi : ci < 20) (hk : aw_O σ ci N k) {av : List Value} (has : av = .ref (ad k) :: As) : PreV s H C (ad k) (va_Pc av (aw_W D cA base ad σ d)) As :=
  ⟨aw_blind, aw_recv G hc hi hk, fun U hH hW => ⟨by rw [has], G.pre hH hW⟩⟩
theorem aw_preS (G : aw_G D cA base ad σ d s H locs) {av : List Value} (has : av = As) : PreS s H (va_Pc av (aw_W D cA base ad σ d)) As :=
  ⟨aw_blind, fun U hH hW => ⟨by rw [has], G.pre hH hW⟩⟩
theorem aw_after {d' : Dt} {t : State} {H1 : Heap} {locs1 : List Loc} (G : aw_G D cA base ad σ d s H locs) (ht : t.heap = H1) (h : aw_B D cA base ad σ d' t) (hS : va_S (fun q => base ≤ q) s.heap H1 locs1) : aw_G D cA base ad σ d' s H1 locs1 := by
  obtain ⟨h1, h2⟩ := h
  rw [ht] at h1
  exact ⟨G.1, G.2.1, h1, h2, hS⟩
theorem aw_VI (X : aw_X p c cc nL s own m meth ret0) (G : aw_G D cA base ad σ d s H locs) (hl : ls.size = nL) (L : aw_LV own index C y n (.code y bytes maxL ret)) {z : Int32 × Dt} (hM : aw_Mi l y (.code y bytes maxL ret) rm as σ d z) (hz : rm.cells = 0 ∧ rm.slots = 0) (has : as ad = .ref (ad k) :: As) (hn : As.length = n) (hc : vwCl[ci]? = some (C, T, N)) (hi : ci < 20) (hk : aw_O σ ci N k) (hst : st0 = As.reverse ++ .ref (ad k) :: rest) (hR : rm.frames + 1 ≤ R.frames ∧ 8 + (maxL + 11) + rm.locals ≤ R.locals) (hro : (rest.map fun v => v.category).sum ≤ 8) (hdg : decode cc pc = .ok (.invokevirtual index, 3)) (hf : cells ≤ R.cells ∧ slots ≤ R.slots)
    (kk : ∀ H locs, aw_G D cA base ad σ z.2 s H locs → W p l e R s m args below meth c H locs cells slots Q (F0 m (pc + 3) ls (.int z.1 :: rest))) : W p l e R s m args below meth c H locs cells slots Q (F0 m pc ls st0) :=
  va_calli (va_runV (As := As) (rest := rest) ⟨X.1, X.2.1, X.2.2.1, X.2.2.2.1, G.1.hts⟩ (hM D cA base ad) (aw_cw G.1 L hR) (aw_preV G hc hi hk has) rfl hn hl hst (lv_room hro) hdg (by rw [hz.1, hz.2]; exact hf)) G.2.2.2.2 (fun q _ h => h) (fun q h => h) (fun r u t H1 locs1 ht hvm hr hB hz1 hk1 hS => by
    rw [hr, hz.1, hz.2]
    exact kk H1 locs1 (aw_after G ht hB hS))
theorem aw_VL (X : aw_X p c cc nL s own m meth ret0) (G : aw_G D cA base ad σ d s H locs) (hl : ls.size = nL) (L : aw_LV own index C y n (.code y bytes maxL ret)) {z : Int64 × Dt} (hM : aw_Ml l y (.code y bytes maxL ret) rm as σ d z) (hz : rm.cells = 0 ∧ rm.slots = 0) (has : as ad = .ref (ad k) :: As) (hn : As.length = n) (hc : vwCl[ci]? = some (C, T, N)) (hi : ci < 20) (hk : aw_O σ ci N k) (hst : st0 = As.reverse ++ .ref (ad k) :: rest) (hR : rm.frames + 1 ≤ R.frames ∧ 8 + (maxL + 11) + rm.locals ≤ R.locals) (hro : (rest.map fun v => v.category).sum ≤ 8) (hdg : decode cc pc = .ok (.invokevirtual index, 3)) (hf : cells ≤ R.cells ∧ slots ≤ R.slots)
    (kk : ∀ H locs, aw_G D cA base ad σ z.2 s H locs → W p l e R s m args below meth c H locs cells slots Q (F0 m (pc + 3) ls (.long z.1 :: rest))) : W p l e R s m args below meth c H locs cells slots Q (F0 m pc ls st0) :=
  va_calll (va_runV (As := As) (rest := rest) ⟨X.1, X.2.1, X.2.2.1, X.2.2.2.1, G.1.hts⟩ (hM D cA base ad) (aw_cw G.1 L hR) (aw_preV G hc hi hk has) rfl hn hl hst (lv_room hro) hdg (by rw [hz.1, hz.2]; exact hf)) G.2.2.2.2 (fun q _ h => h) (fun q h => h) (fun r u t H1 locs1 ht hvm hr hB hz1 hk1 hS => by
    rw [hr, hz.1, hz.2]
    exact kk H1 locs1 (aw_after G ht hB hS))
theorem aw_VV (X : aw_X p c cc nL s own m meth ret0) (G : aw_G D cA base ad σ d s H locs) (hl : ls.size = nL) (L : aw_LV own index C y n (.code y bytes maxL ret)) {z : Unit × Dt} (hM : aw_Mv l y (.code y bytes maxL ret) rm as σ d z) (hz : rm.cells = 0 ∧ rm.slots = 0) (has : as ad = .ref (ad k) :: As) (hn : As.length = n) (hc : vwCl[ci]? = some (C, T, N)) (hi : ci < 20) (hk : aw_O σ ci N k) (hst : st0 = As.reverse ++ .ref (ad k) :: rest) (hR : rm.frames + 1 ≤ R.frames ∧ 8 + (maxL + 11) + rm.locals ≤ R.locals) (hro : (rest.map fun v => v.category).sum ≤ 8) (hdg : decode cc pc = .ok (.invokevirtual index, 3)) (hf : cells ≤ R.cells ∧ slots ≤ R.slots)
    (kk : ∀ H locs, aw_G D cA base ad σ z.2 s H locs → W p l e R s m args below meth c H locs cells slots Q (F0 m (pc + 3) ls rest)) : W p l e R s m args below meth c H locs cells slots Q (F0 m pc ls st0) :=
  va_callv (va_runV (As := As) (rest := rest) ⟨X.1, X.2.1, X.2.2.1, X.2.2.2.1, G.1.hts⟩ (hM D cA base ad) (aw_cw G.1 L hR) (aw_preV G hc hi hk has) rfl hn hl hst (lv_room hro) hdg (by rw [hz.1, hz.2]; exact hf)) G.2.2.2.2 (fun q _ h => h) (fun q h => h) (fun u t H1 locs1 ht hvm hr hB hz1 hk1 hS => by
    rw [hz.1, hz.2]
    exact kk H1 locs1 (aw_after G ht hB hS))
theorem aw_VR (X : aw_X p c cc nL s own m meth ret0) (G : aw_G D cA base ad σ d s H locs) (hl : ls.size = nL) (L : aw_LV own index C y n (.code y bytes maxL ret)) {z : Nat × Dt} (hM : aw_Mr l y (.code y bytes maxL ret) rm as σ d z) (hz : rm.cells = 0 ∧ rm.slots = 0) (has : as ad = .ref (ad k) :: As) (hn : As.length = n) (hc : vwCl[ci]? = some (C, T, N)) (hi : ci < 20) (hk : aw_O σ ci N k) (hst : st0 = As.reverse ++ .ref (ad k) :: rest) (hR : rm.frames + 1 ≤ R.frames ∧ 8 + (maxL + 11) + rm.locals ≤ R.locals) (hro : (rest.map fun v => v.category).sum ≤ 8) (hdg : decode cc pc = .ok (.invokevirtual index, 3)) (hf : cells ≤ R.cells ∧ slots ≤ R.slots)
    (kk : ∀ H locs, aw_G D cA base ad σ z.2 s H locs → W p l e R s m args below meth c H locs cells slots Q (F0 m (pc + 3) ls (.ref (ad z.1) :: rest))) : W p l e R s m args below meth c H locs cells slots Q (F0 m pc ls st0) :=
  va_callr (va_runV (As := As) (rest := rest) ⟨X.1, X.2.1, X.2.2.1, X.2.2.2.1, G.1.hts⟩ (hM D cA base ad) (aw_cw G.1 L hR) (aw_preV G hc hi hk has) rfl hn hl hst (lv_room hro) hdg (by rw [hz.1, hz.2]; exact hf)) G.2.2.2.2 (fun q _ h => h) (fun q h => h) (fun u ra t H1 locs1 ht hvm hr hB hz1 hk1 hS => by
    rw [hB.1, hz.1, hz.2]
    exact kk H1 locs1 (aw_after G ht hB.2 hS))
theorem aw_SI (X : aw_X p c cc nL s own m meth ret0) (G : aw_G D cA base ad σ d s H locs) (hl : ls.size = nL) (L : aw_LS own index y n (.code y bytes maxL ret)) {z : Int32 × Dt} (hM : aw_Mi l y (.code y bytes maxL ret) rm as σ d z) (hz : rm.cells = 0 ∧ rm.slots = 0) (has : as ad = As) (hn : As.length = n) (hst : st0 = As.reverse ++ rest) (hR : rm.frames + 1 ≤ R.frames ∧ 8 + (maxL + 11) + rm.locals ≤ R.locals) (hro : (rest.map fun v => v.category).sum ≤ 8) (hdg : decode cc pc = .ok (.invokestatic index, 3)) (hf : cells ≤ R.cells ∧ slots ≤ R.slots)
    (kk : ∀ H locs, aw_G D cA base ad σ z.2 s H locs → W p l e R s m args below meth c H locs cells slots Q (F0 m (pc + 3) ls (.int z.1 :: rest))) : W p l e R s m args below meth c H locs cells slots Q (F0 m pc ls st0) :=
  va_calli (va_runS (As := As) (rest := rest) ⟨X.1, X.2.1, X.2.2.1, X.2.2.2.1, G.1.hts⟩ (hM D cA base ad) (aw_cs G.1 L hR) (aw_preS G has) rfl hn hl hst (lv_room hro) hdg (by rw [hz.1, hz.2]; exact hf)) G.2.2.2.2 (fun q _ h => h) (fun q h => h) (fun r u t H1 locs1 ht hvm hr hB hz1 hk1 hS => by
    rw [hr, hz.1, hz.2]
    exact kk H1 locs1 (aw_after G ht hB hS))
theorem aw_SV (X : aw_X p c cc nL s own m meth ret0) (G : aw_G D cA base ad σ d s H locs) (hl : ls.size = nL) (L : aw_LS own index y n (.code y bytes maxL ret)) {z : Unit × Dt} (hM : aw_Mv l y (.code y bytes maxL ret) rm as σ d z) (hz : rm.cells = 0 ∧ rm.slots = 0) (has : as ad = As) (hn : As.length = n) (hst : st0 = As.reverse ++ rest) (hR : rm.frames + 1 ≤ R.frames ∧ 8 + (maxL + 11) + rm.locals ≤ R.locals) (hro : (rest.map fun v => v.category).sum ≤ 8) (hdg : decode cc pc = .ok (.invokestatic index, 3)) (hf : cells ≤ R.cells ∧ slots ≤ R.slots)
    (kk : ∀ H locs, aw_G D cA base ad σ z.2 s H locs → W p l e R s m args below meth c H locs cells slots Q (F0 m (pc + 3) ls rest)) : W p l e R s m args below meth c H locs cells slots Q (F0 m pc ls st0) :=
  va_callv (va_runS (As := As) (rest := rest) ⟨X.1, X.2.1, X.2.2.1, X.2.2.2.1, G.1.hts⟩ (hM D cA base ad) (aw_cs G.1 L hR) (aw_preS G has) rfl hn hl hst (lv_room hro) hdg (by rw [hz.1, hz.2]; exact hf)) G.2.2.2.2 (fun q _ h => h) (fun q h => h) (fun u t H1 locs1 ht hvm hr hB hz1 hk1 hS => by
    rw [hz.1, hz.2]
    exact kk H1 locs1 (aw_after G ht hB hS))
theorem aw_NI (X : aw_X p c cc nL s own m meth ret0) (G : aw_G D cA base ad σ d s H locs) (hl : ls.size = nL) (L : aw_LSN own index y host n (.code y bytes maxL ret)) {z : Int32 × Dt} (hM : aw_Mi l y (.code y bytes maxL ret) rm as σ d z) (hz : rm.cells = 0 ∧ rm.slots = 0) (has : as ad = As) (hn : As.length = n) (hst : st0 = As.reverse ++ rest) (hR : rm.frames + 1 ≤ R.frames ∧ 8 + (maxL + 11) + rm.locals ≤ R.locals) (hro : (rest.map fun v => v.category).sum ≤ 8) (hdg : decode cc pc = .ok (.invokestatic index, 3)) (hf : cells ≤ R.cells ∧ slots ≤ R.slots)
    (kk : ∀ H locs, aw_G D cA base ad σ z.2 s H locs → W p l e R s m args below meth c H locs cells slots Q (F0 m (pc + 3) ls (.int z.1 :: rest))) : W p l e R s m args below meth c H locs cells slots Q (F0 m pc ls st0) :=
  va_calli (va_runSN (As := As) (rest := rest) ⟨X.1, X.2.1, X.2.2.1, X.2.2.2.1, G.1.hts⟩ (hM D cA base ad) (aw_csn G.1 L hR) (aw_preS G has) rfl hn hl hst (lv_room hro) hdg (by rw [hz.1, hz.2]; exact hf)) G.2.2.2.2 (fun q _ h => h) (fun q h => h) (fun r u t H1 locs1 ht hvm hr hB hz1 hk1 hS => by
    rw [hr, hz.1, hz.2]
    exact kk H1 locs1 (aw_after G ht hB hS))
/-- what a body owes at its end -/
abbrev aw_Ei (D : va_G) (cA : Nat → ClassId) (base : Nat) (ad : Nat → Nat) (σ : Sg) (below : List Frame) (args : Array Value) (s : State) (z : Int32 × Dt) : State → Prop := MQ below (va_Qi (fun r (_ : Unit) => r = z.1) (fun _ => aw_B D cA base ad σ z.2) (fun q => base ≤ q)) args s 0 0 (fun q => base ≤ q)
abbrev aw_El (D : va_G) (cA : Nat → ClassId) (base : Nat) (ad : Nat → Nat) (σ : Sg) (below : List Frame) (args : Array Value) (s : State) (z : Int64 × Dt) : State → Prop := MQ below (va_Ql (fun r (_ : Unit) => r = z.1) (fun _ => aw_B D cA base ad σ z.2) (fun q => base ≤ q)) args s 0 0 (fun q => base ≤ q)
abbrev aw_Ev (D : va_G) (cA : Nat → ClassId) (base : Nat) (ad : Nat → Nat) (σ : Sg) (below : List Frame) (args : Array Value) (s : State) (z : Unit × Dt) : State → Prop := MQ below (va_Qv (fun (_ : Unit) => True) (fun _ => aw_B D cA base ad σ z.2) (fun q => base ≤ q)) args s 0 0 (fun q => base ≤ q)
abbrev aw_Er (D : va_G) (cA : Nat → ClassId) (base : Nat) (ad : Nat → Nat) (σ : Sg) (below : List Frame) (args : Array Value) (s : State) (z : Nat × Dt) : State → Prop := MQ below (va_Qr (fun (_ : Unit) => True) (fun _ a t => a = ad z.1 ∧ aw_B D cA base ad σ z.2 t) (fun q => base ≤ q)) args s 0 0 (fun q => base ≤ q)
theorem aw_reti (X : aw_X p c cc nL s own m meth (some .int)) (G : aw_G D cA base ad σ d s H locs) {v : Int32} {z : Int32 × Dt} (hf : some (v, d) = some z) (hdg : decode cc pc = .ok (.ireturn, 1)) : W p l e R s m args below meth c H locs 0 0 (aw_Ei D cA base ad σ below args s z) (F0 m pc ls [.int v]) := by
  cases hf
  exact W.iret X.1 X.2.1 X.2.2.2.2.1 (fun t ht _ => ⟨⟨v, (), rfl, rfl, G.post ht⟩, G.2.2.2.2.F ht⟩) G.2.2.2.2.2.2 hdg X.2.2.2.2.2
theorem aw_retz (X : aw_X p c cc nL s own m meth (some .boolean)) (G : aw_G D cA base ad σ d s H locs) {v : Int32} {z : Int32 × Dt} (hv : v &&& 1 = v) (hf : some (v, d) = some z) (hdg : decode cc pc = .ok (.ireturn, 1)) : W p l e R s m args below meth c H locs 0 0 (aw_Ei D cA base ad σ below args s z) (F0 m pc ls [.int v]) := by
  cases hf
  exact W.zret X.1 X.2.1 X.2.2.2.2.1 (by show Value.int (v &&& 1) = _; rw [hv]) (fun t ht _ => ⟨⟨v, (), rfl, rfl, G.post ht⟩, G.2.2.2.2.F ht⟩) G.2.2.2.2.2.2 hdg X.2.2.2.2.2
theorem aw_retl (X : aw_X p c cc nL s own m meth (some .long)) (G : aw_G D cA base ad σ d s H locs) {v : Int64} {z : Int64 × Dt} (hf : some (v, d) = some z) (hdg : decode cc pc = .ok (.lreturn, 1)) : W p l e R s m args below meth c H locs 0 0 (aw_El D cA base ad σ below args s z) (F0 m pc ls [.long v]) := by
  cases hf
  exact W.lret X.1 X.2.1 X.2.2.2.2.1 (fun t ht _ => ⟨⟨v, (), rfl, rfl, G.post ht⟩, G.2.2.2.2.F ht⟩) G.2.2.2.2.2.2 hdg X.2.2.2.2.2
theorem aw_retv (X : aw_X p c cc nL s own m meth none) (G : aw_G D cA base ad σ d s H locs) {z : Unit × Dt} (hf : some ((), d) = some z) (hdg : decode cc pc = .ok (.return_, 1)) : W p l e R s m args below meth c H locs 0 0 (aw_Ev D cA base ad σ below args s z) (F0 m pc ls []) := by
  cases hf
  exact W.vret X.1 X.2.1 X.2.2.2.2.1 (fun t ht _ => ⟨⟨(), rfl, trivial, G.post ht⟩, G.2.2.2.2.F ht⟩) G.2.2.2.2.2.2 hdg X.2.2.2.2.2
theorem aw_retr {C9 : String} (X : aw_X p c cc nL s own m meth (some (.object C9))) (G : aw_G D cA base ad σ d s H locs) {v : Nat} {z : Nat × Dt} (hf : some (v, d) = some z) (hdg : decode cc pc = .ok (.areturn, 1)) : W p l e R s m args below meth c H locs 0 0 (aw_Er D cA base ad σ below args s z) (F0 m pc ls [.ref (ad v)]) := by
  cases hf
  exact W.aret X.1 X.2.1 X.2.2.2.2.1 (Or.inl ⟨_, rfl⟩) (Or.inr ⟨_, rfl⟩) (fun t ht _ => ⟨⟨(), ad v, rfl, trivial, rfl, G.post ht⟩, G.2.2.2.2.F ht⟩) G.2.2.2.2.2.2 hdg X.2.2.2.2.2
/-- a body's start -/
theorem aw_ofW {y : MethodName} {w : Cond} {rm : Room} {Qc : Array Value → State → Outcome → State → Prop} {av : List Value} {free : Addr → Prop} (hy : plainName y.cls = true) (hw : w = Cond.code y cc nL ret) (hov : y.cls = own)
    (body : ∀ p e s m below meth c, aw_X p c cc nL s own m meth ret → meth.name = y.name → aw_G D cA base ad σ d s s.heap [] → W p l e rm s m av.toArray below meth c s.heap [] 0 0 (MQ below Qc av.toArray s rm.cells rm.slots free) (entryFrame m av.toArray nL)) : Met l y [w] rm (va_Pc av (aw_W D cA base ad σ d)) Qc rm.cells rm.slots free := by
  refine Met.ofW (cc := cc) (maxL := nL) (ret := ret) (ws' := []) hy (by rw [hw]) ?_
  intro p e s m args below meth c s₁ B hml hv
  obtain ⟨rfl, hW⟩ := hv
  exact body p e s m below meth c ⟨B.exec, B.bytes, hml, by rw [← hov]; exact findClass_of_methodNamed B.named, B.returns, B.notSynchronized⟩ (name_of_methodNamed B.named B.method).1 hW.go
theorem aw_ls {av : List Value} {lv : List (Nat × Value)} {nL : Nat} (h : (lg_sl av).length ≤ nL) (he : lv_args 0 av = lv) (k : ∀ ls, lv_has ls nL lv → W p l e R s m args below meth c H locs cells slots Q (F0 m 0 ls [])) : W p l e R s m args below meth c H locs cells slots Q (entryFrame m av.toArray nL) := by
  rw [lg_entry_eq]
  have hl := lv_entry av (n := nL) h
  rw [he] at hl
  exact k _ hl
end AWC
theorem aw_ite_t {α : Type} {b : Prop} [Decidable b] {x y : Option α} {r : α} (hb : b) (h : (if b then x else y) = some r) : x = some r := by rw [if_pos hb] at h; exact h
theorem aw_ite_f {α : Type} {b : Prop} [Decidable b] {x y : Option α} {r : α} (hb : ¬ b) (h : (if b then x else y) = some r) : y = some r := by rw [if_neg hb] at h; exact h
def aw_FU : Nat := 5000
theorem aw_sw2 {x : Int32} (h0 : ¬ x = 0) (h1 : ¬ x = 1) (h2 : ¬ x = 2) : x.toInt < 0 ∨ 2 < x.toInt := by
  have a0 : x.toInt ≠ 0 := fun h => h0 (Int32.toInt_inj.mp h)
  have a1 : x.toInt ≠ 1 := fun h => h1 (Int32.toInt_inj.mp h)
  have a2 : x.toInt ≠ 2 := fun h => h2 (Int32.toInt_inj.mp h)
  omega
