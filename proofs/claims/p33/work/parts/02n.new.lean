/-! MAKING CELLS -/
/-- no reference leads out of the heap -/
def aw_wf (σ : Sg) : Prop := ∀ k, k < σ.1 → ∀ j r, σ.2.2 k j = some r → r < σ.1
/-- a later heap at its addresses -/
def aw_ext (σ : Sg) (ad : Nat → Nat) (σ' : Sg) (ad' : Nat → Nat) : Prop := σ.1 ≤ σ'.1 ∧ (∀ k, k < σ.1 → ad' k = ad k) ∧ aw_wf σ'
theorem aw_ext.trans {σ1 σ2 σ3 : Sg} {a1 a2 a3 : Nat → Nat} (h : aw_ext σ1 a1 σ2 a2) (g : aw_ext σ2 a2 σ3 a3) : aw_ext σ1 a1 σ3 a3 := ⟨Nat.le_trans h.1 g.1, fun k hk => (g.2.1 k (Nat.lt_of_lt_of_le hk h.1)).trans (h.2.1 k hk), g.2.2⟩
/-- zero from a cell on -/
def aw_zd (σ : Sg) (d : Dt) : Dt := (fun k j => if σ.1 ≤ k then 0 else d.1 k j, fun k j => if σ.1 ≤ k then 0 else d.2 k j)
/-- an outer array of n references to n arrays of k -/
def aw_nm (σ : Sg) (t n t2 k : Nat) : Sg := (σ.1 + 1 + n, fun c => if c = σ.1 then (t, n) else if σ.1 < c then (t2, k) else σ.2.1 c, fun c j => if c = σ.1 then (if j < n then some (σ.1 + 1 + j) else none) else if σ.1 < c then none else σ.2.2 c j)
def aw_new {α : Type} (σ : Sg) (d : Dt) (t n : Nat) (k : Nat → Sg → Dt → Option α) : Option α := k σ.1 (aw_nw σ t n) (aw_zd σ d)
def aw_new2 {α : Type} (σ : Sg) (d : Dt) (t n t2 m : Nat) (k : Nat → Sg → Dt → Option α) : Option α := k σ.1 (aw_nm σ t n t2 m) (aw_zd σ d)
def aw_let {α β : Type} (x : β) (k : β → Option α) : Option α := k x
theorem aw_wf.nw {σ : Sg} {t n : Nat} (h : aw_wf σ) : aw_wf (aw_nw σ t n) := fun k hk j r hr => by
  simp only [aw_nw] at hk hr ⊢
  by_cases e : k = σ.1
  · simp [e] at hr
  · simp only [e, if_false] at hr
    exact Nat.lt_succ_of_lt (h k (by omega) j r hr)
theorem aw_wf.nm {σ : Sg} {t n t2 m : Nat} (h : aw_wf σ) : aw_wf (aw_nm σ t n t2 m) := fun k hk j r hr => by
  simp only [aw_nm] at hk hr ⊢
  by_cases e : k = σ.1
  · simp only [e, if_true] at hr
    by_cases hj : j < n
    · simp only [hj, if_true, Option.some.injEq] at hr; omega
    · simp [hj] at hr
  · by_cases e2 : σ.1 < k
    · simp [e, e2] at hr
    · simp only [e, e2, if_false] at hr
      have := h k (by omega) j r hr
      omega
theorem aw_wf.sR {σ : Sg} {a j v : Nat} (h : aw_wf σ) (hv : v < σ.1) : aw_wf (aw_sR σ a j v) := fun k hk i r hr => by
  simp only [aw_sR] at hk hr ⊢
  by_cases e : k = a ∧ i = j
  · simp only [e, and_self, if_true, Option.some.injEq] at hr; omega
  · simp only [e, if_false] at hr
    exact h k hk i r hr
theorem aw_e_ext {cA : Nat → ClassId} {ad ad' : Nat → Nat} {σ σ' : Sg} {d d' : Dt} (hwf : aw_wf σ) (h1 : ∀ k, k < σ.1 → ad' k = ad k) {k : Nat} (hk : k < σ.1) (ht : σ'.2.1 k = σ.2.1 k) (hr : ∀ j, σ'.2.2 k j = σ.2.2 k j) (hi : ∀ j, d'.1 k j = d.1 k j) (hl : ∀ j, d'.2 k j = d.2 k j) : aw_e cA ad' σ' d' k = aw_e cA ad σ d k := by
  have e1 : d'.1 k = d.1 k := funext hi
  have e2 : d'.2 k = d.2 k := funext hl
  have e3 : ∀ j, (σ'.2.2 k j).map ad' = (σ.2.2 k j).map ad := fun j => by
    rw [hr j]
    cases h : σ.2.2 k j with
    | none => rfl
    | some r => simp [h1 r (hwf k hk j r h)]
  unfold aw_e aw_fs aw_a aw_v
  simp only [ht, e1, e2, e3]
theorem aw_ws_app {cA : Nat → ClassId} {ad ad' : Nat → Nat} {σ σ' : Sg} {d d' : Dt} {w : va_W} (hz : σ'.1 = σ.1 + w.length) (h1 : ∀ k, k < σ.1 → ad' k = ad k ∧ aw_e cA ad' σ' d' k = aw_e cA ad σ d k) (h2 : ∀ i (h : i < w.length), w[i] = (ad' (σ.1 + i), aw_e cA ad' σ' d' (σ.1 + i))) : aw_ws cA ad σ d ++ w = aw_ws cA ad' σ' d' := by
  apply List.ext_getElem?
  intro j
  by_cases hj : j < σ.1
  · rw [List.getElem?_append_left (by rw [aw_len]; exact hj), aw_get hj, aw_get (by omega), (h1 j hj).1, (h1 j hj).2]
  · rw [List.getElem?_append_right (by rw [aw_len]; omega), aw_len]
    by_cases hk : j - σ.1 < w.length
    · rw [List.getElem?_eq_getElem hk, h2 _ hk, aw_get (by omega), show σ.1 + (j - σ.1) = j by omega]
    · rw [List.getElem?_eq_none (by omega), List.getElem?_eq_none (by rw [aw_len]; omega)]
def aw_v0 (t : Nat) : Value := match t with
  | 0 => .int 0
  | 1 => .long 0
  | _ => .null
/-- contracts of methods that make cells -/
def aw_Nv (l : Launch) (y : MethodName) (w : Cond) (rm : Room) (as : (Nat → Nat) → List Value) (σ : Sg) (d : Dt) (z : Sg × Dt) : Prop := aw_wf σ → ∀ D cA base ad, Met l y [w] rm (va_Pc (as ad) (aw_W D cA base ad σ d)) (va_Qv (fun ad' : Nat → Nat => aw_ext σ ad z.1 ad') (fun ad' => aw_B D cA base ad' z.1 z.2) (fun q => base ≤ q)) rm.cells rm.slots (fun q => base ≤ q)
theorem aw_inni (K : Nat) (c : ClassId) : Jvm.Free.Multi.innerC c K (defaultValue .int) = vp_cell c (K, .inl (fun _ => 0)) := by
  show ({ cls := c, slots := Array.replicate K (.int 0), vm := .none } : Cell) = _
  rw [arrV_new]; rfl
theorem aw_innl (K : Nat) (c : ClassId) : Jvm.Free.Multi.innerC c K (defaultValue .long) = vp_cell c (K, .inr (.inl (fun _ => 0))) := by
  show ({ cls := c, slots := Array.replicate K (.long 0), vm := .none } : Cell) = _
  rw [arrV_new]; rfl
section AWN
variable {p : Program} {l : Launch} {e : Env} {R : Room} {s : State} {m : MethodId} {args : Array Value} {below : List Frame} {meth : Method} {c : Code} {H : Heap} {locs : List Loc} {cells slots : Nat} {Q : State → Prop}
variable {cc : ByteArray} {pc nL : Nat} {ls : Array Slot} {rest st0 : List Value} {D : va_G} {cA : Nat → ClassId} {base : Nat} {ad : Nat → Nat} {σ : Sg} {d : Dt}
variable {own C host : String} {index n maxL ci N mc ms : Nat} {y : MethodName} {bytes : ByteArray} {ret : Option FieldType} {rm : Room} {as : (Nat → Nat) → List Value} {As : List Value} {k : Nat} {T : u_T} {ret0 : Option FieldType} {σ0 : Sg} {ad0 : Nat → Nat}
theorem aw_hA (G : aw_G D cA base ad σ d s H locs) : ∀ q, s.heap.size ≤ q → base ≤ q := fun q h => Nat.le_trans G.1.2.2.2.2.2.1 h
theorem aw_mk (G : aw_G D cA base ad σ d s H locs) {ci N : Nat} (hi : ci < 20) {α : Type} {z : α} {kf : Nat → Sg → Dt → Option α} (hf : aw_new σ d ci N kf = some z) (hE : aw_ext σ0 ad0 σ ad) {q : Nat} {H1 : Heap}
    (hP : va_P D vwCl (aw_ws cA ad σ d ++ [(q, .inr (ci, (List.range N).map (fun j => aw_v0 (aw_sT ci j))))]) H1) (hD : va_D (fun q => base ≤ q) (aw_ws cA ad σ d ++ [(q, .inr (ci, (List.range N).map (fun j => aw_v0 (aw_sT ci j))))])) (hS : va_S (fun q => base ≤ q) s.heap H1 locs) :
    ∃ (q1 : Nat) (σ1 : Sg) (d1 : Dt) (ad1 : Nat → Nat), ad1 q1 = q ∧ kf q1 σ1 d1 = some z ∧ (∀ k, k < σ.1 → ad1 k = ad k) ∧ aw_ext σ0 ad0 σ1 ad1 ∧ aw_G D cA base ad1 σ1 d1 s H1 locs := by
  have hext : ∀ k, k < σ.1 → (fun j => if j = σ.1 then q else ad j) k = ad k := fun k hk => if_neg (Nat.ne_of_lt hk)
  have e1 : aw_ws cA ad σ d ++ [(q, .inr (ci, (List.range N).map (fun j => aw_v0 (aw_sT ci j))))] = aw_ws cA (fun j => if j = σ.1 then q else ad j) (aw_nw σ ci N) (aw_zd σ d) := by
    refine aw_ws_app rfl (fun k hk => ⟨hext k hk, aw_e_ext hE.2.2 hext hk (by simp [aw_nw, Nat.ne_of_lt hk]) (fun j => by simp [aw_nw, Nat.ne_of_lt hk]) (fun j => by simp [aw_zd, Nat.not_le.mpr hk]) (fun j => by simp [aw_zd, Nat.not_le.mpr hk])⟩) ?_
    intro i hi2
    have hi0 : i = 0 := by simpa using hi2
    subst hi0
    rw [aw_e_O hi (show aw_O (aw_nw σ ci N) ci N (σ.1 + 0) from ⟨Nat.lt_succ_self _, by simp [aw_nw]⟩)]
    have e2 : aw_fs (fun j => if j = σ.1 then q else ad j) (aw_nw σ ci N) (aw_zd σ d) ci (σ.1 + 0) N = (List.range N).map (fun j => aw_v0 (aw_sT ci j)) := by
      unfold aw_fs
      refine List.map_congr_left fun j _ => ?_
      generalize aw_sT ci j = t9
      rcases t9 with _ | _ | t9 <;> simp [aw_v, aw_v0, aw_zd, aw_nw, va_rf]
    rw [e2]
    simp
  rw [e1] at hP hD
  exact ⟨σ.1, aw_nw σ ci N, aw_zd σ d, fun j => if j = σ.1 then q else ad j, if_pos rfl, hf, hext, hE.trans ⟨Nat.le_succ _, hext, hE.2.2.nw⟩, G.1, G.2.1, hP, hD, hS⟩
theorem aw_newO (X : aw_X p c cc nL s own m meth ret0) (G : aw_G D cA base ad σ d s H locs) (hE : aw_ext σ0 ad0 σ ad) {C : String} {T : u_T} {N ci index : Nat} (hi : ci < 20) (ty : Nat → FieldType) (hty : ∀ k, k < N → parseFieldDescriptor (T k).2.2.1 = some (ty k)) (hc : vwCl[ci]? = some (C, T, N)) (hin : ∀ w ∈ u_ws C T N, w ∈ aw_tbl) (hcl : Cond.classLink own index C ∈ aw_tbl) (hinst : Cond.instantiable C N ∈ aw_tbl) (hini : Cond.initialized C ∈ aw_tbl) (hfs : ∀ j, j < N → defaultValue (ty j) = aw_v0 (aw_sT ci j)) (hcells : cells + 1 ≤ R.cells) (hslots : slots + N ≤ R.slots) {α : Type} {z : α} {kf : Nat → Sg → Dt → Option α} (hf : aw_new σ d ci N kf = some z) (hdg : decode cc pc = .ok (.new index, 3))
    (kk : ∀ (q1 : Nat) (σ1 : Sg) (d1 : Dt) (ad1 : Nat → Nat) (H1 : Heap), kf q1 σ1 d1 = some z → (∀ k, k < σ.1 → ad1 k = ad k) → aw_ext σ0 ad0 σ1 ad1 → aw_G D cA base ad1 σ1 d1 s H1 locs → W p l e R s m args below meth c H1 locs (cells + 1) (slots + N) Q (F0 m (pc + 3) ls (.ref (ad1 q1) :: rest))) : W p l e R s m args below meth c H locs cells slots Q (F0 m pc ls rest) :=
  va_new (ci := ci) (fs := (List.range N).map (fun j => aw_v0 (aw_sT ci j))) X.1 X.2.1 (Ts := aw_tbl) G.1.hts hin ty hty X.2.2.2.1 (G.1.hts _ hcl) (G.1.hts _ hinst) (G.1.hts _ hini) G.2.1 G.2.2.1 G.2.2.2.1 G.2.2.2.2 (aw_hA G) hc (fun j hj => by rw [hfs j hj]; simp [vp_V, hj]) hcells hslots hdg (fun q H1 hP hD hS => by
    obtain ⟨q1, σ1, d1, ad1, e1, e2, e3, e4, e5⟩ := aw_mk G hi hf hE hP hD hS
    rw [← e1]
    exact kk q1 σ1 d1 ad1 H1 e2 e3 e4 e5)
theorem aw_mkA (G : aw_G D cA base ad σ d s H locs) {t N : Nat} (ht : 20 ≤ t) {a0 : vp_A} (ha : ∀ (ad : Nat → Nat) (σ : Sg) (d : Dt) (k : Nat), (∀ j, d.1 k j = 0) → (∀ j, d.2 k j = 0) → (∀ j, σ.2.2 k j = none) → aw_a ad σ d t k N = a0) {α : Type} {z : α} {kf : Nat → Sg → Dt → Option α} (hf : aw_new σ d t N kf = some z) (hE : aw_ext σ0 ad0 σ ad) {q : Nat} {H1 : Heap}
    (hP : va_P D vwCl (aw_ws cA ad σ d ++ [(q, .inl (cA t, a0))]) H1) (hD : va_D (fun q => base ≤ q) (aw_ws cA ad σ d ++ [(q, .inl (cA t, a0))])) (hS : va_S (fun q => base ≤ q) s.heap H1 locs) :
    ∃ (q1 : Nat) (σ1 : Sg) (d1 : Dt) (ad1 : Nat → Nat), ad1 q1 = q ∧ kf q1 σ1 d1 = some z ∧ (∀ k, k < σ.1 → ad1 k = ad k) ∧ aw_ext σ0 ad0 σ1 ad1 ∧ aw_G D cA base ad1 σ1 d1 s H1 locs := by
  have hext : ∀ k, k < σ.1 → (fun j => if j = σ.1 then q else ad j) k = ad k := fun k hk => if_neg (Nat.ne_of_lt hk)
  have e1 : aw_ws cA ad σ d ++ [(q, .inl (cA t, a0))] = aw_ws cA (fun j => if j = σ.1 then q else ad j) (aw_nw σ t N) (aw_zd σ d) := by
    refine aw_ws_app rfl (fun k hk => ⟨hext k hk, aw_e_ext hE.2.2 hext hk (by simp [aw_nw, Nat.ne_of_lt hk]) (fun j => by simp [aw_nw, Nat.ne_of_lt hk]) (fun j => by simp [aw_zd, Nat.not_le.mpr hk]) (fun j => by simp [aw_zd, Nat.not_le.mpr hk])⟩) ?_
    intro i hi2
    have hi0 : i = 0 := by simpa using hi2
    subst hi0
    have et : (aw_nw σ t N).2.1 (σ.1 + 0) = (t, N) := by simp [aw_nw]
    rw [aw_e_Y ht (show ((aw_nw σ t N).2.1 (σ.1 + 0)).1 = t by rw [et]), et, ha _ _ _ _ (fun j => by simp [aw_zd]) (fun j => by simp [aw_zd]) (fun j => by simp [aw_nw])]
    simp
  rw [e1] at hP hD
  exact ⟨σ.1, aw_nw σ t N, aw_zd σ d, fun j => if j = σ.1 then q else ad j, if_pos rfl, hf, hext, hE.trans ⟨Nat.le_succ _, hext, hE.2.2.nw⟩, G.1, G.2.1, hP, hD, hS⟩
theorem aw_a0i (N : Nat) (ad : Nat → Nat) (σ : Sg) (d : Dt) (k : Nat) (h : ∀ j, d.1 k j = 0) (_ : ∀ j, d.2 k j = 0) (_ : ∀ j, σ.2.2 k j = none) : aw_a ad σ d 20 k N = (N, .inl (fun _ => 0)) := by
  show (N, Sum.inl (d.1 k)) = _
  rw [show d.1 k = fun _ => 0 from funext h]
theorem aw_a0l (N : Nat) (ad : Nat → Nat) (σ : Sg) (d : Dt) (k : Nat) (_ : ∀ j, d.1 k j = 0) (h : ∀ j, d.2 k j = 0) (_ : ∀ j, σ.2.2 k j = none) : aw_a ad σ d 21 k N = (N, .inr (.inl (fun _ => 0))) := by
  show (N, Sum.inr (Sum.inl (d.2 k))) = _
  rw [show d.2 k = fun _ => 0 from funext h]
theorem aw_a0z (N : Nat) (ad : Nat → Nat) (σ : Sg) (d : Dt) (k : Nat) (h : ∀ j, d.1 k j = 0) (_ : ∀ j, d.2 k j = 0) (_ : ∀ j, σ.2.2 k j = none) : aw_a ad σ d 22 k N = (N, .inl (fun _ => 0)) := by
  show (N, Sum.inl (d.1 k)) = _
  rw [show d.1 k = fun _ => 0 from funext h]
theorem aw_a0q {t : Nat} (ht : 23 ≤ t) (N : Nat) (ad : Nat → Nat) (σ : Sg) (d : Dt) (k : Nat) (_ : ∀ j, d.1 k j = 0) (_ : ∀ j, d.2 k j = 0) (h : ∀ j, σ.2.2 k j = none) : aw_a ad σ d t k N = (N, .inr (.inr (.inr (.inr (fun _ => none))))) := by
  unfold aw_a
  split <;> first | omega | simp [h]
theorem aw_newA (X : aw_X p c cc nL s own m meth ret0) (G : aw_G D cA base ad σ d s H locs) (hE : aw_ext σ0 ad0 σ ad) {atype : ArrayType} {t : Nat} {ty : FieldType} (hty : newarray.typeOf atype = ty) (harr : Cond.arrayClass (newarray.typeOf atype) ∈ aw_tbl) (ht : 20 ≤ t) (htt : (aw_tys cA)[t - 20]? = some (cA t, ty)) (hra : ∀ (U : State) (q : ClassId), va_RA U q ty → U.vm.findClass ("[" ++ ty.toString) = some q) {n : Int32} {N : Nat} (hn : ¬ n < 0) (hN : n.toNatClampNeg = N) {a0 : vp_A} (ha0 : ∀ cA : ClassId, vp_cell cA a0 = arrV cA N (fun _ => defaultValue ty)) (ha : ∀ (ad : Nat → Nat) (σ : Sg) (d : Dt) (k : Nat), (∀ j, d.1 k j = 0) → (∀ j, d.2 k j = 0) → (∀ j, σ.2.2 k j = none) → aw_a ad σ d t k N = a0) (hby : N * componentBytes ty ≤ 536870912) (hcells : cells + 1 ≤ R.cells) (hslots : slots + N ≤ R.slots) {α : Type} {z : α} {kf : Nat → Sg → Dt → Option α} (hf : aw_new σ d t N kf = some z) (hdg : decode cc pc = .ok (.newarray atype, 2))
    (kk : ∀ (q1 : Nat) (σ1 : Sg) (d1 : Dt) (ad1 : Nat → Nat) (H1 : Heap), kf q1 σ1 d1 = some z → (∀ k, k < σ.1 → ad1 k = ad k) → aw_ext σ0 ad0 σ1 ad1 → aw_G D cA base ad1 σ1 d1 s H1 locs → W p l e R s m args below meth c H1 locs (cells + 1) (slots + N) Q (F0 m (pc + 2) ls (.ref (ad1 q1) :: rest))) : W p l e R s m args below meth c H locs cells slots Q (F0 m pc ls (.int n :: rest)) :=
  va_newa X.1 X.2.1 (G.1.hts _ harr) hty G.2.1 G.2.2.1 G.2.2.2.1 G.2.2.2.2 (aw_hA G) ha0 hn hN hby hcells hslots hdg (fun q cA9 H1 hK hP hD hS => by
    have h1 := hra s _ (hK.2 (aw_tys cA).length (cA9, ty) (by simp)).2
    have h2 := hra s _ (G.2.1.2 _ _ htt).2
    have h3 : cA9 = cA t := Option.some.inj (h1.symm.trans h2)
    subst h3
    obtain ⟨q1, σ1, d1, ad1, e1, e2, e3, e4, e5⟩ := aw_mkA G ht ha hf hE hP hD hS
    rw [← e1]
    exact kk q1 σ1 d1 ad1 H1 e2 e3 e4 e5)
theorem aw_newQ (X : aw_X p c cc nL s own m meth ret0) (G : aw_G D cA base ad σ d s H locs) (hE : aw_ext σ0 ad0 σ ad) {C : String} {t : Nat} (hcl : Cond.classLink own index C ∈ aw_tbl) (hover : va_AO C s) (ht : 23 ≤ t) (htt : (aw_tys cA)[t - 20]? = some (cA t, .object C)) {n : Int32} {N : Nat} (hn : ¬ n < 0) (hN : n.toNatClampNeg = N) (hby : N * 4 ≤ 536870912) (hcells : cells + 1 ≤ R.cells) (hslots : slots + N ≤ R.slots) {α : Type} {z : α} {kf : Nat → Sg → Dt → Option α} (hf : aw_new σ d t N kf = some z) (hdg : decode cc pc = .ok (.anewarray index, 3))
    (kk : ∀ (q1 : Nat) (σ1 : Sg) (d1 : Dt) (ad1 : Nat → Nat) (H1 : Heap), kf q1 σ1 d1 = some z → (∀ k, k < σ.1 → ad1 k = ad k) → aw_ext σ0 ad0 σ1 ad1 → aw_G D cA base ad1 σ1 d1 s H1 locs → W p l e R s m args below meth c H1 locs (cells + 1) (slots + N) Q (F0 m (pc + 3) ls (.ref (ad1 q1) :: rest))) : W p l e R s m args below meth c H locs cells slots Q (F0 m pc ls (.int n :: rest)) :=
  va_newq X.1 X.2.1 X.2.2.2.1 (G.1.hts _ hcl) hover G.2.1 G.2.2.1 G.2.2.2.1 G.2.2.2.2 (aw_hA G) hn hN hby hcells hslots hdg (fun q cA9 H1 hK hP hD hS => by
    obtain ⟨k1, p1, -, -, -, h1⟩ := (hK.2 (aw_tys cA).length (cA9, .object C) (by simp)).2
    obtain ⟨k2, p2, -, -, -, h2⟩ := (G.2.1.2 _ _ htt).2
    have h3 : cA9 = cA t := Option.some.inj (h1.symm.trans h2)
    subst h3
    obtain ⟨q1, σ1, d1, ad1, e1, e2, e3, e4, e5⟩ := aw_mkA G (Nat.le_trans (by decide) ht) (fun ad σ d k => aw_a0q ht N ad σ d k) hf hE hP hD hS
    rw [← e1]
    exact kk q1 σ1 d1 ad1 H1 e2 e3 e4 e5)
theorem aw_newM (X : aw_X p c cc nL s own m meth ret0) (G : aw_G D cA base ad σ d s H locs) (hE : aw_ext σ0 ad0 σ ad) {ty : FieldType} {t t2 : Nat} (hcl : Cond.classLink own index ("[" ++ (FieldType.array ty).toString) ∈ aw_tbl) (hover : va_AOA ty s) (harr : Cond.arrayClass ty ∈ aw_tbl) (hcy : (FieldType.array ty).toString = "[" ++ ty.toString) (hra : ∀ (U : State) (q : ClassId), va_RA U q ty → U.vm.findClass ("[" ++ ty.toString) = some q) (ht : 23 ≤ t) (htt : (aw_tys cA)[t - 20]? = some (cA t, .array ty)) (ht2 : 20 ≤ t2) (htt2 : (aw_tys cA)[t2 - 20]? = some (cA t2, ty)) {n k : Int32} {N K : Nat} {a0 : vp_A} (hn : ¬ n < 0) (hk : ¬ k < 0) (hN : n.toNatClampNeg = N) (hKk : k.toNatClampNeg = K) (hb1 : N * 4 ≤ 536870912) (hb2 : K * componentBytes ty ≤ 536870912) (hb3 : K ≤ 536870912) (hdf : fits ty (defaultValue ty) = true) (hdd : (defaultValue ty).isDefault = true)
    (ha0 : ∀ c : ClassId, Jvm.Free.Multi.innerC c K (defaultValue ty) = vp_cell c a0) (ha : ∀ (ad : Nat → Nat) (σ : Sg) (d : Dt) (k : Nat), (∀ j, d.1 k j = 0) → (∀ j, d.2 k j = 0) → (∀ j, σ.2.2 k j = none) → aw_a ad σ d t2 k K = a0) (hcells : cells + (1 + N) ≤ R.cells) (hslots : slots + (N + N * K) ≤ R.slots) {α : Type} {z : α} {kf : Nat → Sg → Dt → Option α} (hf : aw_new2 σ d t N t2 K kf = some z) (hdg : decode cc pc = .ok (.multianewarray index 2, 4))
    (kk : ∀ (q1 : Nat) (σ1 : Sg) (d1 : Dt) (ad1 : Nat → Nat) (H1 : Heap), kf q1 σ1 d1 = some z → (∀ k, k < σ.1 → ad1 k = ad k) → aw_ext σ0 ad0 σ1 ad1 → aw_G D cA base ad1 σ1 d1 s H1 locs → W p l e R s m args below meth c H1 locs (cells + 1 + N) (slots + N + N * K) Q (F0 m (pc + 4) ls (.ref (ad1 q1) :: rest))) : W p l e R s m args below meth c H locs cells slots Q (F0 m pc ls (.int k :: .int n :: rest)) := by
  have hnil : aw_ws cA ad σ d ++ va_pl [] (fun _ => .inr (0, [])) = aw_ws cA ad σ d := List.append_nil _
  refine va_mna (X := aw_ws cA ad σ d) (L := []) (f := fun _ => .inr (0, [])) (z := a0) X.1 X.2.1 X.2.2.2.1 (G.1.hts _ hcl) hover (G.1.hts _ harr) (cy := cA t2) (by rw [hcy]; exact hra s _ (G.2.1.2 _ _ htt2).2) G.2.1 (by rw [hnil]; exact G.2.2.1) (by rw [hnil]; exact G.2.2.2.1) G.2.2.2.2 (aw_hA G) hn hk hN hKk hb1 hb2 hb3 hdf hdd hcells hslots ha0 hdg ?_
  intro q r cA9 H1 hinj _ hK hP hD hS
  have h1 : s.vm.findClass ("[" ++ (FieldType.array ty).toString) = some cA9 := (hK.2 (aw_tys cA).length (cA9, .array ty) (by simp)).2
  have h2 : s.vm.findClass ("[" ++ (FieldType.array ty).toString) = some (cA t) := (G.2.1.2 _ _ htt).2
  have h3 : cA9 = cA t := Option.some.inj (h1.symm.trans h2)
  subst h3
  obtain ⟨ad1, had⟩ : ∃ ad1 : Nat → Nat, ad1 = fun j => if j = σ.1 then q else if σ.1 < j then r (j - σ.1 - 1) else ad j := ⟨_, rfl⟩
  have hext : ∀ k, k < σ.1 → ad1 k = ad k := fun k hk => by rw [had]; simp [Nat.ne_of_lt hk, Nat.not_lt.mpr (Nat.le_of_lt hk)]
  have e1 : (aw_ws cA ad σ d ++ [(q, .inl (cA t, N, .inr (.inr (.inr (.inr (fun i => if i < N then some (r i) else none))))))]) ++ va_pl ([] ++ (List.range N).map r) (vr_up (fun _ => .inr (0, [])) ((List.range N).map r) (.inl (cA t2, a0))) = aw_ws cA ad1 (aw_nm σ t N t2 K) (aw_zd σ d) := by
    rw [List.append_assoc]
    refine aw_ws_app (by simp [aw_nm, va_pl]; omega) (fun k hk => ⟨hext k hk, aw_e_ext hE.2.2 hext hk (by simp [aw_nm, Nat.ne_of_lt hk, Nat.not_lt.mpr (Nat.le_of_lt hk)]) (fun j => by simp [aw_nm, Nat.ne_of_lt hk, Nat.not_lt.mpr (Nat.le_of_lt hk)]) (fun j => by simp [aw_zd, Nat.not_le.mpr hk]) (fun j => by simp [aw_zd, Nat.not_le.mpr hk])⟩) ?_
    intro i hi2
    cases i with
    | zero =>
      have et : (aw_nm σ t N t2 K).2.1 (σ.1 + 0) = (t, N) := by simp [aw_nm]
      rw [aw_e_Y (Nat.le_trans (by decide) ht) (show ((aw_nm σ t N t2 K).2.1 (σ.1 + 0)).1 = t by rw [et]), et]
      have e3 : aw_a ad1 (aw_nm σ t N t2 K) (aw_zd σ d) t (σ.1 + 0) N = (N, .inr (.inr (.inr (.inr (fun i => if i < N then some (r i) else none))))) := by
        have e4 : (fun j => ((aw_nm σ t N t2 K).2.2 (σ.1 + 0) j).map ad1) = fun i => if i < N then some (r i) else none := by
          funext j
          by_cases hj : j < N
          · simp only [aw_nm, Nat.add_zero, if_true, hj, Option.map_some, had]
            rw [if_neg (by omega), if_pos (by omega), show σ.1 + 1 + j - σ.1 - 1 = j by omega]
          · simp [aw_nm, hj]
        unfold aw_a
        split <;> first | omega | rw [e4]
      rw [e3]
      simp [had]
    | succ i =>
      have hiN : i < N := by simpa [va_pl] using hi2
      have et : (aw_nm σ t N t2 K).2.1 (σ.1 + (i + 1)) = (t2, K) := by simp [aw_nm]
      rw [aw_e_Y ht2 (show ((aw_nm σ t N t2 K).2.1 (σ.1 + (i + 1))).1 = t2 by rw [et]), et, ha _ _ _ _ (fun j => by simp [aw_zd]) (fun j => by simp [aw_zd]) (fun j => by simp [aw_nm])]
      have e5 : ad1 (σ.1 + (i + 1)) = r i := by
        rw [had]
        show (if σ.1 + (i + 1) = σ.1 then q else if σ.1 < σ.1 + (i + 1) then r (σ.1 + (i + 1) - σ.1 - 1) else ad (σ.1 + (i + 1))) = r i
        rw [if_neg (by omega), if_pos (by omega), show σ.1 + (i + 1) - σ.1 - 1 = i by omega]
      rw [e5]
      have e6 : vr_up (fun _ => (.inr (0, []) : va_E)) ((List.range N).map r) (.inl (cA t2, a0)) (r i) = .inl (cA t2, a0) := vr_up_in (List.mem_map.mpr ⟨i, List.mem_range.mpr hiN, rfl⟩)
      simp [va_pl, e6]
  rw [e1] at hP hD
  have e7 : ad1 σ.1 = q := by rw [had]; exact if_pos rfl
  rw [← e7]
  exact kk σ.1 (aw_nm σ t N t2 K) (aw_zd σ d) ad1 H1 hf hext (hE.trans ⟨by simp [aw_nm]; omega, hext, hE.2.2.nm⟩) ⟨G.1, G.2.1, hP, hD, hS⟩
theorem aw_objI (X : aw_X p c cc nL s own m meth ret0) (G : aw_G D cA base ad σ d s H locs) (hl : ls.size = nL) {a : Nat} (h1 : Cond.methodLink own index Lib.objectInit ∈ aw_tbl) (h2 : Cond.instanceMethod Lib.objectInit ∈ aw_tbl) (h3 : Cond.code Lib.objectInit ⟨#[0xb1]⟩ 1 none ∈ aw_tbl) (hR : 1 ≤ R.frames ∧ (rest.map fun v => v.category).sum + 12 ≤ R.locals) (hdg : decode cc pc = .ok (.invokespecial index, 3))
    (kk : W p l e R s m args below meth c H locs cells slots Q (F0 m (pc + 3) ls rest)) : W p l e R s m args below meth c H locs cells slots Q (F0 m pc ls (.ref a :: rest)) :=
  W.objInit (g := F0 m pc ls (.ref a :: rest)) X.1 X.2.1 X.2.2.2.1 (G.1.hts _ h1) (G.1.hts _ h2) (G.1.hts _ h3) rfl (hl.trans X.2.2.1.symm) rfl hdg hR.1 (by show 2 * 0 + _ + 12 ≤ _; omega) kk
theorem aw_qas (X : aw_X p c cc nL s own m meth ret0) (G : aw_G D cA base ad σ d s H locs) (hE : aw_ext σ0 ad0 σ ad) (t ci N : Nat) (r : vw_C) (ht : 23 ≤ t) (htt : (aw_tys cA)[t - 20]? = some (cA t, .object r.1)) (hi : ci < 20) (hc : vwCl[ci]? = some r) {k v : Nat} {i : Int32} (hk : aw_I σ t k i) (hv : aw_O σ ci N v) {α : Type} {z : α} {kf : Sg → Option α} (hf : aw_let (aw_sR σ k i.toNatClampNeg v) kf = some z) (hdg : decode cc pc = .ok (.aastore, 1))
    (kk : ∀ (σ1 : Sg) (H1 : Heap) (locs1 : List Loc), kf σ1 = some z → aw_ext σ0 ad0 σ1 ad → aw_G D cA base ad σ1 d s H1 locs1 → W p l e R s m args below meth c H1 locs1 cells slots Q (F0 m (pc + 1) ls rest)) : W p l e R s m args below meth c H locs cells slots Q (F0 m pc ls (.ref (ad v) :: .int i :: .ref (ad k) :: rest)) := by
  have he : ∀ (σ : Sg), aw_a ad σ d t k (σ.2.1 k).2 = ((σ.2.1 k).2, .inr (.inr (.inr (.inr (fun j => (σ.2.2 k j).map ad))))) := by
    intro σ
    unfold aw_a
    split <;> first | omega | rfl
  refine va_astq (ci := ci) (q0 := k) (t0 := t - 20) (qk := v) (r := r) (vs := aw_fs ad σ d ci v N) (n := (σ.2.1 k).2) (f := fun j => (σ.2.2 k j).map ad) (cA := cA t) X.1 X.2.1 G.2.1 G.2.2.1 G.2.2.2.1 G.2.2.2.2 ((aw_get hk.1).trans (by rw [aw_e_Y (Nat.le_trans (by decide) ht) hk.2.1, he])) htt ((aw_get hv.1).trans (by rw [aw_e_O hi hv])) hc hk.2.2 hdg (fun H1 locs1 hP hD hS => ?_)
  refine kk (aw_sR σ k i.toNatClampNeg v) H1 locs1 hf ⟨hE.1, hE.2.1, hE.2.2.sR hv.1⟩ (aw_arrS G (Nat.le_trans (by decide) ht) hk.2.1 rfl rfl ?_ aw_e_sR hP hD hS)
  have e1 : aw_a ad (aw_sR σ k i.toNatClampNeg v) d t k (σ.2.1 k).2 = ((σ.2.1 k).2, .inr (.inr (.inr (.inr (fun j => ((aw_sR σ k i.toNatClampNeg v).2.2 k j).map ad))))) := by
    unfold aw_a
    split <;> first | omega | rfl
  rw [e1]
  congr 6
  funext j
  by_cases hj : j = i.toNatClampNeg <;> simp [aw_sR, va_up, hj]
def aw_LI (own : String) (idx : Nat) (y : MethodName) (n : Nat) (w : Cond) : Prop := (Cond.methodLink own idx y ∈ aw_tbl ∧ Cond.instanceMethod y ∈ aw_tbl ∧ Cond.initialized y.cls ∈ aw_tbl ∧ w ∈ aw_tbl) ∧ y.name = "<init>" ∧ (y.cls ≠ "java/lang/invoke/MethodHandle" ∧ y.cls ≠ "java/lang/invoke/VarHandle" ∧ (parseMethodDescriptor y.desc).map (fun d => d.parameters.length) = some n)
def aw_LIN (own : String) (idx : Nat) (y : MethodName) (host : String) (n : Nat) (w : Cond) : Prop := (Cond.methodLinkNest own idx y host ∈ aw_tbl ∧ Cond.instanceMethod y ∈ aw_tbl ∧ Cond.initialized y.cls ∈ aw_tbl ∧ w ∈ aw_tbl) ∧ y.name = "<init>" ∧ (y.cls ≠ "java/lang/invoke/MethodHandle" ∧ y.cls ≠ "java/lang/invoke/VarHandle" ∧ (parseMethodDescriptor y.desc).map (fun d => d.parameters.length) = some n)
theorem aw_afterN {σ1 : Sg} {d1 : Dt} {ad1 : Nat → Nat} {t : State} {H1 : Heap} {locs1 : List Loc} (G : aw_G D cA base ad σ d s H locs) (ht : t.heap = H1) (h : aw_B D cA base ad1 σ1 d1 t) (hS : va_S (fun q => base ≤ q) s.heap H1 locs1) : aw_G D cA base ad1 σ1 d1 s H1 locs1 := by
  obtain ⟨h1, h2⟩ := h
  rw [ht] at h1
  exact ⟨G.1, G.2.1, h1, h2, hS⟩
theorem aw_IN (X : aw_X p c cc nL s own m meth ret0) (G : aw_G D cA base ad σ d s H locs) (hE : aw_ext σ0 ad0 σ ad) (hl : ls.size = nL) (L : aw_LI own index y n (.code y bytes maxL none)) {z : Sg × Dt} (hM : aw_Nv l y (.code y bytes maxL none) rm as σ d z) (has : as ad = .ref (ad k) :: As) (hn : As.length = n) (hst : st0 = As.reverse ++ .ref (ad k) :: rest) (hR : rm.frames + 1 ≤ R.frames ∧ 8 + (maxL + 11) + rm.locals ≤ R.locals) (hro : (rest.map fun v => v.category).sum ≤ 8) (hdg : decode cc pc = .ok (.invokespecial index, 3)) (hf : cells + rm.cells ≤ R.cells ∧ slots + rm.slots ≤ R.slots)
    (kk : ∀ (ad1 : Nat → Nat) (H1 : Heap) (locs1 : List Loc), (∀ k, k < σ.1 → ad1 k = ad k) → aw_ext σ0 ad0 z.1 ad1 → aw_G D cA base ad1 z.1 z.2 s H1 locs1 → W p l e R s m args below meth c H1 locs1 (cells + rm.cells) (slots + rm.slots) Q (F0 m (pc + 3) ls rest)) : W p l e R s m args below meth c H locs cells slots Q (F0 m pc ls st0) :=
  va_callv (va_runI (As := As) (b := ad k) (rest := rest) ⟨X.1, X.2.1, X.2.2.1, X.2.2.2.1, G.1.hts⟩ (hM hE.2.2 D cA base ad) ⟨callB_of n G.1.hts (fun w hw => by rw [List.mem_singleton.mp hw]; exact aw_good L.1.2.2.2 rfl) rfl rfl rfl (G.1.hts _ L.1.2.2.1) (G.1.hts _ L.1.1) L.2.2 hR, L.2.1, G.1.hts _ L.1.2.1⟩ (aw_preS G has) rfl hn hl hst (lv_room hro) hdg hf) G.2.2.2.2 (fun q _ h => h) (fun q h => h) (fun u t H1 locs1 ht hvm hr hB hz1 hk1 hS =>
    kk u H1 locs1 hr.2.1 (hE.trans hr) (aw_afterN G ht hB hS))
theorem aw_INN (X : aw_X p c cc nL s own m meth ret0) (G : aw_G D cA base ad σ d s H locs) (hE : aw_ext σ0 ad0 σ ad) (hl : ls.size = nL) (L : aw_LIN own index y host n (.code y bytes maxL none)) {z : Sg × Dt} (hM : aw_Nv l y (.code y bytes maxL none) rm as σ d z) (has : as ad = .ref (ad k) :: As) (hn : As.length = n) (hst : st0 = As.reverse ++ .ref (ad k) :: rest) (hR : rm.frames + 1 ≤ R.frames ∧ 8 + (maxL + 11) + rm.locals ≤ R.locals) (hro : (rest.map fun v => v.category).sum ≤ 8) (hdg : decode cc pc = .ok (.invokespecial index, 3)) (hf : cells + rm.cells ≤ R.cells ∧ slots + rm.slots ≤ R.slots)
    (kk : ∀ (ad1 : Nat → Nat) (H1 : Heap) (locs1 : List Loc), (∀ k, k < σ.1 → ad1 k = ad k) → aw_ext σ0 ad0 z.1 ad1 → aw_G D cA base ad1 z.1 z.2 s H1 locs1 → W p l e R s m args below meth c H1 locs1 (cells + rm.cells) (slots + rm.slots) Q (F0 m (pc + 3) ls rest)) : W p l e R s m args below meth c H locs cells slots Q (F0 m pc ls st0) :=
  va_callv (va_runIN (As := As) (b := ad k) (rest := rest) ⟨X.1, X.2.1, X.2.2.1, X.2.2.2.1, G.1.hts⟩ (hM hE.2.2 D cA base ad) ⟨va_cnB n (G.1.hts (args := args)) (fun w hw => by rw [List.mem_singleton.mp hw]; exact aw_good L.1.2.2.2 rfl) rfl rfl rfl (G.1.1 _ L.1.1) (G.1.hts _ L.1.2.2.1) L.2.2 hR, L.2.1, G.1.hts _ L.1.2.1⟩ (aw_preS G has) rfl hn hl hst (lv_room hro) hdg hf) G.2.2.2.2 (fun q _ h => h) (fun q h => h) (fun u t H1 locs1 ht hvm hr hB hz1 hk1 hS =>
    kk u H1 locs1 hr.2.1 (hE.trans hr) (aw_afterN G ht hB hS))
abbrev aw_En (D : va_G) (cA : Nat → ClassId) (base : Nat) (ad0 : Nat → Nat) (σ0 : Sg) (below : List Frame) (args : Array Value) (s : State) (mc ms : Nat) (z : Sg × Dt) : State → Prop := MQ below (va_Qv (fun ad' : Nat → Nat => aw_ext σ0 ad0 z.1 ad') (fun ad' => aw_B D cA base ad' z.1 z.2) (fun q => base ≤ q)) args s mc ms (fun q => base ≤ q)
theorem aw_retn (X : aw_X p c cc nL s own m meth none) (G : aw_G D cA base ad σ d s H locs) (hE : aw_ext σ0 ad0 σ ad) {z : Sg × Dt} (hf : some (σ, d) = some z) (hdg : decode cc pc = .ok (.return_, 1)) (hc : cells ≤ mc) (hs : slots ≤ ms) : W p l e R s m args below meth c H locs cells slots (aw_En D cA base ad0 σ0 below args s mc ms z) (F0 m pc ls []) := by
  cases hf
  exact W.widen hc hs (W.vret X.1 X.2.1 X.2.2.2.2.1 (fun t ht _ => ⟨⟨ad, rfl, hE, G.post ht⟩, G.2.2.2.2.F ht⟩) G.2.2.2.2.2.2 hdg X.2.2.2.2.2)
theorem aw_ext.rf (h : aw_wf σ) : aw_ext σ ad σ ad := ⟨Nat.le_refl _, fun _ _ => rfl, h⟩
end AWN
