/-! THE LAW'S OWN METHODS: calls between them, calls of the class that must not throw, the script, rows that are forgotten -/
def aw_nt {V α : Type} (z : (Nat ⊕ V) × Dt) (k : V → Option α) : Option α := match z.1 with
  | .inl _ => none
  | .inr v => k v
theorem aw_nt_some {V α : Type} {z : (Nat ⊕ V) × Dt} {k : V → Option α} {r : α} (h : aw_nt z k = some r) : ∃ v, z.1 = .inr v ∧ k v = some r := by
  unfold aw_nt at h
  cases e : z.1 with
  | inl e0 => rw [e] at h; cases h
  | inr v => rw [e] at h; exact ⟨v, rfl, h⟩
/-- a heap that began with another one -/
def aw_pr (σ σ' : Sg) : Prop := ∀ k, k < σ.1 → σ'.2.1 k = σ.2.1 k ∧ ∀ j, σ'.2.2 k j = σ.2.2 k j
theorem aw_pr.rf {σ : Sg} : aw_pr σ σ := fun _ _ => ⟨rfl, fun _ => rfl⟩
def aw_exr (σ : Sg) (ad : Nat → Nat) (σ' : Sg) (ad' : Nat → Nat) : Prop := aw_ext σ ad σ' ad' ∧ aw_pr σ σ'
/-- what part finds: the script too -/
def aw_WX (D : va_G) (cA : Nat → ClassId) (base : Nat) (ad : Nat → Nat) (σ : Sg) (d : Dt) (b L : Nat) (xs : Nat → Int32) (U : State) : Prop := aw_W D cA base ad σ d U ∧ va_X b L xs U U.heap ∧ b < base
theorem aw_blindX {D cA base ad σ d} {b L : Nat} {xs : Nat → Int32} {av : List Value} : FrameBlind (va_Pc av (aw_WX D cA base ad σ d b L xs)) := fun a U g mk q => by
  have h1 := aw_blind (D := D) (cA := cA) (base := base) (ad := ad) (σ := σ) (d := d) (av := av) a U g mk ⟨q.1, q.2.1⟩
  have hW : U.WarmedH (U.calling g mk a).vm := State.WarmedH.refl U
  exact ⟨h1.1, h1.2, q.2.2.1.moved hW.alike, q.2.2.2⟩
def aw_Mp (l : Launch) (y : MethodName) (w : Cond) (rm : Room) (b L : Nat) (xs : Nat → Int32) (as : List Value) (σ : Sg) (d : Dt) (z : Int32 × Dt) : Prop := ∀ D cA base ad, Met l y [w] rm (va_Pc as (aw_WX D cA base ad σ d b L xs)) (va_Qi (fun r (_ : Unit) => r = z.1) (fun _ => aw_B D cA base ad σ z.2) (fun q => base ≤ q)) 0 0 (fun q => base ≤ q)
section AWL
variable {p : Program} {l : Launch} {e : Env} {R : Room} {s : State} {m : MethodId} {args : Array Value} {below : List Frame} {meth : Method} {c : Code} {H : Heap} {locs : List Loc} {cells slots : Nat} {Q : State → Prop}
variable {cc : ByteArray} {pc nL : Nat} {ls : Array Slot} {rest st0 : List Value} {D : va_G} {cA : Nat → ClassId} {base : Nat} {ad : Nat → Nat} {σ : Sg} {d : Dt}
variable {own C host : String} {index n maxL ci N mc ms : Nat} {y : MethodName} {bytes : ByteArray} {ret : Option FieldType} {rm : Room} {as : (Nat → Nat) → List Value} {As : List Value} {k : Nat} {T : u_T} {ret0 : Option FieldType} {σ0 : Sg} {ad0 : Nat → Nat} {hh : List (Nat × Nat × Nat × Nat)}
/-- a call of a method of the class that doesn't throw this time -/
theorem aw_CXI (X : aw_X p c cc nL s own m meth ret0) (G : aw_G D cA base ad σ d s H locs) (hl : ls.size = nL) (L : aw_LV own index C y n (.code y bytes maxL ret)) {z : (Nat ⊕ Int32) × Dt} (hM : aw_Xi l y (.code y bytes maxL ret) rm as σ d z) (has : as ad = .ref (ad k) :: As) (hn : As.length = n) (hc : vwCl[ci]? = some (C, T, N)) (hi : ci < 20) (hk : aw_O σ ci N k) (hst : st0 = As.reverse ++ .ref (ad k) :: rest) (hR : rm.frames + 1 ≤ R.frames ∧ 8 + (maxL + 11) + rm.locals ≤ R.locals) (hro : (rest.map fun v => v.category).sum ≤ 8) (hdg : decode cc pc = .ok (.invokevirtual index, 3)) (c1 s1 : Nat) (hm : rm.cells ≤ c1 ∧ rm.slots ≤ s1) (hf : cells + c1 ≤ R.cells ∧ slots + s1 ≤ R.slots) {v : Int32} (hz : z.1 = .inr v)
    (kk : ∀ H locs, aw_G D cA base ad σ z.2 s H locs → W p l e R s m args below meth c H locs (cells + c1) (slots + s1) Q (F0 m (pc + 3) ls (.int v :: rest))) : W p l e R s m args below meth c H locs cells slots Q (F0 m pc ls st0) :=
  aw_CVI X G hl L hM has hn hc hi hk hst hR hro hdg ⟨Nat.le_trans (Nat.add_le_add_left hm.1 _) hf.1, Nat.le_trans (Nat.add_le_add_left hm.2 _) hf.2⟩ (fun e0 ce q9 H locs he => by rw [he] at hz; cases hz) (fun v' H locs hv G => by
    have e : v' = v := Sum.inr.inj (hv.symm.trans hz)
    subst e
    exact W.widen (Nat.add_le_add_left hm.1 _) (Nat.add_le_add_left hm.2 _) (kk H locs G))
theorem aw_CXL (X : aw_X p c cc nL s own m meth ret0) (G : aw_G D cA base ad σ d s H locs) (hl : ls.size = nL) (L : aw_LV own index C y n (.code y bytes maxL ret)) {z : (Nat ⊕ Int64) × Dt} (hM : aw_Xl l y (.code y bytes maxL ret) rm as σ d z) (has : as ad = .ref (ad k) :: As) (hn : As.length = n) (hc : vwCl[ci]? = some (C, T, N)) (hi : ci < 20) (hk : aw_O σ ci N k) (hst : st0 = As.reverse ++ .ref (ad k) :: rest) (hR : rm.frames + 1 ≤ R.frames ∧ 8 + (maxL + 11) + rm.locals ≤ R.locals) (hro : (rest.map fun v => v.category).sum ≤ 8) (hdg : decode cc pc = .ok (.invokevirtual index, 3)) (c1 s1 : Nat) (hm : rm.cells ≤ c1 ∧ rm.slots ≤ s1) (hf : cells + c1 ≤ R.cells ∧ slots + s1 ≤ R.slots) {v : Int64} (hz : z.1 = .inr v)
    (kk : ∀ H locs, aw_G D cA base ad σ z.2 s H locs → W p l e R s m args below meth c H locs (cells + c1) (slots + s1) Q (F0 m (pc + 3) ls (.long v :: rest))) : W p l e R s m args below meth c H locs cells slots Q (F0 m pc ls st0) :=
  aw_CVL X G hl L hM has hn hc hi hk hst hR hro hdg ⟨Nat.le_trans (Nat.add_le_add_left hm.1 _) hf.1, Nat.le_trans (Nat.add_le_add_left hm.2 _) hf.2⟩ (fun e0 ce q9 H locs he => by rw [he] at hz; cases hz) (fun v' H locs hv G => by
    have e : v' = v := Sum.inr.inj (hv.symm.trans hz)
    subst e
    exact W.widen (Nat.add_le_add_left hm.1 _) (Nat.add_le_add_left hm.2 _) (kk H locs G))
/-- static calls: a long; with cells -/
theorem aw_SL (X : aw_X p c cc nL s own m meth ret0) (G : aw_G D cA base ad σ d s H locs) (hl : ls.size = nL) (L : aw_LS own index y n (.code y bytes maxL ret)) {z : Int64 × Dt} (hM : aw_Ml l y (.code y bytes maxL ret) rm as σ d z) (hz : rm.cells = 0 ∧ rm.slots = 0) (has : as ad = As) (hn : As.length = n) (hst : st0 = As.reverse ++ rest) (hR : rm.frames + 1 ≤ R.frames ∧ 8 + (maxL + 11) + rm.locals ≤ R.locals) (hro : (rest.map fun v => v.category).sum ≤ 8) (hdg : decode cc pc = .ok (.invokestatic index, 3)) (hf : cells ≤ R.cells ∧ slots ≤ R.slots)
    (kk : ∀ H locs, aw_G D cA base ad σ z.2 s H locs → W p l e R s m args below meth c H locs cells slots Q (F0 m (pc + 3) ls (.long z.1 :: rest))) : W p l e R s m args below meth c H locs cells slots Q (F0 m pc ls st0) :=
  va_calll (va_runS (As := As) (rest := rest) ⟨X.1, X.2.1, X.2.2.1, X.2.2.2.1, G.1.hts⟩ (hM D cA base ad) (aw_cs G.1 L hR) (aw_preS G has) rfl hn hl hst (lv_room hro) hdg (by rw [hz.1, hz.2]; exact hf)) G.2.2.2.2 (fun q _ h => h) (fun q h => h) (fun r u t H1 locs1 ht hvm hr hB hz1 hk1 hS => by
    rw [hr, hz.1, hz.2]
    exact kk H1 locs1 (aw_after G ht hB hS))
theorem aw_TI (X : aw_X p c cc nL s own m meth ret0) (G : aw_G D cA base ad σ d s H locs) (hl : ls.size = nL) (L : aw_LS own index y n (.code y bytes maxL ret)) {z : Int32 × Dt} (hM : aw_Mi l y (.code y bytes maxL ret) rm as σ d z) (has : as ad = As) (hn : As.length = n) (hst : st0 = As.reverse ++ rest) (hR : rm.frames + 1 ≤ R.frames ∧ 8 + (maxL + 11) + rm.locals ≤ R.locals) (hro : (rest.map fun v => v.category).sum ≤ 8) (hdg : decode cc pc = .ok (.invokestatic index, 3)) (c1 s1 : Nat) (hm : rm.cells ≤ c1 ∧ rm.slots ≤ s1) (hf : cells + c1 ≤ R.cells ∧ slots + s1 ≤ R.slots)
    (kk : ∀ H locs, aw_G D cA base ad σ z.2 s H locs → W p l e R s m args below meth c H locs (cells + c1) (slots + s1) Q (F0 m (pc + 3) ls (.int z.1 :: rest))) : W p l e R s m args below meth c H locs cells slots Q (F0 m pc ls st0) :=
  va_calli (va_runS (As := As) (rest := rest) ⟨X.1, X.2.1, X.2.2.1, X.2.2.2.1, G.1.hts⟩ (hM D cA base ad) (aw_cs G.1 L hR) (aw_preS G has) rfl hn hl hst (lv_room hro) hdg ⟨Nat.le_trans (Nat.add_le_add_left hm.1 _) hf.1, Nat.le_trans (Nat.add_le_add_left hm.2 _) hf.2⟩) G.2.2.2.2 (fun q _ h => h) (fun q h => h) (fun r u t H1 locs1 ht hvm hr hB hz1 hk1 hS => by
    rw [hr]
    exact W.widen (Nat.add_le_add_left hm.1 _) (Nat.add_le_add_left hm.2 _) (kk H1 locs1 (aw_after G ht hB hS)))
theorem aw_TL (X : aw_X p c cc nL s own m meth ret0) (G : aw_G D cA base ad σ d s H locs) (hl : ls.size = nL) (L : aw_LS own index y n (.code y bytes maxL ret)) {z : Int64 × Dt} (hM : aw_Ml l y (.code y bytes maxL ret) rm as σ d z) (has : as ad = As) (hn : As.length = n) (hst : st0 = As.reverse ++ rest) (hR : rm.frames + 1 ≤ R.frames ∧ 8 + (maxL + 11) + rm.locals ≤ R.locals) (hro : (rest.map fun v => v.category).sum ≤ 8) (hdg : decode cc pc = .ok (.invokestatic index, 3)) (c1 s1 : Nat) (hm : rm.cells ≤ c1 ∧ rm.slots ≤ s1) (hf : cells + c1 ≤ R.cells ∧ slots + s1 ≤ R.slots)
    (kk : ∀ H locs, aw_G D cA base ad σ z.2 s H locs → W p l e R s m args below meth c H locs (cells + c1) (slots + s1) Q (F0 m (pc + 3) ls (.long z.1 :: rest))) : W p l e R s m args below meth c H locs cells slots Q (F0 m pc ls st0) :=
  va_calll (va_runS (As := As) (rest := rest) ⟨X.1, X.2.1, X.2.2.1, X.2.2.2.1, G.1.hts⟩ (hM D cA base ad) (aw_cs G.1 L hR) (aw_preS G has) rfl hn hl hst (lv_room hro) hdg ⟨Nat.le_trans (Nat.add_le_add_left hm.1 _) hf.1, Nat.le_trans (Nat.add_le_add_left hm.2 _) hf.2⟩) G.2.2.2.2 (fun q _ h => h) (fun q h => h) (fun r u t H1 locs1 ht hvm hr hB hz1 hk1 hS => by
    rw [hr]
    exact W.widen (Nat.add_le_add_left hm.1 _) (Nat.add_le_add_left hm.2 _) (kk H1 locs1 (aw_after G ht hB hS)))
theorem aw_TD (X : aw_X p c cc nL s own m meth ret0) (G : aw_G D cA base ad σ d s H locs) (hE : aw_ext σ0 ad0 σ ad) (hl : ls.size = nL) (L : aw_LS own index y n (.code y bytes maxL ret)) {z : Int32 × (Sg × Dt)} (hM : aw_Md l y (.code y bytes maxL ret) rm as σ d z) (has : as ad = As) (hn : As.length = n) (hst : st0 = As.reverse ++ rest) (hR : rm.frames + 1 ≤ R.frames ∧ 8 + (maxL + 11) + rm.locals ≤ R.locals) (hro : (rest.map fun v => v.category).sum ≤ 8) (hdg : decode cc pc = .ok (.invokestatic index, 3)) (c1 s1 : Nat) (hm : rm.cells ≤ c1 ∧ rm.slots ≤ s1) (hf : cells + c1 ≤ R.cells ∧ slots + s1 ≤ R.slots)
    (kk : ∀ (ad1 : Nat → Nat) H locs, (∀ k, k < σ.1 → ad1 k = ad k) → aw_ext σ0 ad0 z.2.1 ad1 → aw_G D cA base ad1 z.2.1 z.2.2 s H locs → W p l e R s m args below meth c H locs (cells + c1) (slots + s1) Q (F0 m (pc + 3) ls (.int z.1 :: rest))) : W p l e R s m args below meth c H locs cells slots Q (F0 m pc ls st0) :=
  va_calli (va_runS (As := As) (rest := rest) ⟨X.1, X.2.1, X.2.2.1, X.2.2.2.1, G.1.hts⟩ (hM hE.2.2 D cA base ad) (aw_cs G.1 L hR) (aw_preS G has) rfl hn hl hst (lv_room hro) hdg ⟨Nat.le_trans (Nat.add_le_add_left hm.1 _) hf.1, Nat.le_trans (Nat.add_le_add_left hm.2 _) hf.2⟩) G.2.2.2.2 (fun q _ h => h) (fun q h => h) (fun r u t H1 locs1 ht hvm hr hB hz1 hk1 hS => by
    rw [hr.1]
    exact W.widen (Nat.add_le_add_left hm.1 _) (Nat.add_le_add_left hm.2 _) (kk u H1 locs1 hr.2.2.1 (hE.trans hr.2) (aw_afterN G ht hB hS)))
theorem aw_WI2 (X : aw_X p c cc nL s own m meth ret0) (G : aw_G D cA base ad σ d s H locs) (hl : ls.size = nL) (L : aw_LW own index y n (.codeWith y bytes maxL ret hh)) {z : Int32 × Dt} (hM : aw_Mi l y (.codeWith y bytes maxL ret hh) rm as σ d z) (has : as ad = As) (hn : As.length = n) (hst : st0 = As.reverse ++ rest) (hR : rm.frames + 1 ≤ R.frames ∧ 8 + (maxL + 11) + rm.locals ≤ R.locals) (hro : (rest.map fun v => v.category).sum ≤ 8) (hdg : decode cc pc = .ok (.invokestatic index, 3)) (c1 s1 : Nat) (hm : rm.cells ≤ c1 ∧ rm.slots ≤ s1) (hf : cells + c1 ≤ R.cells ∧ slots + s1 ≤ R.slots)
    (kk : ∀ H locs, aw_G D cA base ad σ z.2 s H locs → W p l e R s m args below meth c H locs (cells + c1) (slots + s1) Q (F0 m (pc + 3) ls (.int z.1 :: rest))) : W p l e R s m args below meth c H locs cells slots Q (F0 m pc ls st0) :=
  aw_WI X G hl L hM has hn hst hR hro hdg ⟨Nat.le_trans (Nat.add_le_add_left hm.1 _) hf.1, Nat.le_trans (Nat.add_le_add_left hm.2 _) hf.2⟩ (fun H locs G => W.widen (Nat.add_le_add_left hm.1 _) (Nat.add_le_add_left hm.2 _) (kk H locs G))
theorem aw_WD2 (X : aw_X p c cc nL s own m meth ret0) (G : aw_G D cA base ad σ d s H locs) (hE : aw_ext σ0 ad0 σ ad) (hl : ls.size = nL) (L : aw_LW own index y n (.codeWith y bytes maxL ret hh)) {z : Int32 × (Sg × Dt)} (hM : aw_Md l y (.codeWith y bytes maxL ret hh) rm as σ d z) (has : as ad = As) (hn : As.length = n) (hst : st0 = As.reverse ++ rest) (hR : rm.frames + 1 ≤ R.frames ∧ 8 + (maxL + 11) + rm.locals ≤ R.locals) (hro : (rest.map fun v => v.category).sum ≤ 8) (hdg : decode cc pc = .ok (.invokestatic index, 3)) (c1 s1 : Nat) (hm : rm.cells ≤ c1 ∧ rm.slots ≤ s1) (hf : cells + c1 ≤ R.cells ∧ slots + s1 ≤ R.slots)
    (kk : ∀ (ad1 : Nat → Nat) H locs, (∀ k, k < σ.1 → ad1 k = ad k) → aw_ext σ0 ad0 z.2.1 ad1 → aw_G D cA base ad1 z.2.1 z.2.2 s H locs → W p l e R s m args below meth c H locs (cells + c1) (slots + s1) Q (F0 m (pc + 3) ls (.int z.1 :: rest))) : W p l e R s m args below meth c H locs cells slots Q (F0 m pc ls st0) :=
  aw_WD X G hE hl L hM has hn hst hR hro hdg ⟨Nat.le_trans (Nat.add_le_add_left hm.1 _) hf.1, Nat.le_trans (Nat.add_le_add_left hm.2 _) hf.2⟩ (fun ad1 H locs hx hE G => W.widen (Nat.add_le_add_left hm.1 _) (Nat.add_le_add_left hm.2 _) (kk ad1 H locs hx hE G))
/-- a call of part -/
theorem aw_preX (G : aw_G D cA base ad σ d s H locs) {b L : Nat} {xs : Nat → Int32} (hX : va_X b L xs s s.heap) (hbl : b < base) (hbs : b < s.heap.size) : PreS s H (va_Pc As (aw_WX D cA base ad σ d b L xs)) As :=
  ⟨aw_blindX, fun U hH hW => ⟨rfl, G.pre hH hW, by
    rw [hH]
    exact (hX.kept (G.2.2.2.2.2.1 b hbs (Nat.not_le.mpr hbl))).moved hW.alike, hbl⟩⟩
theorem aw_PI {b L : Nat} {xs : Nat → Int32} (X : aw_X p c cc nL s own m meth ret0) (G : aw_G D cA s.heap.size ad σ d s H locs) (hl : ls.size = nL) (L9 : aw_LS own index y n (.code y bytes maxL ret)) {z : Int32 × Dt} (hM : aw_Mp l y (.code y bytes maxL ret) rm b L xs As σ d z) (hX : va_X b L xs s s.heap) (hbl : b < s.heap.size) (hrm : rm.cells = 0) (hn : As.length = n) (hst : st0 = As.reverse ++ rest) (hR : rm.frames + 1 ≤ R.frames ∧ 8 + (maxL + 11) + rm.locals ≤ R.locals) (hro : (rest.map fun v => v.category).sum ≤ 8) (hdg : decode cc pc = .ok (.invokestatic index, 3)) (hf : cells + 0 ≤ R.cells ∧ slots + 0 ≤ R.slots) (hrm2 : rm.slots = 0 := by rfl)
    (kk : ∀ H locs, aw_G D cA s.heap.size ad σ z.2 s H locs → W p l e R s m args below meth c H locs cells slots Q (F0 m (pc + 3) ls (.int z.1 :: rest))) : W p l e R s m args below meth c H locs cells slots Q (F0 m pc ls st0) :=
  va_calli (mc := 0) (ms := 0) (va_runS (As := As) (rest := rest) ⟨X.1, X.2.1, X.2.2.1, X.2.2.2.1, G.1.hts⟩ (hM D cA s.heap.size ad) (by have h := aw_cs (rm := rm) (R := R) (args := args) G.1 L9 hR; rw [hrm, hrm2] at h; exact h) (aw_preX G hX hbl hbl) rfl hn hl hst (lv_room hro) hdg hf) G.2.2.2.2 (fun q _ h => h) (fun q h => h) (fun r u t H1 locs1 ht hvm hr hB hz1 hk1 hS => by
    rw [hr]
    exact kk H1 locs1 (aw_after G ht hB hS))
theorem aw_ofWp {b L : Nat} {xs : Nat → Int32} {y : MethodName} {w : Cond} {rm : Room} {Qc : Array Value → State → Outcome → State → Prop} {av : List Value} {free : Addr → Prop} (hy : plainName y.cls = true) (hw : w = Cond.code y cc nL ret) (hov : y.cls = own)
    (body : ∀ p e s m below meth c, aw_X p c cc nL s own m meth ret → aw_G D cA base ad σ d s s.heap [] → va_X b L xs s s.heap → b < s.heap.size → ¬ (fun q => base ≤ q) b → W p l e rm s m av.toArray below meth c s.heap [] 0 0 (MQ below Qc av.toArray s 0 0 free) (entryFrame m av.toArray nL)) : Met l y [w] rm (va_Pc av (aw_WX D cA base ad σ d b L xs)) Qc 0 0 free := by
  refine Met.ofW (cc := cc) (maxL := nL) (ret := ret) (ws' := []) hy (by rw [hw]) ?_
  intro p e s m args below meth c s₁ B hml hv
  obtain ⟨rfl, hW, hX, hb⟩ := hv
  exact body p e s m below meth c ⟨B.exec, B.bytes, hml, by rw [← hov]; exact findClass_of_methodNamed B.named, B.returns, B.notSynchronized⟩ hW.go hX (by obtain ⟨scr, h, -⟩ := hX; exact (Array.getElem?_eq_some_iff.mp h).1) (Nat.not_le.mpr hb)
/-- ends -/
theorem aw_retjZ (X : aw_X p c cc nL s own m meth (some .boolean)) (G : aw_G D cA base ad σ d s H locs) {v : Int32} {z : Int32 × Dt} (hf : some (v, d) = some z) (hv : v &&& 1 = v) (hdg : decode cc pc = .ok (.ireturn, 1)) (hc : cells ≤ mc) (hs : slots ≤ ms) : W p l e R s m args below meth c H locs cells slots (aw_Ej D cA base ad σ below args s mc ms z) (F0 m pc ls [.int v]) := by
  cases hf
  exact W.widen hc hs (W.zret X.1 X.2.1 X.2.2.2.2.1 (by show Value.int (v &&& 1) = _; rw [hv]) (fun t ht _ => ⟨⟨v, (), rfl, rfl, G.post ht⟩, G.2.2.2.2.F ht⟩) G.2.2.2.2.2.2 hdg X.2.2.2.2.2)
theorem aw_retkZ (X : aw_X p c cc nL s own m meth (some .boolean)) (G : aw_G D cA base ad σ d s H locs) (hE : aw_ext σ0 ad0 σ ad) {v : Int32} {z : Int32 × (Sg × Dt)} (hf : some (v, σ, d) = some z) (hv : v &&& 1 = v) (hdg : decode cc pc = .ok (.ireturn, 1)) (hc : cells ≤ mc) (hs : slots ≤ ms) : W p l e R s m args below meth c H locs cells slots (aw_Ek D cA base ad0 σ0 below args s mc ms z) (F0 m pc ls [.int v]) := by
  cases hf
  exact W.widen hc hs (W.zret X.1 X.2.1 X.2.2.2.2.1 (by show Value.int (v &&& 1) = _; rw [hv]) (fun t ht _ => ⟨⟨v, ad, rfl, ⟨rfl, hE⟩, G.post ht⟩, G.2.2.2.2.F ht⟩) G.2.2.2.2.2.2 hdg X.2.2.2.2.2)
/-- rows that are forgotten -/
abbrev aw_Elf (D : va_G) (cA : Nat → ClassId) (base : Nat) (ad0 : Nat → Nat) (σ0 : Sg) (below : List Frame) (args : Array Value) (s : State) (mc ms : Nat) (z : Int64 × Dt) : State → Prop := MQ below (va_Ql (fun r (_ : Unit) => r = z.1) (fun _ => aw_B D cA base ad0 σ0 z.2) (fun q => base ≤ q)) args s mc ms (fun q => base ≤ q)
theorem aw_forget (hE : aw_exr σ0 ad0 σ ad) (hwf : aw_wf σ0) : ∃ w, aw_ws cA ad σ d = aw_ws cA ad0 σ0 d ++ w := by
  obtain ⟨⟨h1, h2, -⟩, h3⟩ := hE
  refine ⟨(aw_ws cA ad σ d).drop σ0.1, ?_⟩
  have e : (aw_ws cA ad σ d).take σ0.1 = aw_ws cA ad0 σ0 d := by
    apply List.ext_getElem?
    intro j
    by_cases hj : j < σ0.1
    · rw [List.getElem?_take_of_lt hj, aw_get (Nat.lt_of_lt_of_le hj h1), aw_get hj, h2 j hj, aw_e_ext hwf h2 hj (h3 j hj).1 (h3 j hj).2 (fun _ => rfl) (fun _ => rfl)]
    · rw [List.getElem?_eq_none (by rw [List.length_take]; omega), List.getElem?_eq_none (by rw [aw_len]; omega)]
  rw [← e]
  exact (List.take_append_drop _ _).symm
theorem aw_app_l {w1 w2 : va_W} {k : Nat} {q : Nat × va_E} (hk : w1[k]? = some q) : (w1 ++ w2)[id k]? = some q := by
  have h : k < w1.length := (List.getElem?_eq_some_iff.mp hk).1
  rw [id, List.getElem?_append_left h]; exact hk
theorem aw_retlf (X : aw_X p c cc nL s own m meth (some .long)) (G : aw_G D cA base ad σ d s H locs) (hE : aw_exr σ0 ad0 σ ad) (hwf : aw_wf σ0) {v : Int64} {z : Int64 × Dt} (hf : some (v, d) = some z) (hdg : decode cc pc = .ok (.lreturn, 1)) (hc : cells ≤ mc) (hs : slots ≤ ms) : W p l e R s m args below meth c H locs cells slots (aw_Elf D cA base ad0 σ0 below args s mc ms z) (F0 m pc ls [.long v]) := by
  cases hf
  obtain ⟨w, hw⟩ := aw_forget (cA := cA) (d := d) hE hwf
  have hP := G.2.2.1
  have hD := G.2.2.2.1
  rw [hw] at hP hD
  exact W.widen hc hs (W.lret X.1 X.2.1 X.2.2.2.2.1 (fun t ht _ => ⟨⟨v, (), rfl, rfl, by rw [ht]; exact hP.by id (fun k q hk => aw_app_l hk), hD.by id (fun k q hk => aw_app_l hk) (fun i j _ _ h => h)⟩, G.2.2.2.2.F ht⟩) G.2.2.2.2.2.2 hdg X.2.2.2.2.2)
theorem aw_newAr (X : aw_X p c cc nL s own m meth ret0) (G : aw_G D cA base ad σ d s H locs) (hE : aw_exr σ0 ad0 σ ad) {atype : ArrayType} {t : Nat} {ty : FieldType} (hty : newarray.typeOf atype = ty) (harr : Cond.arrayClass (newarray.typeOf atype) ∈ aw_tbl) (ht : 20 ≤ t) (htt : (aw_tys cA)[t - 20]? = some (cA t, ty)) (hra : ∀ (U : State) (q : ClassId), va_RA U q ty → U.vm.findClass ("[" ++ ty.toString) = some q) {n : Int32} {N : Nat} (hn : ¬ n < 0) (hN : n.toNatClampNeg = N) {a0 : vp_A} (ha0 : ∀ cA : ClassId, vp_cell cA a0 = arrV cA N (fun _ => defaultValue ty)) (ha : ∀ (ad : Nat → Nat) (σ : Sg) (d : Dt) (k : Nat), (∀ j, d.1 k j = 0) → (∀ j, d.2 k j = 0) → (∀ j, σ.2.2 k j = none) → aw_a ad σ d t k N = a0) (hby : N * componentBytes ty ≤ 536870912) (hcells : cells + 1 ≤ R.cells) (hslots : slots + N ≤ R.slots) {α : Type} {z : α} {kf : Nat → Sg → Dt → Option α} (hf : aw_new σ d t N kf = some z) (hdg : decode cc pc = .ok (.newarray atype, 2))
    (kk : ∀ (q1 : Nat) (σ1 : Sg) (d1 : Dt) (ad1 : Nat → Nat) (H1 : Heap), kf q1 σ1 d1 = some z → (∀ k, k < σ.1 → ad1 k = ad k) → aw_exr σ0 ad0 σ1 ad1 → aw_G D cA base ad1 σ1 d1 s H1 locs → W p l e R s m args below meth c H1 locs (cells + 1) (slots + N) Q (F0 m (pc + 2) ls (.ref (ad1 q1) :: rest))) : W p l e R s m args below meth c H locs cells slots Q (F0 m pc ls (.int n :: rest)) :=
  aw_newA (kf := fun q1 σ1 d1 => @ite _ (σ1 = aw_nw σ t N ∧ kf q1 σ1 d1 = some z) (Classical.propDecidable _) (some z) none) X G hE.1 hty harr ht htt hra hn hN ha0 ha hby hcells hslots (z := z) (by
    unfold aw_new
    exact @if_pos _ (Classical.propDecidable _) ⟨rfl, hf⟩ _ _ _) hdg (fun q1 σ1 d1 ad1 H1 h hx hE1 G1 => by
    have h2 : σ1 = aw_nw σ t N ∧ kf q1 σ1 d1 = some z := by
      by_cases hh : σ1 = aw_nw σ t N ∧ kf q1 σ1 d1 = some z
      · exact hh
      · have h9 := (@if_neg _ (Classical.propDecidable _) hh _ (some z) none).symm.trans h
        cases h9
    refine kk q1 σ1 d1 ad1 H1 h2.2 hx ⟨hE1, fun k hk => ?_⟩ G1
    rw [h2.1]
    have hk2 : k < σ.1 := Nat.lt_of_lt_of_le hk hE.1.1
    obtain ⟨g1, g2⟩ := hE.2 k hk
    exact ⟨by simp only [aw_nw, Nat.ne_of_lt hk2, if_false]; exact g1, fun j => by simp only [aw_nw, Nat.ne_of_lt hk2, if_false]; exact g2 j⟩)
end AWL
