/-! METHODS WITH HANDLERS; A METHOD THAT MAKES CELLS AND MAY THROW -/
def aw_ct {V α : Type} (z : (Nat ⊕ V) × Dt) (kx : Nat → Option α) (kv : V → Option α) : Option α := match z.1 with
  | .inl e => kx e
  | .inr v => kv v
theorem aw_ct_l {V α : Type} {z : (Nat ⊕ V) × Dt} {kx : Nat → Option α} {kv : V → Option α} {e0 : Nat} {r : α} (h : z.1 = .inl e0) (hf : aw_ct z kx kv = some r) : kx e0 = some r := by
  unfold aw_ct at hf; rw [h] at hf; exact hf
theorem aw_ct_r {V α : Type} {z : (Nat ⊕ V) × Dt} {kx : Nat → Option α} {kv : V → Option α} {v : V} {r : α} (h : z.1 = .inr v) (hf : aw_ct z kx kv = some r) : kv v = some r := by
  unfold aw_ct at hf; rw [h] at hf; exact hf
def aw_cd {α : Type} (z : (Nat ⊕ Int32) × (Sg × Dt)) (kx : Nat → Option α) (kv : Int32 → Option α) : Option α := match z.1 with
  | .inl e => kx e
  | .inr v => kv v
theorem aw_cd_l {α : Type} {z : (Nat ⊕ Int32) × (Sg × Dt)} {kx : Nat → Option α} {kv : Int32 → Option α} {e0 : Nat} {r : α} (h : z.1 = .inl e0) (hf : aw_cd z kx kv = some r) : kx e0 = some r := by
  unfold aw_cd at hf; rw [h] at hf; exact hf
theorem aw_cd_r {α : Type} {z : (Nat ⊕ Int32) × (Sg × Dt)} {kx : Nat → Option α} {kv : Int32 → Option α} {v : Int32} {r : α} (h : z.1 = .inr v) (hf : aw_cd z kx kv = some r) : kv v = some r := by
  unfold aw_cd at hf; rw [h] at hf; exact hf
/-- results (v, σ, d) of methods that make cells -/
def aw_Xd (l : Launch) (y : MethodName) (w : Cond) (rm : Room) (as : (Nat → Nat) → List Value) (σ : Sg) (d : Dt) (z : (Nat ⊕ Int32) × (Sg × Dt)) : Prop := aw_wf σ → ∀ D cA base ad, vx_Met l y [w] rm (va_Pc (as ad) (aw_W D cA base ad σ d)) (va_Qi (fun r (ad' : Nat → Nat) => z.1 = .inr r ∧ aw_ext σ ad z.2.1 ad') (fun ad' => aw_B D cA base ad' z.2.1 z.2.2) (fun q => base ≤ q)) (vx_X (fun ad' : Nat → Nat => aw_ext σ ad z.2.1 ad') (fun E ad' t => (∃ e, z.1 = .inl e ∧ E = aw_xn e) ∧ aw_B D cA base ad' z.2.1 z.2.2 t) (fun q => base ≤ q)) rm.cells rm.slots (fun q => base ≤ q)
def aw_Md (l : Launch) (y : MethodName) (w : Cond) (rm : Room) (as : (Nat → Nat) → List Value) (σ : Sg) (d : Dt) (z : Int32 × (Sg × Dt)) : Prop := aw_wf σ → ∀ D cA base ad, Met l y [w] rm (va_Pc (as ad) (aw_W D cA base ad σ d)) (va_Qi (fun r (ad' : Nat → Nat) => r = z.1 ∧ aw_ext σ ad z.2.1 ad') (fun ad' => aw_B D cA base ad' z.2.1 z.2.2) (fun q => base ≤ q)) rm.cells rm.slots (fun q => base ≤ q)
section AWH
variable {p : Program} {l : Launch} {e : Env} {R : Room} {s : State} {m : MethodId} {args : Array Value} {below : List Frame} {meth : Method} {c : Code} {H : Heap} {locs : List Loc} {cells slots : Nat} {Q : State → Prop}
variable {cc : ByteArray} {pc nL : Nat} {ls : Array Slot} {rest st0 : List Value} {D : va_G} {cA : Nat → ClassId} {base : Nat} {ad : Nat → Nat} {σ : Sg} {d : Dt}
variable {own C host : String} {index n maxL ci N mc ms : Nat} {y : MethodName} {bytes : ByteArray} {ret : Option FieldType} {rm : Room} {as : (Nat → Nat) → List Value} {As : List Value} {k : Nat} {T : u_T} {ret0 : Option FieldType} {σ0 : Sg} {ad0 : Nat → Nat} {hh : List (Nat × Nat × Nat × Nat)}
abbrev aw_Ej (D : va_G) (cA : Nat → ClassId) (base : Nat) (ad : Nat → Nat) (σ : Sg) (below : List Frame) (args : Array Value) (s : State) (mc ms : Nat) (z : Int32 × Dt) : State → Prop := MQ below (va_Qi (fun r (_ : Unit) => r = z.1) (fun _ => aw_B D cA base ad σ z.2) (fun q => base ≤ q)) args s mc ms (fun q => base ≤ q)
theorem aw_retj (X : aw_X p c cc nL s own m meth (some .int)) (G : aw_G D cA base ad σ d s H locs) {v : Int32} {z : Int32 × Dt} (hf : some (v, d) = some z) (hdg : decode cc pc = .ok (.ireturn, 1)) (hc : cells ≤ mc) (hs : slots ≤ ms) : W p l e R s m args below meth c H locs cells slots (aw_Ej D cA base ad σ below args s mc ms z) (F0 m pc ls [.int v]) := by
  cases hf
  exact W.widen hc hs (W.iret X.1 X.2.1 X.2.2.2.2.1 (fun t ht _ => ⟨⟨v, (), rfl, rfl, G.post ht⟩, G.2.2.2.2.F ht⟩) G.2.2.2.2.2.2 hdg X.2.2.2.2.2)
theorem aw_ofCW {y : MethodName} {w : Cond} {rm : Room} {Qc : Array Value → State → Outcome → State → Prop} {av : List Value} {free : Addr → Prop} (hh : List (Nat × Nat × Nat × Nat)) (hy : plainName y.cls = true) (hw : w = Cond.codeWith y cc nL ret hh) (hov : y.cls = own)
    (body : ∀ p e s m below meth c, aw_X p c cc nL s own m meth ret → c.exceptionTable.toList = tableOf hh → aw_G D cA base ad σ d s s.heap [] → W p l e rm s m av.toArray below meth c s.heap [] 0 0 (MQ below Qc av.toArray s rm.cells rm.slots free) (entryFrame m av.toArray nL)) : Met l y [w] rm (va_Pc av (aw_W D cA base ad σ d)) Qc rm.cells rm.slots free := by
  refine va_MetW (cc := cc) (maxL := nL) (ret := ret) (hh := hh) (ws' := []) hy (by rw [hw]) ?_
  intro p e s m args below meth c s₁ B hml hv
  obtain ⟨rfl, hW⟩ := hv
  exact body p e s m below meth c ⟨B.exec, B.bytes, hml, by rw [← hov]; exact findClass_of_methodNamed B.named, B.returns, B.notSynchronized⟩ (vx_table (x := y) B (atoms_spec (ws := [w]) B.pre _ (by rw [hw]; exact List.mem_singleton.mpr rfl))) hW.go
/-- a call of a method that answers an int or throws, with handlers -/
theorem aw_CVI (X : aw_X p c cc nL s own m meth ret0) (G : aw_G D cA base ad σ d s H locs) (hl : ls.size = nL) (L : aw_LV own index C y n (.code y bytes maxL ret)) {z : (Nat ⊕ Int32) × Dt} (hM : aw_Xi l y (.code y bytes maxL ret) rm as σ d z) (has : as ad = .ref (ad k) :: As) (hn : As.length = n) (hc : vwCl[ci]? = some (C, T, N)) (hi : ci < 20) (hk : aw_O σ ci N k) (hst : st0 = As.reverse ++ .ref (ad k) :: rest) (hR : rm.frames + 1 ≤ R.frames ∧ 8 + (maxL + 11) + rm.locals ≤ R.locals) (hro : (rest.map fun v => v.category).sum ≤ 8) (hdg : decode cc pc = .ok (.invokevirtual index, 3)) (hf : cells + rm.cells ≤ R.cells ∧ slots + rm.slots ≤ R.slots)
    (kx : ∀ (e0 : Nat) (ce : Cell) (q9 : Nat) (H : Heap) (locs : List Loc), z.1 = .inl e0 → aw_G D cA base ad σ z.2 s H locs → H[q9]? = some ce → ce.vm = .none → s.vm.findClass (aw_xn e0) = some ce.cls → vx_W p l e R s m args below meth c H locs (cells + rm.cells) (slots + rm.slots) Q (F0 m pc ls rest) q9)
    (kk : ∀ (v : Int32) (H : Heap) (locs : List Loc), z.1 = .inr v → aw_G D cA base ad σ z.2 s H locs → W p l e R s m args below meth c H locs (cells + rm.cells) (slots + rm.slots) Q (F0 m (pc + 3) ls (.int v :: rest))) : W p l e R s m args below meth c H locs cells slots Q (F0 m pc ls st0) :=
  vx_calli (vx_runV (As := As) (rest := rest) ⟨X.1, X.2.1, X.2.2.1, X.2.2.2.1, G.1.hts⟩ (hM D cA base ad) (aw_cw G.1 L hR) (aw_preV G hc hi hk has) rfl hn hl hst (lv_room hro) hdg hf) G.2.2.2.2 (fun q _ h => h) (fun q h => h) (fun q _ h => h) (fun E ce q9 u t H1 locs1 ht hvm _ hB hz1 hk1 hS hce hcv hcl => by
    obtain ⟨⟨e0, he, rfl⟩, hB⟩ := hB
    exact kx e0 ce q9 H1 locs1 he (aw_after G ht hB hS) hce hcv hcl) (fun r u t H1 locs1 ht hvm hr hB hz1 hk1 hS => kk r H1 locs1 hr (aw_after G ht hB hS))
theorem aw_CVL (X : aw_X p c cc nL s own m meth ret0) (G : aw_G D cA base ad σ d s H locs) (hl : ls.size = nL) (L : aw_LV own index C y n (.code y bytes maxL ret)) {z : (Nat ⊕ Int64) × Dt} (hM : aw_Xl l y (.code y bytes maxL ret) rm as σ d z) (has : as ad = .ref (ad k) :: As) (hn : As.length = n) (hc : vwCl[ci]? = some (C, T, N)) (hi : ci < 20) (hk : aw_O σ ci N k) (hst : st0 = As.reverse ++ .ref (ad k) :: rest) (hR : rm.frames + 1 ≤ R.frames ∧ 8 + (maxL + 11) + rm.locals ≤ R.locals) (hro : (rest.map fun v => v.category).sum ≤ 8) (hdg : decode cc pc = .ok (.invokevirtual index, 3)) (hf : cells + rm.cells ≤ R.cells ∧ slots + rm.slots ≤ R.slots)
    (kx : ∀ (e0 : Nat) (ce : Cell) (q9 : Nat) (H : Heap) (locs : List Loc), z.1 = .inl e0 → aw_G D cA base ad σ z.2 s H locs → H[q9]? = some ce → ce.vm = .none → s.vm.findClass (aw_xn e0) = some ce.cls → vx_W p l e R s m args below meth c H locs (cells + rm.cells) (slots + rm.slots) Q (F0 m pc ls rest) q9)
    (kk : ∀ (v : Int64) (H : Heap) (locs : List Loc), z.1 = .inr v → aw_G D cA base ad σ z.2 s H locs → W p l e R s m args below meth c H locs (cells + rm.cells) (slots + rm.slots) Q (F0 m (pc + 3) ls (.long v :: rest))) : W p l e R s m args below meth c H locs cells slots Q (F0 m pc ls st0) :=
  vx_calll (vx_runV (As := As) (rest := rest) ⟨X.1, X.2.1, X.2.2.1, X.2.2.2.1, G.1.hts⟩ (hM D cA base ad) (aw_cw G.1 L hR) (aw_preV G hc hi hk has) rfl hn hl hst (lv_room hro) hdg hf) G.2.2.2.2 (fun q _ h => h) (fun q h => h) (fun q _ h => h) (fun E ce q9 u t H1 locs1 ht hvm _ hB hz1 hk1 hS hce hcv hcl => by
    obtain ⟨⟨e0, he, rfl⟩, hB⟩ := hB
    exact kx e0 ce q9 H1 locs1 he (aw_after G ht hB hS) hce hcv hcl) (fun r u t H1 locs1 ht hvm hr hB hz1 hk1 hS => kk r H1 locs1 hr (aw_after G ht hB hS))
theorem aw_CVD (X : aw_X p c cc nL s own m meth ret0) (G : aw_G D cA base ad σ d s H locs) (hE : aw_ext σ0 ad0 σ ad) (hl : ls.size = nL) (L : aw_LV own index C y n (.code y bytes maxL ret)) {z : (Nat ⊕ Int32) × (Sg × Dt)} (hM : aw_Xd l y (.code y bytes maxL ret) rm as σ d z) (has : as ad = .ref (ad k) :: As) (hn : As.length = n) (hc : vwCl[ci]? = some (C, T, N)) (hi : ci < 20) (hk : aw_O σ ci N k) (hst : st0 = As.reverse ++ .ref (ad k) :: rest) (hR : rm.frames + 1 ≤ R.frames ∧ 8 + (maxL + 11) + rm.locals ≤ R.locals) (hro : (rest.map fun v => v.category).sum ≤ 8) (hdg : decode cc pc = .ok (.invokevirtual index, 3)) (hf : cells + rm.cells ≤ R.cells ∧ slots + rm.slots ≤ R.slots)
    (kx : ∀ (e0 : Nat) (ce : Cell) (q9 : Nat) (ad1 : Nat → Nat) (H : Heap) (locs : List Loc), z.1 = .inl e0 → (∀ k, k < σ.1 → ad1 k = ad k) → aw_ext σ0 ad0 z.2.1 ad1 → aw_G D cA base ad1 z.2.1 z.2.2 s H locs → H[q9]? = some ce → ce.vm = .none → s.vm.findClass (aw_xn e0) = some ce.cls → vx_W p l e R s m args below meth c H locs (cells + rm.cells) (slots + rm.slots) Q (F0 m pc ls rest) q9)
    (kk : ∀ (v : Int32) (ad1 : Nat → Nat) (H : Heap) (locs : List Loc), z.1 = .inr v → (∀ k, k < σ.1 → ad1 k = ad k) → aw_ext σ0 ad0 z.2.1 ad1 → aw_G D cA base ad1 z.2.1 z.2.2 s H locs → W p l e R s m args below meth c H locs (cells + rm.cells) (slots + rm.slots) Q (F0 m (pc + 3) ls (.int v :: rest))) : W p l e R s m args below meth c H locs cells slots Q (F0 m pc ls st0) :=
  vx_calli (vx_runV (As := As) (rest := rest) ⟨X.1, X.2.1, X.2.2.1, X.2.2.2.1, G.1.hts⟩ (hM hE.2.2 D cA base ad) (aw_cw G.1 L hR) (aw_preV G hc hi hk has) rfl hn hl hst (lv_room hro) hdg hf) G.2.2.2.2 (fun q _ h => h) (fun q h => h) (fun q _ h => h) (fun E ce q9 u t H1 locs1 ht hvm hx hB hz1 hk1 hS hce hcv hcl => by
    obtain ⟨⟨e0, he, rfl⟩, hB⟩ := hB
    exact kx e0 ce q9 u H1 locs1 he hx.2.1 (hE.trans hx) (aw_afterN G ht hB hS) hce hcv hcl) (fun r u t H1 locs1 ht hvm hr hB hz1 hk1 hS => kk r u H1 locs1 hr.1 hr.2.2.1 (hE.trans hr.2) (aw_afterN G ht hB hS))
theorem aw_hpass (G : aw_T base s) {own : String} {e0 : Nat} {pre : List ExceptionTableEntry} {pc : Nat} (h : ∀ x ∈ pre, x.catchType ≠ 0 ∧ ∃ nm ∈ aw_exs, Cond.classLink own x.catchType nm ∈ aw_tbl ∧ aw_xn e0 ∈ aw_exs ∧ aw_xn e0 ≠ nm) : ∀ x ∈ pre, covers x pc = false ∨ (x.catchType ≠ 0 ∧ ∃ nm : String, (Cond.classLink own x.catchType nm).before args s = true ∧ va_Nc (aw_xn e0) nm s) := fun x hx => by
  obtain ⟨h0, nm, h1, h2, h3, h4⟩ := h x hx
  exact Or.inr ⟨h0, nm, G.hts _ h2, G.2.2.2.2.2.2.2 _ h3 _ h1 h4⟩
theorem aw_cast (G : aw_T base s) {e0 : Nat} (h : aw_xn e0 ∈ aw_exs) : (Cond.castable (aw_xn e0) (aw_xn e0)).before args s = true := va_Nw.use rfl (G.2.2.2.2.2.2.1 _ h)
/-! the method that makes cells and may throw -/
abbrev aw_Ed (D : va_G) (cA : Nat → ClassId) (base : Nat) (ad0 : Nat → Nat) (σ0 : Sg) (below : List Frame) (args : Array Value) (s : State) (mc ms : Nat) (z : (Nat ⊕ Int32) × (Sg × Dt)) : State → Prop := vx_MQ below (va_Qi (fun r (ad' : Nat → Nat) => z.1 = .inr r ∧ aw_ext σ0 ad0 z.2.1 ad') (fun ad' => aw_B D cA base ad' z.2.1 z.2.2) (fun q => base ≤ q)) (vx_X (fun ad' : Nat → Nat => aw_ext σ0 ad0 z.2.1 ad') (fun E ad' t => (∃ e, z.1 = .inl e ∧ E = aw_xn e) ∧ aw_B D cA base ad' z.2.1 z.2.2 t) (fun q => base ≤ q)) args s mc ms (fun q => base ≤ q)
theorem aw_retd (X : aw_X p c cc nL s own m meth (some .int)) (G : aw_G D cA base ad σ d s H locs) (hE : aw_ext σ0 ad0 σ ad) {v : Int32} {z : (Nat ⊕ Int32) × (Sg × Dt)} (hf : some (Sum.inr v, σ, d) = some z) (hdg : decode cc pc = .ok (.ireturn, 1)) (hc : cells ≤ mc) (hs : slots ≤ ms) : W p l e R s m args below meth c H locs cells slots (aw_Ed D cA base ad0 σ0 below args s mc ms z) (F0 m pc ls [.int v]) := by
  cases hf
  exact W.widen hc hs (vx_ret (W.iret X.1 X.2.1 X.2.2.2.2.1 (fun t ht _ => ⟨⟨v, ad, rfl, ⟨rfl, hE⟩, G.post ht⟩, G.2.2.2.2.F ht⟩) G.2.2.2.2.2.2 hdg X.2.2.2.2.2))
theorem aw_throwD (X : aw_X p c cc nL s own m meth ret0) (XT : aw_XT l c) (G : aw_G D cA base ad σ d s H locs) (hE : aw_ext σ0 ad0 σ ad) (hl : ls.size = nL) {z : (Nat ⊕ Int32) × (Sg × Dt)} (e0 : Nat) (hf : some (Sum.inl e0, σ, d) = some z) {ik is ic : Nat} (tw : aw_tw own ik ic e0) (text : String) (hstr : (own, is, text) ∈ aw_strs)
    (d0 : decode cc pc = .ok (.new ik, 3)) (d3 : decode cc (pc + 3) = .ok (.dup, 1)) (d4 : decode cc (pc + 4) = .ok (.ldc is, 2)) (d6 : decode cc (pc + 6) = .ok (.invokespecial ic, 3)) (d9 : decode cc (pc + 9) = .ok (.athrow, 1))
    (hR : 5 < R.frames ∧ (rest.map fun v => v.category).sum + 82 ≤ R.locals ∧ cells + 1 ≤ R.cells ∧ slots + 6 ≤ R.slots) (hc : cells + 1 ≤ mc) (hs : slots + 6 ≤ ms) : W p l e R s m args below meth c H locs cells slots (aw_Ed D cA base ad0 σ0 below args s mc ms z) (F0 m pc ls rest) := by
  obtain ⟨sa, hsa⟩ := G.1.2.2.2.1 _ hstr
  cases hf
  exact vx_throwS (names := aw_names) X.1 X.2.1 XT.1 X.2.2.2.1 tw.1 (by decide) (G.1.hts _ tw.2.1) (G.1.hts _ tw.2.2.1) hsa (aw_hat G.1 tw) tw.2.2.2.2.1 G.1.2.1 G.1.2.2.1 G.2.2.2.2 (hl.trans X.2.2.1.symm) d0 d3 d4 d6 d9 (fun x hx => (XT.2 x hx).elim) hR.1 hR.2.1 hR.2.2.1 hR.2.2.2 X.2.2.2.2.2 (fun t _ h1 h2 => ⟨ad, hE, ⟨⟨e0, rfl, rfl⟩, G.2.2.1.kept (fun k q hk => h2 _ ((G.2.2.1 k q hk).lt)), G.2.2.2.1⟩, Nat.le_trans G.2.2.2.2.1 h1, fun q hq hA => by
    rw [h2 q (Nat.lt_of_lt_of_le hq G.2.2.2.2.1)]
    exact G.2.2.2.2.2.1 q hq hA⟩) G.2.2.2.2.2.2 hc hs
abbrev aw_Ek (D : va_G) (cA : Nat → ClassId) (base : Nat) (ad0 : Nat → Nat) (σ0 : Sg) (below : List Frame) (args : Array Value) (s : State) (mc ms : Nat) (z : Int32 × (Sg × Dt)) : State → Prop := MQ below (va_Qi (fun r (ad' : Nat → Nat) => r = z.1 ∧ aw_ext σ0 ad0 z.2.1 ad') (fun ad' => aw_B D cA base ad' z.2.1 z.2.2) (fun q => base ≤ q)) args s mc ms (fun q => base ≤ q)
theorem aw_retk (X : aw_X p c cc nL s own m meth (some .int)) (G : aw_G D cA base ad σ d s H locs) (hE : aw_ext σ0 ad0 σ ad) {v : Int32} {z : Int32 × (Sg × Dt)} (hf : some (v, σ, d) = some z) (hdg : decode cc pc = .ok (.ireturn, 1)) (hc : cells ≤ mc) (hs : slots ≤ ms) : W p l e R s m args below meth c H locs cells slots (aw_Ek D cA base ad0 σ0 below args s mc ms z) (F0 m pc ls [.int v]) := by
  cases hf
  exact W.widen hc hs (W.iret X.1 X.2.1 X.2.2.2.2.1 (fun t ht _ => ⟨⟨v, ad, rfl, ⟨rfl, hE⟩, G.post ht⟩, G.2.2.2.2.F ht⟩) G.2.2.2.2.2.2 hdg X.2.2.2.2.2)
/-! calls of the law's own methods -/
def aw_LW (own : String) (idx : Nat) (y : MethodName) (n : Nat) (w : Cond) : Prop := (Cond.methodLink own idx y ∈ aw_tbl ∧ Cond.static y ∈ aw_tbl ∧ Cond.initialized own ∈ aw_tbl ∧ w ∈ aw_tbl) ∧ y.cls = own ∧ (y.cls ≠ "java/lang/invoke/MethodHandle" ∧ y.cls ≠ "java/lang/invoke/VarHandle" ∧ (parseMethodDescriptor y.desc).map (fun d => d.parameters.length) = some n)
theorem aw_csw {args : Array Value} (G : aw_T base s) (L : aw_LW own index y n (.codeWith y bytes maxL ret hh)) (hR : rm.frames + 1 ≤ R.frames ∧ 8 + (maxL + 11) + rm.locals ≤ R.locals) : vx_CSW R s args own index y bytes maxL ret hh [.codeWith y bytes maxL ret hh] rm rm.cells rm.slots n := by
  have hy := L.2.1
  refine vx_cwSW n (G.hts (args := args)) (fun w hw => ?_) rfl rfl rfl L.2.2 hR
  rcases List.mem_append.mp hw with h | h
  · simp only [List.mem_cons, List.not_mem_nil, or_false] at h
    rcases h with rfl | rfl | rfl
    · exact aw_good L.1.1 rfl
    · exact aw_good L.1.2.1 rfl
    · exact aw_good (by first | exact L.1.2.2.1 | (rw [hy]; exact L.1.2.2.1)) rfl
  · rw [List.mem_singleton.mp h]
    exact aw_good L.1.2.2.2 rfl
theorem aw_WI (X : aw_X p c cc nL s own m meth ret0) (G : aw_G D cA base ad σ d s H locs) (hl : ls.size = nL) (L : aw_LW own index y n (.codeWith y bytes maxL ret hh)) {z : Int32 × Dt} (hM : aw_Mi l y (.codeWith y bytes maxL ret hh) rm as σ d z) (has : as ad = As) (hn : As.length = n) (hst : st0 = As.reverse ++ rest) (hR : rm.frames + 1 ≤ R.frames ∧ 8 + (maxL + 11) + rm.locals ≤ R.locals) (hro : (rest.map fun v => v.category).sum ≤ 8) (hdg : decode cc pc = .ok (.invokestatic index, 3)) (hf : cells + rm.cells ≤ R.cells ∧ slots + rm.slots ≤ R.slots)
    (kk : ∀ H locs, aw_G D cA base ad σ z.2 s H locs → W p l e R s m args below meth c H locs (cells + rm.cells) (slots + rm.slots) Q (F0 m (pc + 3) ls (.int z.1 :: rest))) : W p l e R s m args below meth c H locs cells slots Q (F0 m pc ls st0) :=
  va_calli (vx_runSW (As := As) (rest := rest) ⟨X.1, X.2.1, X.2.2.1, X.2.2.2.1, G.1.hts⟩ (hM D cA base ad) (aw_csw G.1 L hR) (aw_preS G has) rfl hn hl hst (lv_room hro) hdg hf) G.2.2.2.2 (fun q _ h => h) (fun q h => h) (fun r u t H1 locs1 ht hvm hr hB hz1 hk1 hS => by
    rw [hr]
    exact kk H1 locs1 (aw_after G ht hB hS))
theorem aw_WD (X : aw_X p c cc nL s own m meth ret0) (G : aw_G D cA base ad σ d s H locs) (hE : aw_ext σ0 ad0 σ ad) (hl : ls.size = nL) (L : aw_LW own index y n (.codeWith y bytes maxL ret hh)) {z : Int32 × (Sg × Dt)} (hM : aw_Md l y (.codeWith y bytes maxL ret hh) rm as σ d z) (has : as ad = As) (hn : As.length = n) (hst : st0 = As.reverse ++ rest) (hR : rm.frames + 1 ≤ R.frames ∧ 8 + (maxL + 11) + rm.locals ≤ R.locals) (hro : (rest.map fun v => v.category).sum ≤ 8) (hdg : decode cc pc = .ok (.invokestatic index, 3)) (hf : cells + rm.cells ≤ R.cells ∧ slots + rm.slots ≤ R.slots)
    (kk : ∀ (ad1 : Nat → Nat) H locs, (∀ k, k < σ.1 → ad1 k = ad k) → aw_ext σ0 ad0 z.2.1 ad1 → aw_G D cA base ad1 z.2.1 z.2.2 s H locs → W p l e R s m args below meth c H locs (cells + rm.cells) (slots + rm.slots) Q (F0 m (pc + 3) ls (.int z.1 :: rest))) : W p l e R s m args below meth c H locs cells slots Q (F0 m pc ls st0) :=
  va_calli (vx_runSW (As := As) (rest := rest) ⟨X.1, X.2.1, X.2.2.1, X.2.2.2.1, G.1.hts⟩ (hM hE.2.2 D cA base ad) (aw_csw G.1 L hR) (aw_preS G has) rfl hn hl hst (lv_room hro) hdg hf) G.2.2.2.2 (fun q _ h => h) (fun q h => h) (fun r u t H1 locs1 ht hvm hr hB hz1 hk1 hS => by
    rw [hr.1]
    exact kk u H1 locs1 hr.2.2.1 (hE.trans hr.2) (aw_afterN G ht hB hS))
end AWH
