/-! METHODS THAT MAY THROW: a result is .inl e (which exception, 1 IndexOutOfBounds, 2 IllegalArgument, 3 IllegalState) or .inr v -/
def aw_xn (e : Nat) : String := match e with
  | 1 => "java/lang/IndexOutOfBoundsException"
  | 2 => "java/lang/IllegalArgumentException"
  | _ => "java/lang/IllegalStateException"
def aw_th {V V2 : Type} (z : (Nat ⊕ V) × Dt) (k : V → Option ((Nat ⊕ V2) × Dt)) : Option ((Nat ⊕ V2) × Dt) := match z.1 with
  | .inl e => some (.inl e, z.2)
  | .inr v => k v
abbrev aw_XC {V : Type} (D : va_G) (cA : Nat → ClassId) (base : Nat) (ad : Nat → Nat) (σ : Sg) (z : (Nat ⊕ V) × Dt) : String → State → State → Prop := vx_X (fun (_ : Unit) => True) (fun E _ t => (∃ e, z.1 = .inl e ∧ E = aw_xn e) ∧ aw_B D cA base ad σ z.2 t) (fun q => base ≤ q)
def aw_Xi (l : Launch) (y : MethodName) (w : Cond) (rm : Room) (as : (Nat → Nat) → List Value) (σ : Sg) (d : Dt) (z : (Nat ⊕ Int32) × Dt) : Prop := ∀ D cA base ad, vx_Met l y [w] rm (va_Pc (as ad) (aw_W D cA base ad σ d)) (va_Qi (fun r (_ : Unit) => z.1 = .inr r) (fun _ => aw_B D cA base ad σ z.2) (fun q => base ≤ q)) (aw_XC D cA base ad σ z) rm.cells rm.slots (fun q => base ≤ q)
def aw_Xl (l : Launch) (y : MethodName) (w : Cond) (rm : Room) (as : (Nat → Nat) → List Value) (σ : Sg) (d : Dt) (z : (Nat ⊕ Int64) × Dt) : Prop := ∀ D cA base ad, vx_Met l y [w] rm (va_Pc (as ad) (aw_W D cA base ad σ d)) (va_Ql (fun r (_ : Unit) => z.1 = .inr r) (fun _ => aw_B D cA base ad σ z.2) (fun q => base ≤ q)) (aw_XC D cA base ad σ z) rm.cells rm.slots (fun q => base ≤ q)
def aw_Xv (l : Launch) (y : MethodName) (w : Cond) (rm : Room) (as : (Nat → Nat) → List Value) (σ : Sg) (d : Dt) (z : (Nat ⊕ Unit) × Dt) : Prop := ∀ D cA base ad, vx_Met l y [w] rm (va_Pc (as ad) (aw_W D cA base ad σ d)) (va_Qv (fun (_ : Unit) => z.1 = .inr ()) (fun _ => aw_B D cA base ad σ z.2) (fun q => base ≤ q)) (aw_XC D cA base ad σ z) rm.cells rm.slots (fun q => base ≤ q)
section AWT
variable {p : Program} {l : Launch} {e : Env} {R : Room} {s : State} {m : MethodId} {args : Array Value} {below : List Frame} {meth : Method} {c : Code} {H : Heap} {locs : List Loc} {cells slots : Nat} {Q : State → Prop}
variable {cc : ByteArray} {pc nL : Nat} {ls : Array Slot} {rest st0 : List Value} {D : va_G} {cA : Nat → ClassId} {base : Nat} {ad : Nat → Nat} {σ : Sg} {d : Dt}
variable {own C host : String} {index n maxL ci N mc ms : Nat} {y : MethodName} {bytes : ByteArray} {ret : Option FieldType} {rm : Room} {as : (Nat → Nat) → List Value} {As : List Value} {k : Nat} {T : u_T} {ret0 : Option FieldType}
/-- what a body that may throw finds: no stack traces, no handlers -/
abbrev aw_XT (l : Launch) (c : Code) : Prop := l.stackTraces = false ∧ ∀ x ∈ c.exceptionTable.toList, False
abbrev aw_Exi (D : va_G) (cA : Nat → ClassId) (base : Nat) (ad : Nat → Nat) (σ : Sg) (below : List Frame) (args : Array Value) (s : State) (mc ms : Nat) (z : (Nat ⊕ Int32) × Dt) : State → Prop := vx_MQ below (va_Qi (fun r (_ : Unit) => z.1 = .inr r) (fun _ => aw_B D cA base ad σ z.2) (fun q => base ≤ q)) (aw_XC D cA base ad σ z) args s mc ms (fun q => base ≤ q)
abbrev aw_Exl (D : va_G) (cA : Nat → ClassId) (base : Nat) (ad : Nat → Nat) (σ : Sg) (below : List Frame) (args : Array Value) (s : State) (mc ms : Nat) (z : (Nat ⊕ Int64) × Dt) : State → Prop := vx_MQ below (va_Ql (fun r (_ : Unit) => z.1 = .inr r) (fun _ => aw_B D cA base ad σ z.2) (fun q => base ≤ q)) (aw_XC D cA base ad σ z) args s mc ms (fun q => base ≤ q)
abbrev aw_Exv (D : va_G) (cA : Nat → ClassId) (base : Nat) (ad : Nat → Nat) (σ : Sg) (below : List Frame) (args : Array Value) (s : State) (mc ms : Nat) (z : (Nat ⊕ Unit) × Dt) : State → Prop := vx_MQ below (va_Qv (fun (_ : Unit) => z.1 = .inr ()) (fun _ => aw_B D cA base ad σ z.2) (fun q => base ≤ q)) (aw_XC D cA base ad σ z) args s mc ms (fun q => base ≤ q)
theorem aw_xreti (X : aw_X p c cc nL s own m meth (some .int)) (G : aw_G D cA base ad σ d s H locs) {v : Int32} {z : (Nat ⊕ Int32) × Dt} (hf : some (Sum.inr v, d) = some z) (hdg : decode cc pc = .ok (.ireturn, 1)) (hc : cells ≤ mc) (hs : slots ≤ ms) : W p l e R s m args below meth c H locs cells slots (aw_Exi D cA base ad σ below args s mc ms z) (F0 m pc ls [.int v]) := by
  cases hf
  exact W.widen hc hs (vx_ret (W.iret X.1 X.2.1 X.2.2.2.2.1 (fun t ht _ => ⟨⟨v, (), rfl, rfl, G.post ht⟩, G.2.2.2.2.F ht⟩) G.2.2.2.2.2.2 hdg X.2.2.2.2.2))
theorem aw_xretz (X : aw_X p c cc nL s own m meth (some .boolean)) (G : aw_G D cA base ad σ d s H locs) {v : Int32} {z : (Nat ⊕ Int32) × Dt} (hv : v &&& 1 = v) (hf : some (Sum.inr v, d) = some z) (hdg : decode cc pc = .ok (.ireturn, 1)) (hc : cells ≤ mc) (hs : slots ≤ ms) : W p l e R s m args below meth c H locs cells slots (aw_Exi D cA base ad σ below args s mc ms z) (F0 m pc ls [.int v]) := by
  cases hf
  exact W.widen hc hs (vx_ret (W.zret X.1 X.2.1 X.2.2.2.2.1 (by show Value.int (v &&& 1) = _; rw [hv]) (fun t ht _ => ⟨⟨v, (), rfl, rfl, G.post ht⟩, G.2.2.2.2.F ht⟩) G.2.2.2.2.2.2 hdg X.2.2.2.2.2))
theorem aw_xretl (X : aw_X p c cc nL s own m meth (some .long)) (G : aw_G D cA base ad σ d s H locs) {v : Int64} {z : (Nat ⊕ Int64) × Dt} (hf : some (Sum.inr v, d) = some z) (hdg : decode cc pc = .ok (.lreturn, 1)) (hc : cells ≤ mc) (hs : slots ≤ ms) : W p l e R s m args below meth c H locs cells slots (aw_Exl D cA base ad σ below args s mc ms z) (F0 m pc ls [.long v]) := by
  cases hf
  exact W.widen hc hs (vx_ret (W.lret X.1 X.2.1 X.2.2.2.2.1 (fun t ht _ => ⟨⟨v, (), rfl, rfl, G.post ht⟩, G.2.2.2.2.F ht⟩) G.2.2.2.2.2.2 hdg X.2.2.2.2.2))
theorem aw_xretv (X : aw_X p c cc nL s own m meth none) (G : aw_G D cA base ad σ d s H locs) {z : (Nat ⊕ Unit) × Dt} (hf : some (Sum.inr (), d) = some z) (hdg : decode cc pc = .ok (.return_, 1)) (hc : cells ≤ mc) (hs : slots ≤ ms) : W p l e R s m args below meth c H locs cells slots (aw_Exv D cA base ad σ below args s mc ms z) (F0 m pc ls []) := by
  cases hf
  exact W.widen hc hs (vx_ret (W.vret X.1 X.2.1 X.2.2.2.2.1 (fun t ht _ => ⟨⟨(), rfl, rfl, G.post ht⟩, G.2.2.2.2.F ht⟩) G.2.2.2.2.2.2 hdg X.2.2.2.2.2))
theorem aw_XC.of {V : Type} {z : (Nat ⊕ V) × Dt} {e0 : Nat} {t : State} (G : aw_G D cA base ad σ d s H locs) (hz : z = (.inl e0, d)) (h1 : H.size ≤ t.heap.size) (h2 : ∀ q : Nat, q < H.size → t.heap[q]? = H[q]?) : aw_XC D cA base ad σ z (aw_xn e0) s t := by
  subst hz
  refine ⟨(), trivial, ⟨⟨e0, rfl, rfl⟩, G.2.2.1.kept (fun k q hk => h2 _ ((G.2.2.1 k q hk).lt)), G.2.2.2.1⟩, Nat.le_trans G.2.2.2.2.1 h1, fun q hq hA => ?_⟩
  rw [h2 q (Nat.lt_of_lt_of_le hq G.2.2.2.2.1)]
  exact G.2.2.2.2.2.1 q hq hA
/-- the words of a throw -/
def aw_names : List String := ["java/lang/RuntimeException", "java/lang/Exception"]
def aw_tw (own : String) (ik ic : Nat) (e0 : Nat) : Prop := Bundle.fit (aw_xn e0) = true ∧ Cond.classLink own ik (aw_xn e0) ∈ aw_tbl ∧ Cond.initialized (aw_xn e0) ∈ aw_tbl ∧ (∀ w ∈ vx_atS own ic (aw_xn e0) aw_names, w ∈ aw_tbl ∨ w = .castable (aw_xn e0) (aw_xn e0)) ∧ (∀ w ∈ Cond.classLink own ik (aw_xn e0) :: Cond.initialized (aw_xn e0) :: vx_atS own ic (aw_xn e0) aw_names, vx_ot w = true) ∧ aw_xn e0 ∈ aw_exs
theorem aw_hat {ik ic e0 : Nat} (hT : aw_T base s) (h : aw_tw own ik ic e0) : ∀ w ∈ vx_atS own ic (aw_xn e0) aw_names, w.before args s = true := fun w hw => by
  rcases h.2.2.2.1 w hw with h1 | h1
  · exact hT.hts w h1
  · rw [h1]; exact va_Nw.use rfl (hT.2.2.2.2.2.2.1 _ h.2.2.2.2.2)
theorem aw_throw (X : aw_X p c cc nL s own m meth ret0) (XT : aw_XT l c) (G : aw_G D cA base ad σ d s H locs) (hl : ls.size = nL) {V : Type} {z : (Nat ⊕ V) × Dt} {Qc : Array Value → State → Outcome → State → Prop} (e0 : Nat) (hf : some (Sum.inl e0, d) = some z) {ik is ic : Nat} (tw : aw_tw own ik ic e0) (text : String) (hstr : (own, is, text) ∈ aw_strs)
    (d0 : decode cc pc = .ok (.new ik, 3)) (d3 : decode cc (pc + 3) = .ok (.dup, 1)) (d4 : decode cc (pc + 4) = .ok (.ldc is, 2)) (d6 : decode cc (pc + 6) = .ok (.invokespecial ic, 3)) (d9 : decode cc (pc + 9) = .ok (.athrow, 1))
    (hR : 5 < R.frames ∧ (rest.map fun v => v.category).sum + 82 ≤ R.locals ∧ cells + 1 ≤ R.cells ∧ slots + 6 ≤ R.slots) (hc : cells + 1 ≤ mc) (hs : slots + 6 ≤ ms) : W p l e R s m args below meth c H locs cells slots (vx_MQ below Qc (aw_XC D cA base ad σ z) args s mc ms (fun q => base ≤ q)) (F0 m pc ls rest) := by
  obtain ⟨sa, hsa⟩ := G.1.2.2.2.1 _ hstr
  exact vx_throwS (names := aw_names) X.1 X.2.1 XT.1 X.2.2.2.1 tw.1 (by decide) (G.1.hts _ tw.2.1) (G.1.hts _ tw.2.2.1) hsa (aw_hat G.1 tw) tw.2.2.2.2.1 G.1.2.1 G.1.2.2.1 G.2.2.2.2 (hl.trans X.2.2.1.symm) d0 d3 d4 d6 d9 (fun x hx => (XT.2 x hx).elim) hR.1 hR.2.1 hR.2.2.1 hR.2.2.2 X.2.2.2.2.2 (fun t _ h1 h2 => aw_XC.of G (Option.some.inj hf).symm h1 h2) G.2.2.2.2.2.2 hc hs
theorem aw_throwW (X : aw_X p c cc nL s own m meth ret0) (XT : aw_XT l c) (G : aw_G D cA base ad σ d s H locs) (hl : ls.size = nL) {V : Type} {z : (Nat ⊕ V) × Dt} {Qc : Array Value → State → Outcome → State → Prop} (e0 : Nat) (hf : some (Sum.inl e0, d) = some z) {ik is ic : Nat} (tw : aw_tw own ik ic e0) (text : String) (hstr : (own, is, text) ∈ aw_strs)
    (d0 : decode cc pc = .ok (.new ik, 3)) (d3 : decode cc (pc + 3) = .ok (.dup, 1)) (d4 : decode cc (pc + 4) = .ok (.ldc_w is, 3)) (d7 : decode cc (pc + 7) = .ok (.invokespecial ic, 3)) (d10 : decode cc (pc + 10) = .ok (.athrow, 1))
    (hR : 5 < R.frames ∧ (rest.map fun v => v.category).sum + 82 ≤ R.locals ∧ cells + 1 ≤ R.cells ∧ slots + 6 ≤ R.slots) (hc : cells + 1 ≤ mc) (hs : slots + 6 ≤ ms) : W p l e R s m args below meth c H locs cells slots (vx_MQ below Qc (aw_XC D cA base ad σ z) args s mc ms (fun q => base ≤ q)) (F0 m pc ls rest) := by
  obtain ⟨sa, hsa⟩ := G.1.2.2.2.1 _ hstr
  exact vx_throwSW (names := aw_names) X.1 X.2.1 XT.1 X.2.2.2.1 tw.1 (by decide) (G.1.hts _ tw.2.1) (G.1.hts _ tw.2.2.1) hsa (aw_hat G.1 tw) tw.2.2.2.2.1 G.1.2.1 G.1.2.2.1 G.2.2.2.2 (hl.trans X.2.2.1.symm) d0 d3 d4 d7 d10 (fun x hx => (XT.2 x hx).elim) hR.1 hR.2.1 hR.2.2.1 hR.2.2.2 X.2.2.2.2.2 (fun t _ h1 h2 => aw_XC.of G (Option.some.inj hf).symm h1 h2) G.2.2.2.2.2.2 hc hs
/-- a call of a method that returns nothing or throws, from one without handlers -/
theorem aw_XVV (X : aw_X p c cc nL s own m meth ret0) (XT : aw_XT l c) (G : aw_G D cA base ad σ d s H locs) (hl : ls.size = nL) (L : aw_LV own index C y n (.code y bytes maxL ret)) {z : (Nat ⊕ Unit) × Dt} (hM : aw_Xv l y (.code y bytes maxL ret) rm as σ d z) (has : as ad = .ref (ad k) :: As) (hn : As.length = n) (hc : vwCl[ci]? = some (C, T, N)) (hi : ci < 20) (hk : aw_O σ ci N k) (hst : st0 = As.reverse ++ .ref (ad k) :: rest) (hR : rm.frames + 1 ≤ R.frames ∧ 8 + (maxL + 11) + rm.locals ≤ R.locals) (hro : (rest.map fun v => v.category).sum ≤ 8) (hdg : decode cc pc = .ok (.invokevirtual index, 3)) (hf : cells + rm.cells ≤ R.cells ∧ slots + rm.slots ≤ R.slots)
    {V : Type} {Qc : Array Value → State → Outcome → State → Prop} {z2 : (Nat ⊕ V) × Dt} {kf : Unit → Option ((Nat ⊕ V) × Dt)} (hz : aw_th z kf = some z2) (hmc : cells + rm.cells ≤ mc) (hms : slots + rm.slots ≤ ms)
    (kk : ∀ H locs, aw_G D cA base ad σ z.2 s H locs → kf () = some z2 → W p l e R s m args below meth c H locs (cells + rm.cells) (slots + rm.slots) (vx_MQ below Qc (aw_XC D cA base ad σ z2) args s mc ms (fun q => base ≤ q)) (F0 m (pc + 3) ls rest)) : W p l e R s m args below meth c H locs cells slots (vx_MQ below Qc (aw_XC D cA base ad σ z2) args s mc ms (fun q => base ≤ q)) (F0 m pc ls st0) :=
  vx_callv (vx_runV (As := As) (rest := rest) ⟨X.1, X.2.1, X.2.2.1, X.2.2.2.1, G.1.hts⟩ (hM D cA base ad) (aw_cw G.1 L hR) (aw_preV G hc hi hk has) rfl hn hl hst (lv_room hro) hdg hf) G.2.2.2.2 (fun q _ h => h) (fun q h => h) (fun q _ h => h) (fun E ce q9 u t H1 locs1 ht hvm _ hB hz1 hk1 hS hce hcv hcl => by
    obtain ⟨⟨e0, he, rfl⟩, hB⟩ := hB
    have e1 : z2 = (.inl e0, z.2) := by
      unfold aw_th at hz
      rw [he] at hz
      exact (Option.some.inj hz).symm
    have G1 := aw_after G ht hB hS
    exact vx_out (fun x hx => (XT.2 x hx).elim) X.2.2.2.2.2 hce hcv hcl (fun t2 ht2 _ => aw_XC.of G1 e1 (by rw [ht2]; exact Nat.le_refl _) (fun q _ => by rw [ht2])) hS.2.2 hmc hms) (fun u t H1 locs1 ht hvm hr hB hz1 hk1 hS => by
    refine kk H1 locs1 (aw_after G ht hB hS) ?_
    unfold aw_th at hz
    rw [hr] at hz
    exact hz)
theorem aw_ofX {y : MethodName} {w : Cond} {rm : Room} {Qc : Array Value → State → Outcome → State → Prop} {XC : String → State → State → Prop} {av : List Value} {free : Addr → Prop} (hst : l.stackTraces = false) (hy : plainName y.cls = true) (hw : w = Cond.code y cc nL ret) (hov : y.cls = own)
    (body : ∀ p e s m below meth c, aw_X p c cc nL s own m meth ret → aw_XT l c → aw_G D cA base ad σ d s s.heap [] → W p l e rm s m av.toArray below meth c s.heap [] 0 0 (vx_MQ below Qc XC av.toArray s rm.cells rm.slots free) (entryFrame m av.toArray nL)) : vx_Met l y [w] rm (va_Pc av (aw_W D cA base ad σ d)) Qc XC rm.cells rm.slots free := by
  refine vx_ofW (cc := cc) (maxL := nL) (ret := ret) (ws' := []) hy (by rw [hw]) ?_
  intro p e s m args below meth c s₁ B hml ht hv
  obtain ⟨rfl, hW⟩ := hv
  exact body p e s m below meth c ⟨B.exec, B.bytes, hml, by rw [← hov]; exact findClass_of_methodNamed B.named, B.returns, B.notSynchronized⟩ ⟨hst, ht⟩ hW.go
end AWT
