def f_law_C15 (xs : Nat → Int32) (L : Nat) (kb : Sg → Dt → Option Int32) (x1 x2 x3 : Nat) (x4 : Int32) (σ : Sg) (d : Dt) : Option Int32 :=
  aw_chk (¬ ((x4 + ((1 : Int32))) < 0 ∨ L ≤ (x4 + ((1 : Int32))).toNatClampNeg)) (aw_chk (¬ ((x4 + ((2 : Int32))) < 0 ∨ L ≤ (x4 + ((2 : Int32))).toNatClampNeg)) ((f_L_apart σ x1 (xs (x4 + ((1 : Int32))).toNatClampNeg) (xs (x4 + ((2 : Int32))).toNatClampNeg) x3 d).bind (fun z_228 => aw_chk (aw_O σ 11 32 x2) ((f_X11_apart σ x2 (xs (x4 + ((1 : Int32))).toNatClampNeg) (xs (x4 + ((2 : Int32))).toNatClampNeg) z_228.2).bind (fun z_230 => (f_X11_thrown σ x2 z_230.2).bind (fun z_233 => if z_233.1 = z_228.1 then if z_228.1 = 0 then aw_chk (aw_I σ 21 x3 ((0 : Int32))) (if (lg_cmp (z_233.2.2 x3 ((0 : Int32)).toNatClampNeg) z_230.1.toInt64) = 0 then kb σ z_233.2 else some ((0 : Int32))) else kb σ z_233.2 else some ((0 : Int32))))))))
def f_law_C16 (xs : Nat → Int32) (L : Nat) (kb : Sg → Dt → Option Int32) (x1 x2 x3 : Nat) (x4 : Int32) (σ : Sg) (d : Dt) : Option Int32 :=
  aw_chk (¬ ((x4 + ((1 : Int32))) < 0 ∨ L ≤ (x4 + ((1 : Int32))).toNatClampNeg)) ((f_L_clear σ x1 (xs (x4 + ((1 : Int32))).toNatClampNeg) x3 d).bind (fun z_237 => aw_chk (aw_O σ 11 32 x2) ((f_X11_clear σ x2 (xs (x4 + ((1 : Int32))).toNatClampNeg) z_237.2).bind (fun z_239 => (f_X11_thrown σ x2 z_239.2).bind (fun z_242 => if z_242.1 = z_237.1 then if z_237.1 = 0 then aw_chk (aw_I σ 21 x3 ((0 : Int32))) (if (lg_cmp (z_242.2.2 x3 ((0 : Int32)).toNatClampNeg) z_239.1.toInt64) = 0 then kb σ z_242.2 else some ((0 : Int32))) else kb σ z_242.2 else some ((0 : Int32)))))))
def f_law_C17 (xs : Nat → Int32) (L : Nat) (kb : Sg → Dt → Option Int32) (x1 x2 x3 : Nat) (x4 : Int32) (σ : Sg) (d : Dt) : Option Int32 :=
  aw_chk (¬ ((x4 + ((1 : Int32))) < 0 ∨ L ≤ (x4 + ((1 : Int32))).toNatClampNeg)) (aw_chk (¬ ((x4 + ((2 : Int32))) < 0 ∨ L ≤ (x4 + ((2 : Int32))).toNatClampNeg)) ((f_L_errors σ x1 (xs (x4 + ((1 : Int32))).toNatClampNeg) (xs (x4 + ((2 : Int32))).toNatClampNeg) x3 d).bind (fun z_247 => aw_chk (aw_O σ 11 32 x2) ((f_X11_errors σ x2 (xs (x4 + ((1 : Int32))).toNatClampNeg) (xs (x4 + ((2 : Int32))).toNatClampNeg) z_247.2).bind (fun z_249 => (f_X11_thrown σ x2 z_249.2).bind (fun z_252 => if z_252.1 = z_247.1 then if z_247.1 = 0 then aw_chk (aw_I σ 21 x3 ((0 : Int32))) (if (lg_cmp (z_252.2.2 x3 ((0 : Int32)).toNatClampNeg) z_249.1.toInt64) = 0 then kb σ z_252.2 else some ((0 : Int32))) else kb σ z_252.2 else some ((0 : Int32))))))))
def f_law_C18 (xs : Nat → Int32) (L : Nat) (kb : Sg → Dt → Option Int32) (x1 x2 x3 : Nat) (x4 : Int32) (σ : Sg) (d : Dt) : Option Int32 :=
  aw_chk (¬ ((x4 + ((1 : Int32))) < 0 ∨ L ≤ (x4 + ((1 : Int32))).toNatClampNeg)) (aw_chk (¬ ((x4 + ((2 : Int32))) < 0 ∨ L ≤ (x4 + ((2 : Int32))).toNatClampNeg)) ((f_L_primer σ x1 (xs (x4 + ((1 : Int32))).toNatClampNeg) (xs (x4 + ((2 : Int32))).toNatClampNeg) x3 d).bind (fun z_257 => aw_chk (aw_O σ 11 32 x2) ((f_X11_primer σ x2 (xs (x4 + ((1 : Int32))).toNatClampNeg) (xs (x4 + ((2 : Int32))).toNatClampNeg) z_257.2).bind (fun z_259 => (f_X11_thrown σ x2 z_259.2).bind (fun z_262 => if z_262.1 = z_257.1 then if z_257.1 = 0 then aw_chk (aw_I σ 21 x3 ((0 : Int32))) (if (lg_cmp (z_262.2.2 x3 ((0 : Int32)).toNatClampNeg) z_259.1.toInt64) = 0 then kb σ z_262.2 else some ((0 : Int32))) else kb σ z_262.2 else some ((0 : Int32))))))))
def f_law_C19 (xs : Nat → Int32) (L : Nat) (kb : Sg → Dt → Option Int32) (x1 x2 x3 : Nat) (x4 : Int32) (σ : Sg) (d : Dt) : Option Int32 :=
  aw_chk (¬ ((x4 + ((1 : Int32))) < 0 ∨ L ≤ (x4 + ((1 : Int32))).toNatClampNeg)) ((f_L_cost σ x1 (xs (x4 + ((1 : Int32))).toNatClampNeg) x3 d).bind (fun z_266 => aw_chk (aw_O σ 11 32 x2) ((f_X11_cost σ x2 (xs (x4 + ((1 : Int32))).toNatClampNeg) z_266.2).bind (fun z_268 => (f_X11_thrown σ x2 z_268.2).bind (fun z_271 => if z_271.1 = z_266.1 then if z_266.1 = 0 then aw_chk (aw_I σ 21 x3 ((0 : Int32))) (if (lg_cmp (z_271.2.2 x3 ((0 : Int32)).toNatClampNeg) z_268.1.toInt64) = 0 then kb σ z_271.2 else some ((0 : Int32))) else kb σ z_271.2 else some ((0 : Int32)))))))
def f_law_C20 (xs : Nat → Int32) (L : Nat) (kb : Sg → Dt → Option Int32) (x1 x2 x3 : Nat) (x4 : Int32) (σ : Sg) (d : Dt) : Option Int32 :=
  aw_chk (¬ ((x4 + ((1 : Int32))) < 0 ∨ L ≤ (x4 + ((1 : Int32))).toNatClampNeg)) ((f_L_leastCost σ x1 (xs (x4 + ((1 : Int32))).toNatClampNeg) x3 d).bind (fun z_275 => aw_chk (aw_O σ 11 32 x2) ((f_X11_leastCost σ x2 (xs (x4 + ((1 : Int32))).toNatClampNeg) z_275.2).bind (fun z_277 => (f_X11_thrown σ x2 z_277.2).bind (fun z_280 => if z_280.1 = z_275.1 then if z_275.1 = 0 then aw_chk (aw_I σ 21 x3 ((0 : Int32))) (if (lg_cmp (z_280.2.2 x3 ((0 : Int32)).toNatClampNeg) z_277.1.toInt64) = 0 then kb σ z_280.2 else some ((0 : Int32))) else kb σ z_280.2 else some ((0 : Int32)))))))
def f_law_C21 (xs : Nat → Int32) (L : Nat) (kb : Sg → Dt → Option Int32) (x1 x2 x3 : Nat) (x4 : Int32) (σ : Sg) (d : Dt) : Option Int32 :=
  aw_chk (¬ ((x4 + ((1 : Int32))) < 0 ∨ L ≤ (x4 + ((1 : Int32))).toNatClampNeg)) (aw_chk (¬ ((x4 + ((2 : Int32))) < 0 ∨ L ≤ (x4 + ((2 : Int32))).toNatClampNeg)) (aw_chk (¬ ((x4 + ((3 : Int32))) < 0 ∨ L ≤ (x4 + ((3 : Int32))).toNatClampNeg)) ((f_L_key σ x1 (xs (x4 + ((1 : Int32))).toNatClampNeg) (xs (x4 + ((2 : Int32))).toNatClampNeg) (xs (x4 + ((3 : Int32))).toNatClampNeg) x3 d).bind (fun z_286 => aw_chk (aw_O σ 11 32 x2) ((f_X11_key σ x2 (xs (x4 + ((1 : Int32))).toNatClampNeg) (xs (x4 + ((2 : Int32))).toNatClampNeg) (xs (x4 + ((3 : Int32))).toNatClampNeg) z_286.2).bind (fun z_288 => (f_X11_thrown σ x2 z_288.2).bind (fun z_291 => if z_291.1 = z_286.1 then if z_286.1 = 0 then aw_chk (aw_I σ 21 x3 ((0 : Int32))) (if (lg_cmp (z_291.2.2 x3 ((0 : Int32)).toNatClampNeg) z_288.1.toInt64) = 0 then kb σ z_291.2 else some ((0 : Int32))) else kb σ z_291.2 else some ((0 : Int32)))))))))
def f_law_C22 (xs : Nat → Int32) (L : Nat) (kb : Sg → Dt → Option Int32) (x1 x2 x3 : Nat) (x4 : Int32) (σ : Sg) (d : Dt) : Option Int32 :=
  aw_chk (¬ ((x4 + ((1 : Int32))) < 0 ∨ L ≤ (x4 + ((1 : Int32))).toNatClampNeg)) ((f_L_travel σ x1 (xs (x4 + ((1 : Int32))).toNatClampNeg) x3 d).bind (fun z_295 => aw_chk (aw_O σ 11 32 x2) ((f_X11_travel σ x2 (xs (x4 + ((1 : Int32))).toNatClampNeg) z_295.2).bind (fun z_297 => (f_X11_thrown σ x2 z_297.2).bind (fun z_300 => if z_300.1 = z_295.1 then if z_295.1 = 0 then aw_chk (aw_I σ 21 x3 ((0 : Int32))) (if (lg_cmp (z_300.2.2 x3 ((0 : Int32)).toNatClampNeg) z_297.1.toInt64) = 0 then kb σ z_300.2 else some ((0 : Int32))) else kb σ z_300.2 else some ((0 : Int32)))))))
def f_law_C23 (xs : Nat → Int32) (L : Nat) (kb : Sg → Dt → Option Int32) (x1 x2 x3 : Nat) (x4 : Int32) (σ : Sg) (d : Dt) : Option Int32 :=
  aw_chk (¬ ((x4 + ((1 : Int32))) < 0 ∨ L ≤ (x4 + ((1 : Int32))).toNatClampNeg)) ((f_L_exchange σ x1 (xs (x4 + ((1 : Int32))).toNatClampNeg) x3 d).bind (fun z_304 => aw_chk (aw_O σ 11 32 x2) ((f_X11_exchange σ x2 (xs (x4 + ((1 : Int32))).toNatClampNeg) z_304.2).bind (fun z_306 => (f_X11_thrown σ x2 z_306.2).bind (fun z_309 => if z_309.1 = z_304.1 then if z_304.1 = 0 then aw_chk (aw_I σ 21 x3 ((0 : Int32))) (if (lg_cmp (z_309.2.2 x3 ((0 : Int32)).toNatClampNeg) z_306.1.toInt64) = 0 then kb σ z_309.2 else some ((0 : Int32))) else kb σ z_309.2 else some ((0 : Int32)))))))
def f_law_C24 (xs : Nat → Int32) (L : Nat) (kb : Sg → Dt → Option Int32) (x1 x2 x3 : Nat) (x4 : Int32) (σ : Sg) (d : Dt) : Option Int32 :=
  aw_chk (¬ ((x4 + ((1 : Int32))) < 0 ∨ L ≤ (x4 + ((1 : Int32))).toNatClampNeg)) (aw_chk (¬ ((x4 + ((2 : Int32))) < 0 ∨ L ≤ (x4 + ((2 : Int32))).toNatClampNeg)) (aw_chk (¬ ((x4 + ((3 : Int32))) < 0 ∨ L ≤ (x4 + ((3 : Int32))).toNatClampNeg)) (aw_chk (¬ ((x4 + ((4 : Int32))) < 0 ∨ L ≤ (x4 + ((4 : Int32))).toNatClampNeg)) ((f_L_group σ x1 (xs (x4 + ((1 : Int32))).toNatClampNeg) (xs (x4 + ((2 : Int32))).toNatClampNeg) (xs (x4 + ((3 : Int32))).toNatClampNeg) (xs (x4 + ((4 : Int32))).toNatClampNeg) x3 d).bind (fun z_316 => aw_chk (aw_O σ 11 32 x2) ((f_X11_group σ x2 (xs (x4 + ((1 : Int32))).toNatClampNeg) (xs (x4 + ((2 : Int32))).toNatClampNeg) (xs (x4 + ((3 : Int32))).toNatClampNeg) (xs (x4 + ((4 : Int32))).toNatClampNeg) z_316.2).bind (fun z_318 => (f_X11_thrown σ x2 z_318.2).bind (fun z_321 => if z_321.1 = z_316.1 then if z_316.1 = 0 then aw_chk (aw_I σ 21 x3 ((0 : Int32))) (if (lg_cmp (z_321.2.2 x3 ((0 : Int32)).toNatClampNeg) z_318.1.toInt64) = 0 then kb σ z_321.2 else some ((0 : Int32))) else kb σ z_321.2 else some ((0 : Int32))))))))))
def f_law_C25 (xs : Nat → Int32) (L : Nat) (kb : Sg → Dt → Option Int32) (x1 x2 x3 : Nat) (x4 : Int32) (σ : Sg) (d : Dt) : Option Int32 :=
  aw_chk (¬ ((x4 + ((1 : Int32))) < 0 ∨ L ≤ (x4 + ((1 : Int32))).toNatClampNeg)) (aw_chk (¬ ((x4 + ((2 : Int32))) < 0 ∨ L ≤ (x4 + ((2 : Int32))).toNatClampNeg)) ((f_L_score σ x1 (xs (x4 + ((1 : Int32))).toNatClampNeg) (xs (x4 + ((2 : Int32))).toNatClampNeg) x3 d).bind (fun z_326 => aw_chk (aw_O σ 11 32 x2) ((f_X11_score σ x2 (xs (x4 + ((1 : Int32))).toNatClampNeg) (xs (x4 + ((2 : Int32))).toNatClampNeg) z_326.2).bind (fun z_328 => (f_X11_thrown σ x2 z_328.2).bind (fun z_331 => if z_331.1 = z_326.1 then if z_326.1 = 0 then aw_chk (aw_I σ 21 x3 ((0 : Int32))) (if (lg_cmp (z_331.2.2 x3 ((0 : Int32)).toNatClampNeg) z_328.1.toInt64) = 0 then kb σ z_331.2 else some ((0 : Int32))) else kb σ z_331.2 else some ((0 : Int32))))))))
def f_law_C26 (xs : Nat → Int32) (L : Nat) (kb : Sg → Dt → Option Int32) (x1 x2 x3 : Nat) (x4 : Int32) (σ : Sg) (d : Dt) : Option Int32 :=
  aw_chk (¬ ((x4 + ((1 : Int32))) < 0 ∨ L ≤ (x4 + ((1 : Int32))).toNatClampNeg)) ((f_L_votes σ x1 (xs (x4 + ((1 : Int32))).toNatClampNeg) x3 d).bind (fun z_335 => aw_chk (aw_O σ 11 32 x2) ((f_X11_votes σ x2 (xs (x4 + ((1 : Int32))).toNatClampNeg) z_335.2).bind (fun z_337 => (f_X11_thrown σ x2 z_337.2).bind (fun z_340 => if z_340.1 = z_335.1 then if z_335.1 = 0 then aw_chk (aw_I σ 21 x3 ((0 : Int32))) (if (lg_cmp (z_340.2.2 x3 ((0 : Int32)).toNatClampNeg) z_337.1.toInt64) = 0 then kb σ z_340.2 else some ((0 : Int32))) else kb σ z_340.2 else some ((0 : Int32)))))))
def f_law_C27 (xs : Nat → Int32) (L : Nat) (kb : Sg → Dt → Option Int32) (x1 x2 x3 : Nat) (x4 : Int32) (σ : Sg) (d : Dt) : Option Int32 :=
  (f_L_elected σ x1 x3 d).bind (fun z_343 => aw_chk (aw_O σ 11 32 x2) ((f_X11_elected σ x2 z_343.2).bind (fun z_345 => (f_X11_thrown σ x2 z_345.2).bind (fun z_348 => if z_348.1 = z_343.1 then if z_343.1 = 0 then aw_chk (aw_I σ 21 x3 ((0 : Int32))) (if (lg_cmp (z_348.2.2 x3 ((0 : Int32)).toNatClampNeg) z_345.1.toInt64) = 0 then kb σ z_348.2 else some ((0 : Int32))) else kb σ z_348.2 else some ((0 : Int32))))))
def f_law_C28 (xs : Nat → Int32) (L : Nat) (kb : Sg → Dt → Option Int32) (x1 x2 x3 : Nat) (x4 : Int32) (σ : Sg) (d : Dt) : Option Int32 :=
  aw_chk (¬ ((x4 + ((1 : Int32))) < 0 ∨ L ≤ (x4 + ((1 : Int32))).toNatClampNeg)) (aw_chk (¬ ((x4 + ((2 : Int32))) < 0 ∨ L ≤ (x4 + ((2 : Int32))).toNatClampNeg)) ((f_L_reform σ x1 (xs (x4 + ((1 : Int32))).toNatClampNeg) (xs (x4 + ((2 : Int32))).toNatClampNeg) x3 d).bind (fun z_353 => aw_chk (aw_O σ 11 32 x2) ((f_X11_reform σ x2 (xs (x4 + ((1 : Int32))).toNatClampNeg) (xs (x4 + ((2 : Int32))).toNatClampNeg) z_353.2).bind (fun z_355 => (f_X11_thrown σ x2 z_355.2).bind (fun z_358 => if z_358.1 = z_353.1 then if z_353.1 = 0 then aw_chk (aw_I σ 21 x3 ((0 : Int32))) (if (lg_cmp (z_358.2.2 x3 ((0 : Int32)).toNatClampNeg) z_355.1.toInt64) = 0 then kb σ z_358.2 else some ((0 : Int32))) else kb σ z_358.2 else some ((0 : Int32))))))))
def f_law_C29 (xs : Nat → Int32) (L : Nat) (kb : Sg → Dt → Option Int32) (x1 x2 x3 : Nat) (x4 : Int32) (σ : Sg) (d : Dt) : Option Int32 :=
  aw_chk (¬ ((x4 + ((1 : Int32))) < 0 ∨ L ≤ (x4 + ((1 : Int32))).toNatClampNeg)) (aw_chk (¬ ((x4 + ((2 : Int32))) < 0 ∨ L ≤ (x4 + ((2 : Int32))).toNatClampNeg)) ((f_L_lost σ x1 (xs (x4 + ((1 : Int32))).toNatClampNeg) (xs (x4 + ((2 : Int32))).toNatClampNeg) x3 d).bind (fun z_363 => aw_chk (aw_O σ 11 32 x2) ((f_X11_lost σ x2 (xs (x4 + ((1 : Int32))).toNatClampNeg) (xs (x4 + ((2 : Int32))).toNatClampNeg) z_363.2).bind (fun z_365 => (f_X11_thrown σ x2 z_365.2).bind (fun z_368 => if z_368.1 = z_363.1 then if z_363.1 = 0 then aw_chk (aw_I σ 21 x3 ((0 : Int32))) (if (lg_cmp (z_368.2.2 x3 ((0 : Int32)).toNatClampNeg) z_365.1.toInt64) = 0 then kb σ z_368.2 else some ((0 : Int32))) else kb σ z_368.2 else some ((0 : Int32))))))))
section LAW1
variable {p : Program} {l : Launch} {e : Env} {s : State} {m : MethodId} {below : List Frame} {meth : Method} {c : Code}
variable {D : va_G} {cA : Nat → ClassId} {ad0 : Nat → Nat} {σ0 : Sg}
set_option maxHeartbeats 4000000 in
set_option maxRecDepth 100000 in
theorem w_law_C15 (hst : l.stackTraces = false) (X : aw_X p c cL_law 8 s RL m meth ret) {b L : Nat} {xs : Nat → Int32} (hX : va_X b L xs s s.heap) (hbl : b < s.heap.size) {kb : Sg → Dt → Option Int32} {x1 x2 x3 : Nat} {x4 : Int32} {σ : Sg} {d : Dt} {ad : Nat → Nat} (hf : f_law_C15 xs L kb x1 x2 x3 x4 σ d = some 1) {cells slots : Nat} (hrc : cells + 4 ≤ 601024) (hrs : slots + 105 ≤ 7293033) (hkb : ∀ (σ : Sg) (d : Dt), kb σ d = some 1 → ∀ (ad : Nat → Nat), aw_ext σ0 ad0 σ ad → ∀ (H : Heap) (locs : List Loc) (ls : Array Slot), lv_has ls 8 [(0, .ref b), (1, .ref (ad x1)), (2, .ref (ad x2)), (3, .ref (ad x3)), (4, .int x4)] → aw_G D cA s.heap.size ad σ d s H locs → W p l e room_1 s m #[Value.ref b] below meth c H locs (cells + 4) (slots + 105) (lw_Z below #[Value.ref b] s) (F0 m 2257 ls [])) (E : aw_ext σ0 ad0 σ ad) {H : Heap} {locs : List Loc} {ls : Array Slot} (hl : lv_has ls 8 [(0, .ref b), (1, .ref (ad x1)), (2, .ref (ad x2)), (3, .ref (ad x3)), (4, .int x4)]) (G : aw_G D cA s.heap.size ad σ d s H locs) : W p l e room_1 s m #[Value.ref b] below meth c H locs cells slots (lw_Z below #[Value.ref b] s) (F0 m 1297 ls []) := by
  have hx := X.1; have hb := X.2.1; have hml := X.2.2.1; have hown := X.2.2.2.1
  have hbA : ¬ (fun q => s.heap.size ≤ q) b := Nat.not_le.mpr hbl
  unfold f_law_C15 at hf
  refine lv_aload_n hx hb dL_law_1297 rfl (lv_at hl 1 rfl) ?_
  refine lv_aload_n hx hb dL_law_1298 rfl (lv_at hl 0 rfl) ?_
  refine lv_iload hx hb dL_law_1299 (lv_at hl 4 rfl) ?_
  refine lv_iconst (v := (1 : Int32)) hx hb dL_law_1301 (by decide) ?_
  refine lv_iadd hx hb dL_law_1302 ?_
  obtain ⟨hc_226, hf⟩ := aw_chk_some hf
  refine va_sld hx hb hX hbl hbA G.2.2.2.2 hc_226 dL_law_1303 ?_
  refine lv_aload_n hx hb dL_law_1304 rfl (lv_at hl 0 rfl) ?_
  refine lv_iload hx hb dL_law_1305 (lv_at hl 4 rfl) ?_
  refine lv_iconst (v := (2 : Int32)) hx hb dL_law_1307 (by decide) ?_
  refine lv_iadd hx hb dL_law_1308 ?_
  obtain ⟨hc_227, hf⟩ := aw_chk_some hf
  refine va_sld hx hb hX hbl hbA G.2.2.2.2 hc_227 dL_law_1309 ?_
  refine lv_aload_n hx hb dL_law_1310 rfl (lv_at hl 3 rfl) ?_
  obtain ⟨z_228, hz_229, hf⟩ := aw_bind_some hf
  refine aw_WI (As := [.ref (ad x1), .int (xs (x4 + ((1 : Int32))).toNatClampNeg), .int (xs (x4 + ((2 : Int32))).toNatClampNeg), .ref (ad x3)]) (rest := []) X G hl.1 cr_L_174 (c_L_apart l hst hz_229) rfl rfl rfl ⟨Nat.le_of_ble_eq_true rfl, Nat.le_of_ble_eq_true rfl⟩ (Nat.le_of_ble_eq_true rfl) dL_law_1311 ⟨by show cells + 2 ≤ 601024; omega, by show slots + 12 ≤ 7293033; omega⟩ (fun H locs G => ?_)
  refine W.widen (k := cells + 4) (n := slots + 105) (by show cells + 2 ≤ cells + 4; omega) (by show slots + 12 ≤ slots + 105; omega) ?_
  refine lv_istore (lv' := [(5, .int z_228.1), (0, .ref b), (1, .ref (ad x1)), (2, .ref (ad x2)), (3, .ref (ad x3)), (4, .int x4)]) hx hb dL_law_1314 hl (by decide) rfl (fun ls hl => ?_)
  refine lv_aload_n hx hb dL_law_1316 rfl (lv_at hl 3 rfl) ?_
  refine lv_aload_n hx hb dL_law_1317 rfl (lv_at hl 1 rfl) ?_
  refine lv_iload hx hb dL_law_1318 (lv_at hl 5 rfl) ?_
  refine lv_iconst (v := (1 : Int32)) hx hb dL_law_1320 (by decide) ?_
  refine lv_iadd hx hb dL_law_1321 ?_
  refine va_sld hx hb hX hbl hbA G.2.2.2.2 hc_226 dL_law_1322 ?_
  refine lv_aload_n hx hb dL_law_1323 rfl (lv_at hl 1 rfl) ?_
  refine lv_iload hx hb dL_law_1324 (lv_at hl 5 rfl) ?_
  refine lv_iconst (v := (2 : Int32)) hx hb dL_law_1326 (by decide) ?_
  refine lv_iadd hx hb dL_law_1327 ?_
  refine va_sld hx hb hX hbl hbA G.2.2.2.2 hc_227 dL_law_1328 ?_
  obtain ⟨hc_232, hf⟩ := aw_chk_some hf
  obtain ⟨z_230, hz_231, hf⟩ := aw_bind_some hf
  refine aw_VI (As := [.int (xs (x4 + ((1 : Int32))).toNatClampNeg), .int (xs (x4 + ((2 : Int32))).toNatClampNeg)]) (rest := []) X G hl.1 cr_L_176 (c_X11_apart l hz_231) ⟨rfl, rfl⟩ rfl rfl rfl (by decide) hc_232 rfl ⟨Nat.le_of_ble_eq_true rfl, Nat.le_of_ble_eq_true rfl⟩ (Nat.le_of_ble_eq_true rfl) dL_law_1329 ⟨by show cells + 4 ≤ 601024; omega, by show slots + 105 ≤ 7293033; omega⟩ (fun H locs G => ?_)
  refine lv_istore (lv' := [(6, .int z_230.1), (5, .int z_228.1), (0, .ref b), (1, .ref (ad x1)), (2, .ref (ad x2)), (3, .ref (ad x3)), (4, .int x4)]) hx hb dL_law_1332 hl (by decide) rfl (fun ls hl => ?_)
  refine lv_aload_n hx hb dL_law_1334 rfl (lv_at hl 4 rfl) ?_
  obtain ⟨z_233, hz_234, hf⟩ := aw_bind_some hf
  refine aw_VI (As := []) (rest := []) X G hl.1 cr_L_124 (c_X11_thrown l hz_234) ⟨rfl, rfl⟩ rfl rfl rfl (by decide) hc_232 rfl ⟨Nat.le_of_ble_eq_true rfl, Nat.le_of_ble_eq_true rfl⟩ (Nat.le_of_ble_eq_true rfl) dL_law_1335 ⟨by show cells + 4 ≤ 601024; omega, by show slots + 105 ≤ 7293033; omega⟩ (fun H locs G => ?_)
  refine lv_iload hx hb dL_law_1338 (lv_at hl 1 rfl) ?_
  refine lv_icmp_eq (tgt := 1345) hx hb dL_law_1340 (by decide) (fun hc => ?_) (fun hc => ?_)
  · have hf := aw_ite_t hc hf
    refine lv_iload hx hb dL_law_1345 (lv_at hl 1 rfl) ?_
    refine lv_if_ne (tgt := 1362) hx hb dL_law_1347 (by decide) (fun hc => ?_) (fun hc => ?_)
    · have hf := aw_ite_f hc hf
      refine lv_goto (tgt := 2257) hx hb dL_law_1362 (by decide) ?_
      refine W.widen (k := cells + 4) (n := slots + 105) (by omega) (by omega) ?_
      exact hkb _ _ hf _ E _ _ _ (lv_sub hl [2, 3, 4, 5, 6] rfl) G
    · have hf := aw_ite_t hc hf
      refine lv_aload_n hx hb dL_law_1350 rfl (lv_at hl 5 rfl) ?_
      refine lv_iconst (v := (0 : Int32)) hx hb dL_law_1351 (by decide) ?_
      obtain ⟨hc_235, hf⟩ := aw_chk_some hf
      refine aw_lal hx hb G hc_235 dL_law_1352 ?_
      refine lv_iload hx hb dL_law_1353 (lv_at hl 0 rfl) ?_
      refine lv_i2l hx hb dL_law_1355 rfl ?_
      refine W.lcmp hx hb dL_law_1356 ?_
      refine lv_if_eq (tgt := 1362) hx hb dL_law_1357 (by decide) (fun hc => ?_) (fun hc => ?_)
      · have hf := aw_ite_t hc hf
        refine lv_goto (tgt := 2257) hx hb dL_law_1362 (by decide) ?_
        refine W.widen (k := cells + 4) (n := slots + 105) (by omega) (by omega) ?_
        exact hkb _ _ hf _ E _ _ _ (lv_sub hl [2, 3, 4, 5, 6] rfl) G
      · have hf := aw_ite_f hc hf
        refine lv_iconst (v := (0 : Int32)) hx hb dL_law_1360 (by decide) ?_
        exact absurd (Option.some.inj hf) (by decide)
  · have hf := aw_ite_f hc hf
    refine lv_iconst (v := (0 : Int32)) hx hb dL_law_1343 (by decide) ?_
    exact absurd (Option.some.inj hf) (by decide)
set_option maxHeartbeats 4000000 in
set_option maxRecDepth 100000 in
theorem w_law_C16 (hst : l.stackTraces = false) (X : aw_X p c cL_law 8 s RL m meth ret) {b L : Nat} {xs : Nat → Int32} (hX : va_X b L xs s s.heap) (hbl : b < s.heap.size) {kb : Sg → Dt → Option Int32} {x1 x2 x3 : Nat} {x4 : Int32} {σ : Sg} {d : Dt} {ad : Nat → Nat} (hf : f_law_C16 xs L kb x1 x2 x3 x4 σ d = some 1) {cells slots : Nat} (hrc : cells + 4 ≤ 601024) (hrs : slots + 105 ≤ 7293033) (hkb : ∀ (σ : Sg) (d : Dt), kb σ d = some 1 → ∀ (ad : Nat → Nat), aw_ext σ0 ad0 σ ad → ∀ (H : Heap) (locs : List Loc) (ls : Array Slot), lv_has ls 8 [(0, .ref b), (1, .ref (ad x1)), (2, .ref (ad x2)), (3, .ref (ad x3)), (4, .int x4)] → aw_G D cA s.heap.size ad σ d s H locs → W p l e room_1 s m #[Value.ref b] below meth c H locs (cells + 4) (slots + 105) (lw_Z below #[Value.ref b] s) (F0 m 2257 ls [])) (E : aw_ext σ0 ad0 σ ad) {H : Heap} {locs : List Loc} {ls : Array Slot} (hl : lv_has ls 8 [(0, .ref b), (1, .ref (ad x1)), (2, .ref (ad x2)), (3, .ref (ad x3)), (4, .int x4)]) (G : aw_G D cA s.heap.size ad σ d s H locs) : W p l e room_1 s m #[Value.ref b] below meth c H locs cells slots (lw_Z below #[Value.ref b] s) (F0 m 1365 ls []) := by
  have hx := X.1; have hb := X.2.1; have hml := X.2.2.1; have hown := X.2.2.2.1
  have hbA : ¬ (fun q => s.heap.size ≤ q) b := Nat.not_le.mpr hbl
  unfold f_law_C16 at hf
  refine lv_aload_n hx hb dL_law_1365 rfl (lv_at hl 1 rfl) ?_
  refine lv_aload_n hx hb dL_law_1366 rfl (lv_at hl 0 rfl) ?_
  refine lv_iload hx hb dL_law_1367 (lv_at hl 4 rfl) ?_
  refine lv_iconst (v := (1 : Int32)) hx hb dL_law_1369 (by decide) ?_
  refine lv_iadd hx hb dL_law_1370 ?_
  obtain ⟨hc_236, hf⟩ := aw_chk_some hf
  refine va_sld hx hb hX hbl hbA G.2.2.2.2 hc_236 dL_law_1371 ?_
  refine lv_aload_n hx hb dL_law_1372 rfl (lv_at hl 3 rfl) ?_
  obtain ⟨z_237, hz_238, hf⟩ := aw_bind_some hf
  refine aw_WI (As := [.ref (ad x1), .int (xs (x4 + ((1 : Int32))).toNatClampNeg), .ref (ad x3)]) (rest := []) X G hl.1 cr_L_177 (c_L_clear l hst hz_238) rfl rfl rfl ⟨Nat.le_of_ble_eq_true rfl, Nat.le_of_ble_eq_true rfl⟩ (Nat.le_of_ble_eq_true rfl) dL_law_1373 ⟨by show cells + 1 ≤ 601024; omega, by show slots + 6 ≤ 7293033; omega⟩ (fun H locs G => ?_)
  refine W.widen (k := cells + 4) (n := slots + 105) (by show cells + 1 ≤ cells + 4; omega) (by show slots + 6 ≤ slots + 105; omega) ?_
  refine lv_istore (lv' := [(5, .int z_237.1), (0, .ref b), (1, .ref (ad x1)), (2, .ref (ad x2)), (3, .ref (ad x3)), (4, .int x4)]) hx hb dL_law_1376 hl (by decide) rfl (fun ls hl => ?_)
  refine lv_aload_n hx hb dL_law_1378 rfl (lv_at hl 3 rfl) ?_
  refine lv_aload_n hx hb dL_law_1379 rfl (lv_at hl 1 rfl) ?_
  refine lv_iload hx hb dL_law_1380 (lv_at hl 5 rfl) ?_
  refine lv_iconst (v := (1 : Int32)) hx hb dL_law_1382 (by decide) ?_
  refine lv_iadd hx hb dL_law_1383 ?_
  refine va_sld hx hb hX hbl hbA G.2.2.2.2 hc_236 dL_law_1384 ?_
  obtain ⟨hc_241, hf⟩ := aw_chk_some hf
  obtain ⟨z_239, hz_240, hf⟩ := aw_bind_some hf
  refine aw_VI (As := [.int (xs (x4 + ((1 : Int32))).toNatClampNeg)]) (rest := []) X G hl.1 cr_L_179 (c_X11_clear l hz_240) ⟨rfl, rfl⟩ rfl rfl rfl (by decide) hc_241 rfl ⟨Nat.le_of_ble_eq_true rfl, Nat.le_of_ble_eq_true rfl⟩ (Nat.le_of_ble_eq_true rfl) dL_law_1385 ⟨by show cells + 4 ≤ 601024; omega, by show slots + 105 ≤ 7293033; omega⟩ (fun H locs G => ?_)
  refine lv_istore (lv' := [(6, .int z_239.1), (5, .int z_237.1), (0, .ref b), (1, .ref (ad x1)), (2, .ref (ad x2)), (3, .ref (ad x3)), (4, .int x4)]) hx hb dL_law_1388 hl (by decide) rfl (fun ls hl => ?_)
  refine lv_aload_n hx hb dL_law_1390 rfl (lv_at hl 4 rfl) ?_
  obtain ⟨z_242, hz_243, hf⟩ := aw_bind_some hf
  refine aw_VI (As := []) (rest := []) X G hl.1 cr_L_124 (c_X11_thrown l hz_243) ⟨rfl, rfl⟩ rfl rfl rfl (by decide) hc_241 rfl ⟨Nat.le_of_ble_eq_true rfl, Nat.le_of_ble_eq_true rfl⟩ (Nat.le_of_ble_eq_true rfl) dL_law_1391 ⟨by show cells + 4 ≤ 601024; omega, by show slots + 105 ≤ 7293033; omega⟩ (fun H locs G => ?_)
  refine lv_iload hx hb dL_law_1394 (lv_at hl 1 rfl) ?_
  refine lv_icmp_eq (tgt := 1401) hx hb dL_law_1396 (by decide) (fun hc => ?_) (fun hc => ?_)
  · have hf := aw_ite_t hc hf
    refine lv_iload hx hb dL_law_1401 (lv_at hl 1 rfl) ?_
    refine lv_if_ne (tgt := 1418) hx hb dL_law_1403 (by decide) (fun hc => ?_) (fun hc => ?_)
    · have hf := aw_ite_f hc hf
      refine lv_goto (tgt := 2257) hx hb dL_law_1418 (by decide) ?_
      refine W.widen (k := cells + 4) (n := slots + 105) (by omega) (by omega) ?_
      exact hkb _ _ hf _ E _ _ _ (lv_sub hl [2, 3, 4, 5, 6] rfl) G
    · have hf := aw_ite_t hc hf
      refine lv_aload_n hx hb dL_law_1406 rfl (lv_at hl 5 rfl) ?_
      refine lv_iconst (v := (0 : Int32)) hx hb dL_law_1407 (by decide) ?_
      obtain ⟨hc_244, hf⟩ := aw_chk_some hf
      refine aw_lal hx hb G hc_244 dL_law_1408 ?_
      refine lv_iload hx hb dL_law_1409 (lv_at hl 0 rfl) ?_
      refine lv_i2l hx hb dL_law_1411 rfl ?_
      refine W.lcmp hx hb dL_law_1412 ?_
      refine lv_if_eq (tgt := 1418) hx hb dL_law_1413 (by decide) (fun hc => ?_) (fun hc => ?_)
      · have hf := aw_ite_t hc hf
        refine lv_goto (tgt := 2257) hx hb dL_law_1418 (by decide) ?_
        refine W.widen (k := cells + 4) (n := slots + 105) (by omega) (by omega) ?_
        exact hkb _ _ hf _ E _ _ _ (lv_sub hl [2, 3, 4, 5, 6] rfl) G
      · have hf := aw_ite_f hc hf
        refine lv_iconst (v := (0 : Int32)) hx hb dL_law_1416 (by decide) ?_
        exact absurd (Option.some.inj hf) (by decide)
  · have hf := aw_ite_f hc hf
    refine lv_iconst (v := (0 : Int32)) hx hb dL_law_1399 (by decide) ?_
    exact absurd (Option.some.inj hf) (by decide)
set_option maxHeartbeats 4000000 in
set_option maxRecDepth 100000 in
theorem w_law_C17 (hst : l.stackTraces = false) (X : aw_X p c cL_law 8 s RL m meth ret) {b L : Nat} {xs : Nat → Int32} (hX : va_X b L xs s s.heap) (hbl : b < s.heap.size) {kb : Sg → Dt → Option Int32} {x1 x2 x3 : Nat} {x4 : Int32} {σ : Sg} {d : Dt} {ad : Nat → Nat} (hf : f_law_C17 xs L kb x1 x2 x3 x4 σ d = some 1) {cells slots : Nat} (hrc : cells + 4 ≤ 601024) (hrs : slots + 105 ≤ 7293033) (hkb : ∀ (σ : Sg) (d : Dt), kb σ d = some 1 → ∀ (ad : Nat → Nat), aw_ext σ0 ad0 σ ad → ∀ (H : Heap) (locs : List Loc) (ls : Array Slot), lv_has ls 8 [(0, .ref b), (1, .ref (ad x1)), (2, .ref (ad x2)), (3, .ref (ad x3)), (4, .int x4)] → aw_G D cA s.heap.size ad σ d s H locs → W p l e room_1 s m #[Value.ref b] below meth c H locs (cells + 4) (slots + 105) (lw_Z below #[Value.ref b] s) (F0 m 2257 ls [])) (E : aw_ext σ0 ad0 σ ad) {H : Heap} {locs : List Loc} {ls : Array Slot} (hl : lv_has ls 8 [(0, .ref b), (1, .ref (ad x1)), (2, .ref (ad x2)), (3, .ref (ad x3)), (4, .int x4)]) (G : aw_G D cA s.heap.size ad σ d s H locs) : W p l e room_1 s m #[Value.ref b] below meth c H locs cells slots (lw_Z below #[Value.ref b] s) (F0 m 1421 ls []) := by
  have hx := X.1; have hb := X.2.1; have hml := X.2.2.1; have hown := X.2.2.2.1
  have hbA : ¬ (fun q => s.heap.size ≤ q) b := Nat.not_le.mpr hbl
  unfold f_law_C17 at hf
  refine lv_aload_n hx hb dL_law_1421 rfl (lv_at hl 1 rfl) ?_
  refine lv_aload_n hx hb dL_law_1422 rfl (lv_at hl 0 rfl) ?_
  refine lv_iload hx hb dL_law_1423 (lv_at hl 4 rfl) ?_
  refine lv_iconst (v := (1 : Int32)) hx hb dL_law_1425 (by decide) ?_
  refine lv_iadd hx hb dL_law_1426 ?_
  obtain ⟨hc_245, hf⟩ := aw_chk_some hf
  refine va_sld hx hb hX hbl hbA G.2.2.2.2 hc_245 dL_law_1427 ?_
  refine lv_aload_n hx hb dL_law_1428 rfl (lv_at hl 0 rfl) ?_
  refine lv_iload hx hb dL_law_1429 (lv_at hl 4 rfl) ?_
  refine lv_iconst (v := (2 : Int32)) hx hb dL_law_1431 (by decide) ?_
  refine lv_iadd hx hb dL_law_1432 ?_
  obtain ⟨hc_246, hf⟩ := aw_chk_some hf
  refine va_sld hx hb hX hbl hbA G.2.2.2.2 hc_246 dL_law_1433 ?_
  refine lv_aload_n hx hb dL_law_1434 rfl (lv_at hl 3 rfl) ?_
  obtain ⟨z_247, hz_248, hf⟩ := aw_bind_some hf
  refine aw_WI (As := [.ref (ad x1), .int (xs (x4 + ((1 : Int32))).toNatClampNeg), .int (xs (x4 + ((2 : Int32))).toNatClampNeg), .ref (ad x3)]) (rest := []) X G hl.1 cr_L_180 (c_L_errors l hst hz_248) rfl rfl rfl ⟨Nat.le_of_ble_eq_true rfl, Nat.le_of_ble_eq_true rfl⟩ (Nat.le_of_ble_eq_true rfl) dL_law_1435 ⟨by show cells + 2 ≤ 601024; omega, by show slots + 12 ≤ 7293033; omega⟩ (fun H locs G => ?_)
  refine W.widen (k := cells + 4) (n := slots + 105) (by show cells + 2 ≤ cells + 4; omega) (by show slots + 12 ≤ slots + 105; omega) ?_
  refine lv_istore (lv' := [(5, .int z_247.1), (0, .ref b), (1, .ref (ad x1)), (2, .ref (ad x2)), (3, .ref (ad x3)), (4, .int x4)]) hx hb dL_law_1438 hl (by decide) rfl (fun ls hl => ?_)
  refine lv_aload_n hx hb dL_law_1440 rfl (lv_at hl 3 rfl) ?_
  refine lv_aload_n hx hb dL_law_1441 rfl (lv_at hl 1 rfl) ?_
  refine lv_iload hx hb dL_law_1442 (lv_at hl 5 rfl) ?_
  refine lv_iconst (v := (1 : Int32)) hx hb dL_law_1444 (by decide) ?_
  refine lv_iadd hx hb dL_law_1445 ?_
  refine va_sld hx hb hX hbl hbA G.2.2.2.2 hc_245 dL_law_1446 ?_
  refine lv_aload_n hx hb dL_law_1447 rfl (lv_at hl 1 rfl) ?_
  refine lv_iload hx hb dL_law_1448 (lv_at hl 5 rfl) ?_
  refine lv_iconst (v := (2 : Int32)) hx hb dL_law_1450 (by decide) ?_
  refine lv_iadd hx hb dL_law_1451 ?_
  refine va_sld hx hb hX hbl hbA G.2.2.2.2 hc_246 dL_law_1452 ?_
  obtain ⟨hc_251, hf⟩ := aw_chk_some hf
  obtain ⟨z_249, hz_250, hf⟩ := aw_bind_some hf
  refine aw_VI (As := [.int (xs (x4 + ((1 : Int32))).toNatClampNeg), .int (xs (x4 + ((2 : Int32))).toNatClampNeg)]) (rest := []) X G hl.1 cr_L_182 (c_X11_errors l hz_250) ⟨rfl, rfl⟩ rfl rfl rfl (by decide) hc_251 rfl ⟨Nat.le_of_ble_eq_true rfl, Nat.le_of_ble_eq_true rfl⟩ (Nat.le_of_ble_eq_true rfl) dL_law_1453 ⟨by show cells + 4 ≤ 601024; omega, by show slots + 105 ≤ 7293033; omega⟩ (fun H locs G => ?_)
  refine lv_istore (lv' := [(6, .int z_249.1), (5, .int z_247.1), (0, .ref b), (1, .ref (ad x1)), (2, .ref (ad x2)), (3, .ref (ad x3)), (4, .int x4)]) hx hb dL_law_1456 hl (by decide) rfl (fun ls hl => ?_)
  refine lv_aload_n hx hb dL_law_1458 rfl (lv_at hl 4 rfl) ?_
  obtain ⟨z_252, hz_253, hf⟩ := aw_bind_some hf
  refine aw_VI (As := []) (rest := []) X G hl.1 cr_L_124 (c_X11_thrown l hz_253) ⟨rfl, rfl⟩ rfl rfl rfl (by decide) hc_251 rfl ⟨Nat.le_of_ble_eq_true rfl, Nat.le_of_ble_eq_true rfl⟩ (Nat.le_of_ble_eq_true rfl) dL_law_1459 ⟨by show cells + 4 ≤ 601024; omega, by show slots + 105 ≤ 7293033; omega⟩ (fun H locs G => ?_)
  refine lv_iload hx hb dL_law_1462 (lv_at hl 1 rfl) ?_
  refine lv_icmp_eq (tgt := 1469) hx hb dL_law_1464 (by decide) (fun hc => ?_) (fun hc => ?_)
  · have hf := aw_ite_t hc hf
    refine lv_iload hx hb dL_law_1469 (lv_at hl 1 rfl) ?_
    refine lv_if_ne (tgt := 1486) hx hb dL_law_1471 (by decide) (fun hc => ?_) (fun hc => ?_)
    · have hf := aw_ite_f hc hf
      refine lv_goto (tgt := 2257) hx hb dL_law_1486 (by decide) ?_
      refine W.widen (k := cells + 4) (n := slots + 105) (by omega) (by omega) ?_
      exact hkb _ _ hf _ E _ _ _ (lv_sub hl [2, 3, 4, 5, 6] rfl) G
    · have hf := aw_ite_t hc hf
      refine lv_aload_n hx hb dL_law_1474 rfl (lv_at hl 5 rfl) ?_
      refine lv_iconst (v := (0 : Int32)) hx hb dL_law_1475 (by decide) ?_
      obtain ⟨hc_254, hf⟩ := aw_chk_some hf
      refine aw_lal hx hb G hc_254 dL_law_1476 ?_
      refine lv_iload hx hb dL_law_1477 (lv_at hl 0 rfl) ?_
      refine lv_i2l hx hb dL_law_1479 rfl ?_
      refine W.lcmp hx hb dL_law_1480 ?_
      refine lv_if_eq (tgt := 1486) hx hb dL_law_1481 (by decide) (fun hc => ?_) (fun hc => ?_)
      · have hf := aw_ite_t hc hf
        refine lv_goto (tgt := 2257) hx hb dL_law_1486 (by decide) ?_
        refine W.widen (k := cells + 4) (n := slots + 105) (by omega) (by omega) ?_
        exact hkb _ _ hf _ E _ _ _ (lv_sub hl [2, 3, 4, 5, 6] rfl) G
      · have hf := aw_ite_f hc hf
        refine lv_iconst (v := (0 : Int32)) hx hb dL_law_1484 (by decide) ?_
        exact absurd (Option.some.inj hf) (by decide)
  · have hf := aw_ite_f hc hf
    refine lv_iconst (v := (0 : Int32)) hx hb dL_law_1467 (by decide) ?_
    exact absurd (Option.some.inj hf) (by decide)
set_option maxHeartbeats 4000000 in
set_option maxRecDepth 100000 in
theorem w_law_C18 (hst : l.stackTraces = false) (X : aw_X p c cL_law 8 s RL m meth ret) {b L : Nat} {xs : Nat → Int32} (hX : va_X b L xs s s.heap) (hbl : b < s.heap.size) {kb : Sg → Dt → Option Int32} {x1 x2 x3 : Nat} {x4 : Int32} {σ : Sg} {d : Dt} {ad : Nat → Nat} (hf : f_law_C18 xs L kb x1 x2 x3 x4 σ d = some 1) {cells slots : Nat} (hrc : cells + 4 ≤ 601024) (hrs : slots + 105 ≤ 7293033) (hkb : ∀ (σ : Sg) (d : Dt), kb σ d = some 1 → ∀ (ad : Nat → Nat), aw_ext σ0 ad0 σ ad → ∀ (H : Heap) (locs : List Loc) (ls : Array Slot), lv_has ls 8 [(0, .ref b), (1, .ref (ad x1)), (2, .ref (ad x2)), (3, .ref (ad x3)), (4, .int x4)] → aw_G D cA s.heap.size ad σ d s H locs → W p l e room_1 s m #[Value.ref b] below meth c H locs (cells + 4) (slots + 105) (lw_Z below #[Value.ref b] s) (F0 m 2257 ls [])) (E : aw_ext σ0 ad0 σ ad) {H : Heap} {locs : List Loc} {ls : Array Slot} (hl : lv_has ls 8 [(0, .ref b), (1, .ref (ad x1)), (2, .ref (ad x2)), (3, .ref (ad x3)), (4, .int x4)]) (G : aw_G D cA s.heap.size ad σ d s H locs) : W p l e room_1 s m #[Value.ref b] below meth c H locs cells slots (lw_Z below #[Value.ref b] s) (F0 m 1489 ls []) := by
  have hx := X.1; have hb := X.2.1; have hml := X.2.2.1; have hown := X.2.2.2.1
  have hbA : ¬ (fun q => s.heap.size ≤ q) b := Nat.not_le.mpr hbl
  unfold f_law_C18 at hf
  refine lv_aload_n hx hb dL_law_1489 rfl (lv_at hl 1 rfl) ?_
  refine lv_aload_n hx hb dL_law_1490 rfl (lv_at hl 0 rfl) ?_
  refine lv_iload hx hb dL_law_1491 (lv_at hl 4 rfl) ?_
  refine lv_iconst (v := (1 : Int32)) hx hb dL_law_1493 (by decide) ?_
  refine lv_iadd hx hb dL_law_1494 ?_
  obtain ⟨hc_255, hf⟩ := aw_chk_some hf
  refine va_sld hx hb hX hbl hbA G.2.2.2.2 hc_255 dL_law_1495 ?_
  refine lv_aload_n hx hb dL_law_1496 rfl (lv_at hl 0 rfl) ?_
  refine lv_iload hx hb dL_law_1497 (lv_at hl 4 rfl) ?_
  refine lv_iconst (v := (2 : Int32)) hx hb dL_law_1499 (by decide) ?_
  refine lv_iadd hx hb dL_law_1500 ?_
  obtain ⟨hc_256, hf⟩ := aw_chk_some hf
  refine va_sld hx hb hX hbl hbA G.2.2.2.2 hc_256 dL_law_1501 ?_
  refine lv_aload_n hx hb dL_law_1502 rfl (lv_at hl 3 rfl) ?_
  obtain ⟨z_257, hz_258, hf⟩ := aw_bind_some hf
  refine aw_WI (As := [.ref (ad x1), .int (xs (x4 + ((1 : Int32))).toNatClampNeg), .int (xs (x4 + ((2 : Int32))).toNatClampNeg), .ref (ad x3)]) (rest := []) X G hl.1 cr_L_183 (c_L_primer l hst hz_258) rfl rfl rfl ⟨Nat.le_of_ble_eq_true rfl, Nat.le_of_ble_eq_true rfl⟩ (Nat.le_of_ble_eq_true rfl) dL_law_1503 ⟨by show cells + 2 ≤ 601024; omega, by show slots + 12 ≤ 7293033; omega⟩ (fun H locs G => ?_)
  refine W.widen (k := cells + 4) (n := slots + 105) (by show cells + 2 ≤ cells + 4; omega) (by show slots + 12 ≤ slots + 105; omega) ?_
  refine lv_istore (lv' := [(5, .int z_257.1), (0, .ref b), (1, .ref (ad x1)), (2, .ref (ad x2)), (3, .ref (ad x3)), (4, .int x4)]) hx hb dL_law_1506 hl (by decide) rfl (fun ls hl => ?_)
  refine lv_aload_n hx hb dL_law_1508 rfl (lv_at hl 3 rfl) ?_
  refine lv_aload_n hx hb dL_law_1509 rfl (lv_at hl 1 rfl) ?_
  refine lv_iload hx hb dL_law_1510 (lv_at hl 5 rfl) ?_
  refine lv_iconst (v := (1 : Int32)) hx hb dL_law_1512 (by decide) ?_
  refine lv_iadd hx hb dL_law_1513 ?_
  refine va_sld hx hb hX hbl hbA G.2.2.2.2 hc_255 dL_law_1514 ?_
  refine lv_aload_n hx hb dL_law_1515 rfl (lv_at hl 1 rfl) ?_
  refine lv_iload hx hb dL_law_1516 (lv_at hl 5 rfl) ?_
  refine lv_iconst (v := (2 : Int32)) hx hb dL_law_1518 (by decide) ?_
  refine lv_iadd hx hb dL_law_1519 ?_
  refine va_sld hx hb hX hbl hbA G.2.2.2.2 hc_256 dL_law_1520 ?_
  obtain ⟨hc_261, hf⟩ := aw_chk_some hf
  obtain ⟨z_259, hz_260, hf⟩ := aw_bind_some hf
  refine aw_VI (As := [.int (xs (x4 + ((1 : Int32))).toNatClampNeg), .int (xs (x4 + ((2 : Int32))).toNatClampNeg)]) (rest := []) X G hl.1 cr_L_185 (c_X11_primer l hz_260) ⟨rfl, rfl⟩ rfl rfl rfl (by decide) hc_261 rfl ⟨Nat.le_of_ble_eq_true rfl, Nat.le_of_ble_eq_true rfl⟩ (Nat.le_of_ble_eq_true rfl) dL_law_1521 ⟨by show cells + 4 ≤ 601024; omega, by show slots + 105 ≤ 7293033; omega⟩ (fun H locs G => ?_)
  refine lv_istore (lv' := [(6, .int z_259.1), (5, .int z_257.1), (0, .ref b), (1, .ref (ad x1)), (2, .ref (ad x2)), (3, .ref (ad x3)), (4, .int x4)]) hx hb dL_law_1524 hl (by decide) rfl (fun ls hl => ?_)
  refine lv_aload_n hx hb dL_law_1526 rfl (lv_at hl 4 rfl) ?_
  obtain ⟨z_262, hz_263, hf⟩ := aw_bind_some hf
  refine aw_VI (As := []) (rest := []) X G hl.1 cr_L_124 (c_X11_thrown l hz_263) ⟨rfl, rfl⟩ rfl rfl rfl (by decide) hc_261 rfl ⟨Nat.le_of_ble_eq_true rfl, Nat.le_of_ble_eq_true rfl⟩ (Nat.le_of_ble_eq_true rfl) dL_law_1527 ⟨by show cells + 4 ≤ 601024; omega, by show slots + 105 ≤ 7293033; omega⟩ (fun H locs G => ?_)
  refine lv_iload hx hb dL_law_1530 (lv_at hl 1 rfl) ?_
  refine lv_icmp_eq (tgt := 1537) hx hb dL_law_1532 (by decide) (fun hc => ?_) (fun hc => ?_)
  · have hf := aw_ite_t hc hf
    refine lv_iload hx hb dL_law_1537 (lv_at hl 1 rfl) ?_
    refine lv_if_ne (tgt := 1554) hx hb dL_law_1539 (by decide) (fun hc => ?_) (fun hc => ?_)
    · have hf := aw_ite_f hc hf
      refine lv_goto (tgt := 2257) hx hb dL_law_1554 (by decide) ?_
      refine W.widen (k := cells + 4) (n := slots + 105) (by omega) (by omega) ?_
      exact hkb _ _ hf _ E _ _ _ (lv_sub hl [2, 3, 4, 5, 6] rfl) G
    · have hf := aw_ite_t hc hf
      refine lv_aload_n hx hb dL_law_1542 rfl (lv_at hl 5 rfl) ?_
      refine lv_iconst (v := (0 : Int32)) hx hb dL_law_1543 (by decide) ?_
      obtain ⟨hc_264, hf⟩ := aw_chk_some hf
      refine aw_lal hx hb G hc_264 dL_law_1544 ?_
      refine lv_iload hx hb dL_law_1545 (lv_at hl 0 rfl) ?_
      refine lv_i2l hx hb dL_law_1547 rfl ?_
      refine W.lcmp hx hb dL_law_1548 ?_
      refine lv_if_eq (tgt := 1554) hx hb dL_law_1549 (by decide) (fun hc => ?_) (fun hc => ?_)
      · have hf := aw_ite_t hc hf
        refine lv_goto (tgt := 2257) hx hb dL_law_1554 (by decide) ?_
        refine W.widen (k := cells + 4) (n := slots + 105) (by omega) (by omega) ?_
        exact hkb _ _ hf _ E _ _ _ (lv_sub hl [2, 3, 4, 5, 6] rfl) G
      · have hf := aw_ite_f hc hf
        refine lv_iconst (v := (0 : Int32)) hx hb dL_law_1552 (by decide) ?_
        exact absurd (Option.some.inj hf) (by decide)
  · have hf := aw_ite_f hc hf
    refine lv_iconst (v := (0 : Int32)) hx hb dL_law_1535 (by decide) ?_
    exact absurd (Option.some.inj hf) (by decide)
set_option maxHeartbeats 4000000 in
set_option maxRecDepth 100000 in
theorem w_law_C19 (hst : l.stackTraces = false) (X : aw_X p c cL_law 8 s RL m meth ret) {b L : Nat} {xs : Nat → Int32} (hX : va_X b L xs s s.heap) (hbl : b < s.heap.size) {kb : Sg → Dt → Option Int32} {x1 x2 x3 : Nat} {x4 : Int32} {σ : Sg} {d : Dt} {ad : Nat → Nat} (hf : f_law_C19 xs L kb x1 x2 x3 x4 σ d = some 1) {cells slots : Nat} (hrc : cells + 4 ≤ 601024) (hrs : slots + 105 ≤ 7293033) (hkb : ∀ (σ : Sg) (d : Dt), kb σ d = some 1 → ∀ (ad : Nat → Nat), aw_ext σ0 ad0 σ ad → ∀ (H : Heap) (locs : List Loc) (ls : Array Slot), lv_has ls 8 [(0, .ref b), (1, .ref (ad x1)), (2, .ref (ad x2)), (3, .ref (ad x3)), (4, .int x4)] → aw_G D cA s.heap.size ad σ d s H locs → W p l e room_1 s m #[Value.ref b] below meth c H locs (cells + 4) (slots + 105) (lw_Z below #[Value.ref b] s) (F0 m 2257 ls [])) (E : aw_ext σ0 ad0 σ ad) {H : Heap} {locs : List Loc} {ls : Array Slot} (hl : lv_has ls 8 [(0, .ref b), (1, .ref (ad x1)), (2, .ref (ad x2)), (3, .ref (ad x3)), (4, .int x4)]) (G : aw_G D cA s.heap.size ad σ d s H locs) : W p l e room_1 s m #[Value.ref b] below meth c H locs cells slots (lw_Z below #[Value.ref b] s) (F0 m 1557 ls []) := by
  have hx := X.1; have hb := X.2.1; have hml := X.2.2.1; have hown := X.2.2.2.1
  have hbA : ¬ (fun q => s.heap.size ≤ q) b := Nat.not_le.mpr hbl
  unfold f_law_C19 at hf
  refine lv_aload_n hx hb dL_law_1557 rfl (lv_at hl 1 rfl) ?_
  refine lv_aload_n hx hb dL_law_1558 rfl (lv_at hl 0 rfl) ?_
  refine lv_iload hx hb dL_law_1559 (lv_at hl 4 rfl) ?_
  refine lv_iconst (v := (1 : Int32)) hx hb dL_law_1561 (by decide) ?_
  refine lv_iadd hx hb dL_law_1562 ?_
  obtain ⟨hc_265, hf⟩ := aw_chk_some hf
  refine va_sld hx hb hX hbl hbA G.2.2.2.2 hc_265 dL_law_1563 ?_
  refine lv_aload_n hx hb dL_law_1564 rfl (lv_at hl 3 rfl) ?_
  obtain ⟨z_266, hz_267, hf⟩ := aw_bind_some hf
  refine aw_WI (As := [.ref (ad x1), .int (xs (x4 + ((1 : Int32))).toNatClampNeg), .ref (ad x3)]) (rest := []) X G hl.1 cr_L_186 (c_L_cost l hst hz_267) rfl rfl rfl ⟨Nat.le_of_ble_eq_true rfl, Nat.le_of_ble_eq_true rfl⟩ (Nat.le_of_ble_eq_true rfl) dL_law_1565 ⟨by show cells + 1 ≤ 601024; omega, by show slots + 6 ≤ 7293033; omega⟩ (fun H locs G => ?_)
  refine W.widen (k := cells + 4) (n := slots + 105) (by show cells + 1 ≤ cells + 4; omega) (by show slots + 6 ≤ slots + 105; omega) ?_
  refine lv_istore (lv' := [(5, .int z_266.1), (0, .ref b), (1, .ref (ad x1)), (2, .ref (ad x2)), (3, .ref (ad x3)), (4, .int x4)]) hx hb dL_law_1568 hl (by decide) rfl (fun ls hl => ?_)
  refine lv_aload_n hx hb dL_law_1570 rfl (lv_at hl 3 rfl) ?_
  refine lv_aload_n hx hb dL_law_1571 rfl (lv_at hl 1 rfl) ?_
  refine lv_iload hx hb dL_law_1572 (lv_at hl 5 rfl) ?_
  refine lv_iconst (v := (1 : Int32)) hx hb dL_law_1574 (by decide) ?_
  refine lv_iadd hx hb dL_law_1575 ?_
  refine va_sld hx hb hX hbl hbA G.2.2.2.2 hc_265 dL_law_1576 ?_
  obtain ⟨hc_270, hf⟩ := aw_chk_some hf
  obtain ⟨z_268, hz_269, hf⟩ := aw_bind_some hf
  refine aw_VI (As := [.int (xs (x4 + ((1 : Int32))).toNatClampNeg)]) (rest := []) X G hl.1 cr_L_188 (c_X11_cost l hz_269) ⟨rfl, rfl⟩ rfl rfl rfl (by decide) hc_270 rfl ⟨Nat.le_of_ble_eq_true rfl, Nat.le_of_ble_eq_true rfl⟩ (Nat.le_of_ble_eq_true rfl) dL_law_1577 ⟨by show cells + 4 ≤ 601024; omega, by show slots + 105 ≤ 7293033; omega⟩ (fun H locs G => ?_)
  refine lv_istore (lv' := [(6, .int z_268.1), (5, .int z_266.1), (0, .ref b), (1, .ref (ad x1)), (2, .ref (ad x2)), (3, .ref (ad x3)), (4, .int x4)]) hx hb dL_law_1580 hl (by decide) rfl (fun ls hl => ?_)
  refine lv_aload_n hx hb dL_law_1582 rfl (lv_at hl 4 rfl) ?_
  obtain ⟨z_271, hz_272, hf⟩ := aw_bind_some hf
  refine aw_VI (As := []) (rest := []) X G hl.1 cr_L_124 (c_X11_thrown l hz_272) ⟨rfl, rfl⟩ rfl rfl rfl (by decide) hc_270 rfl ⟨Nat.le_of_ble_eq_true rfl, Nat.le_of_ble_eq_true rfl⟩ (Nat.le_of_ble_eq_true rfl) dL_law_1583 ⟨by show cells + 4 ≤ 601024; omega, by show slots + 105 ≤ 7293033; omega⟩ (fun H locs G => ?_)
  refine lv_iload hx hb dL_law_1586 (lv_at hl 1 rfl) ?_
  refine lv_icmp_eq (tgt := 1593) hx hb dL_law_1588 (by decide) (fun hc => ?_) (fun hc => ?_)
  · have hf := aw_ite_t hc hf
    refine lv_iload hx hb dL_law_1593 (lv_at hl 1 rfl) ?_
    refine lv_if_ne (tgt := 1610) hx hb dL_law_1595 (by decide) (fun hc => ?_) (fun hc => ?_)
    · have hf := aw_ite_f hc hf
      refine lv_goto (tgt := 2257) hx hb dL_law_1610 (by decide) ?_
      refine W.widen (k := cells + 4) (n := slots + 105) (by omega) (by omega) ?_
      exact hkb _ _ hf _ E _ _ _ (lv_sub hl [2, 3, 4, 5, 6] rfl) G
    · have hf := aw_ite_t hc hf
      refine lv_aload_n hx hb dL_law_1598 rfl (lv_at hl 5 rfl) ?_
      refine lv_iconst (v := (0 : Int32)) hx hb dL_law_1599 (by decide) ?_
      obtain ⟨hc_273, hf⟩ := aw_chk_some hf
      refine aw_lal hx hb G hc_273 dL_law_1600 ?_
      refine lv_iload hx hb dL_law_1601 (lv_at hl 0 rfl) ?_
      refine lv_i2l hx hb dL_law_1603 rfl ?_
      refine W.lcmp hx hb dL_law_1604 ?_
      refine lv_if_eq (tgt := 1610) hx hb dL_law_1605 (by decide) (fun hc => ?_) (fun hc => ?_)
      · have hf := aw_ite_t hc hf
        refine lv_goto (tgt := 2257) hx hb dL_law_1610 (by decide) ?_
        refine W.widen (k := cells + 4) (n := slots + 105) (by omega) (by omega) ?_
        exact hkb _ _ hf _ E _ _ _ (lv_sub hl [2, 3, 4, 5, 6] rfl) G
      · have hf := aw_ite_f hc hf
        refine lv_iconst (v := (0 : Int32)) hx hb dL_law_1608 (by decide) ?_
        exact absurd (Option.some.inj hf) (by decide)
  · have hf := aw_ite_f hc hf
    refine lv_iconst (v := (0 : Int32)) hx hb dL_law_1591 (by decide) ?_
    exact absurd (Option.some.inj hf) (by decide)
set_option maxHeartbeats 4000000 in
set_option maxRecDepth 100000 in
theorem w_law_C20 (hst : l.stackTraces = false) (X : aw_X p c cL_law 8 s RL m meth ret) {b L : Nat} {xs : Nat → Int32} (hX : va_X b L xs s s.heap) (hbl : b < s.heap.size) {kb : Sg → Dt → Option Int32} {x1 x2 x3 : Nat} {x4 : Int32} {σ : Sg} {d : Dt} {ad : Nat → Nat} (hf : f_law_C20 xs L kb x1 x2 x3 x4 σ d = some 1) {cells slots : Nat} (hrc : cells + 4 ≤ 601024) (hrs : slots + 105 ≤ 7293033) (hkb : ∀ (σ : Sg) (d : Dt), kb σ d = some 1 → ∀ (ad : Nat → Nat), aw_ext σ0 ad0 σ ad → ∀ (H : Heap) (locs : List Loc) (ls : Array Slot), lv_has ls 8 [(0, .ref b), (1, .ref (ad x1)), (2, .ref (ad x2)), (3, .ref (ad x3)), (4, .int x4)] → aw_G D cA s.heap.size ad σ d s H locs → W p l e room_1 s m #[Value.ref b] below meth c H locs (cells + 4) (slots + 105) (lw_Z below #[Value.ref b] s) (F0 m 2257 ls [])) (E : aw_ext σ0 ad0 σ ad) {H : Heap} {locs : List Loc} {ls : Array Slot} (hl : lv_has ls 8 [(0, .ref b), (1, .ref (ad x1)), (2, .ref (ad x2)), (3, .ref (ad x3)), (4, .int x4)]) (G : aw_G D cA s.heap.size ad σ d s H locs) : W p l e room_1 s m #[Value.ref b] below meth c H locs cells slots (lw_Z below #[Value.ref b] s) (F0 m 1613 ls []) := by
  have hx := X.1; have hb := X.2.1; have hml := X.2.2.1; have hown := X.2.2.2.1
  have hbA : ¬ (fun q => s.heap.size ≤ q) b := Nat.not_le.mpr hbl
  unfold f_law_C20 at hf
  refine lv_aload_n hx hb dL_law_1613 rfl (lv_at hl 1 rfl) ?_
  refine lv_aload_n hx hb dL_law_1614 rfl (lv_at hl 0 rfl) ?_
  refine lv_iload hx hb dL_law_1615 (lv_at hl 4 rfl) ?_
  refine lv_iconst (v := (1 : Int32)) hx hb dL_law_1617 (by decide) ?_
  refine lv_iadd hx hb dL_law_1618 ?_
  obtain ⟨hc_274, hf⟩ := aw_chk_some hf
  refine va_sld hx hb hX hbl hbA G.2.2.2.2 hc_274 dL_law_1619 ?_
  refine lv_aload_n hx hb dL_law_1620 rfl (lv_at hl 3 rfl) ?_
  obtain ⟨z_275, hz_276, hf⟩ := aw_bind_some hf
  refine aw_WI (As := [.ref (ad x1), .int (xs (x4 + ((1 : Int32))).toNatClampNeg), .ref (ad x3)]) (rest := []) X G hl.1 cr_L_189 (c_L_leastCost l hst hz_276) rfl rfl rfl ⟨Nat.le_of_ble_eq_true rfl, Nat.le_of_ble_eq_true rfl⟩ (Nat.le_of_ble_eq_true rfl) dL_law_1621 ⟨by show cells + 2 ≤ 601024; omega, by show slots + 12 ≤ 7293033; omega⟩ (fun H locs G => ?_)
  refine W.widen (k := cells + 4) (n := slots + 105) (by show cells + 2 ≤ cells + 4; omega) (by show slots + 12 ≤ slots + 105; omega) ?_
  refine lv_istore (lv' := [(5, .int z_275.1), (0, .ref b), (1, .ref (ad x1)), (2, .ref (ad x2)), (3, .ref (ad x3)), (4, .int x4)]) hx hb dL_law_1624 hl (by decide) rfl (fun ls hl => ?_)
  refine lv_aload_n hx hb dL_law_1626 rfl (lv_at hl 3 rfl) ?_
  refine lv_aload_n hx hb dL_law_1627 rfl (lv_at hl 1 rfl) ?_
  refine lv_iload hx hb dL_law_1628 (lv_at hl 5 rfl) ?_
  refine lv_iconst (v := (1 : Int32)) hx hb dL_law_1630 (by decide) ?_
  refine lv_iadd hx hb dL_law_1631 ?_
  refine va_sld hx hb hX hbl hbA G.2.2.2.2 hc_274 dL_law_1632 ?_
  obtain ⟨hc_279, hf⟩ := aw_chk_some hf
  obtain ⟨z_277, hz_278, hf⟩ := aw_bind_some hf
  refine aw_VI (As := [.int (xs (x4 + ((1 : Int32))).toNatClampNeg)]) (rest := []) X G hl.1 cr_L_191 (c_X11_leastCost l hz_278) ⟨rfl, rfl⟩ rfl rfl rfl (by decide) hc_279 rfl ⟨Nat.le_of_ble_eq_true rfl, Nat.le_of_ble_eq_true rfl⟩ (Nat.le_of_ble_eq_true rfl) dL_law_1633 ⟨by show cells + 4 ≤ 601024; omega, by show slots + 105 ≤ 7293033; omega⟩ (fun H locs G => ?_)
  refine lv_istore (lv' := [(6, .int z_277.1), (5, .int z_275.1), (0, .ref b), (1, .ref (ad x1)), (2, .ref (ad x2)), (3, .ref (ad x3)), (4, .int x4)]) hx hb dL_law_1636 hl (by decide) rfl (fun ls hl => ?_)
  refine lv_aload_n hx hb dL_law_1638 rfl (lv_at hl 4 rfl) ?_
  obtain ⟨z_280, hz_281, hf⟩ := aw_bind_some hf
  refine aw_VI (As := []) (rest := []) X G hl.1 cr_L_124 (c_X11_thrown l hz_281) ⟨rfl, rfl⟩ rfl rfl rfl (by decide) hc_279 rfl ⟨Nat.le_of_ble_eq_true rfl, Nat.le_of_ble_eq_true rfl⟩ (Nat.le_of_ble_eq_true rfl) dL_law_1639 ⟨by show cells + 4 ≤ 601024; omega, by show slots + 105 ≤ 7293033; omega⟩ (fun H locs G => ?_)
  refine lv_iload hx hb dL_law_1642 (lv_at hl 1 rfl) ?_
  refine lv_icmp_eq (tgt := 1649) hx hb dL_law_1644 (by decide) (fun hc => ?_) (fun hc => ?_)
  · have hf := aw_ite_t hc hf
    refine lv_iload hx hb dL_law_1649 (lv_at hl 1 rfl) ?_
    refine lv_if_ne (tgt := 1666) hx hb dL_law_1651 (by decide) (fun hc => ?_) (fun hc => ?_)
    · have hf := aw_ite_f hc hf
      refine lv_goto (tgt := 2257) hx hb dL_law_1666 (by decide) ?_
      refine W.widen (k := cells + 4) (n := slots + 105) (by omega) (by omega) ?_
      exact hkb _ _ hf _ E _ _ _ (lv_sub hl [2, 3, 4, 5, 6] rfl) G
    · have hf := aw_ite_t hc hf
      refine lv_aload_n hx hb dL_law_1654 rfl (lv_at hl 5 rfl) ?_
      refine lv_iconst (v := (0 : Int32)) hx hb dL_law_1655 (by decide) ?_
      obtain ⟨hc_282, hf⟩ := aw_chk_some hf
      refine aw_lal hx hb G hc_282 dL_law_1656 ?_
      refine lv_iload hx hb dL_law_1657 (lv_at hl 0 rfl) ?_
      refine lv_i2l hx hb dL_law_1659 rfl ?_
      refine W.lcmp hx hb dL_law_1660 ?_
      refine lv_if_eq (tgt := 1666) hx hb dL_law_1661 (by decide) (fun hc => ?_) (fun hc => ?_)
      · have hf := aw_ite_t hc hf
        refine lv_goto (tgt := 2257) hx hb dL_law_1666 (by decide) ?_
        refine W.widen (k := cells + 4) (n := slots + 105) (by omega) (by omega) ?_
        exact hkb _ _ hf _ E _ _ _ (lv_sub hl [2, 3, 4, 5, 6] rfl) G
      · have hf := aw_ite_f hc hf
        refine lv_iconst (v := (0 : Int32)) hx hb dL_law_1664 (by decide) ?_
        exact absurd (Option.some.inj hf) (by decide)
  · have hf := aw_ite_f hc hf
    refine lv_iconst (v := (0 : Int32)) hx hb dL_law_1647 (by decide) ?_
    exact absurd (Option.some.inj hf) (by decide)
set_option maxHeartbeats 4000000 in
set_option maxRecDepth 100000 in
theorem w_law_C21 (hst : l.stackTraces = false) (X : aw_X p c cL_law 8 s RL m meth ret) {b L : Nat} {xs : Nat → Int32} (hX : va_X b L xs s s.heap) (hbl : b < s.heap.size) {kb : Sg → Dt → Option Int32} {x1 x2 x3 : Nat} {x4 : Int32} {σ : Sg} {d : Dt} {ad : Nat → Nat} (hf : f_law_C21 xs L kb x1 x2 x3 x4 σ d = some 1) {cells slots : Nat} (hrc : cells + 4 ≤ 601024) (hrs : slots + 105 ≤ 7293033) (hkb : ∀ (σ : Sg) (d : Dt), kb σ d = some 1 → ∀ (ad : Nat → Nat), aw_ext σ0 ad0 σ ad → ∀ (H : Heap) (locs : List Loc) (ls : Array Slot), lv_has ls 8 [(0, .ref b), (1, .ref (ad x1)), (2, .ref (ad x2)), (3, .ref (ad x3)), (4, .int x4)] → aw_G D cA s.heap.size ad σ d s H locs → W p l e room_1 s m #[Value.ref b] below meth c H locs (cells + 4) (slots + 105) (lw_Z below #[Value.ref b] s) (F0 m 2257 ls [])) (E : aw_ext σ0 ad0 σ ad) {H : Heap} {locs : List Loc} {ls : Array Slot} (hl : lv_has ls 8 [(0, .ref b), (1, .ref (ad x1)), (2, .ref (ad x2)), (3, .ref (ad x3)), (4, .int x4)]) (G : aw_G D cA s.heap.size ad σ d s H locs) : W p l e room_1 s m #[Value.ref b] below meth c H locs cells slots (lw_Z below #[Value.ref b] s) (F0 m 1669 ls []) := by
  have hx := X.1; have hb := X.2.1; have hml := X.2.2.1; have hown := X.2.2.2.1
  have hbA : ¬ (fun q => s.heap.size ≤ q) b := Nat.not_le.mpr hbl
  unfold f_law_C21 at hf
  refine lv_aload_n hx hb dL_law_1669 rfl (lv_at hl 1 rfl) ?_
  refine lv_aload_n hx hb dL_law_1670 rfl (lv_at hl 0 rfl) ?_
  refine lv_iload hx hb dL_law_1671 (lv_at hl 4 rfl) ?_
  refine lv_iconst (v := (1 : Int32)) hx hb dL_law_1673 (by decide) ?_
  refine lv_iadd hx hb dL_law_1674 ?_
  obtain ⟨hc_283, hf⟩ := aw_chk_some hf
  refine va_sld hx hb hX hbl hbA G.2.2.2.2 hc_283 dL_law_1675 ?_
  refine lv_aload_n hx hb dL_law_1676 rfl (lv_at hl 0 rfl) ?_
  refine lv_iload hx hb dL_law_1677 (lv_at hl 4 rfl) ?_
  refine lv_iconst (v := (2 : Int32)) hx hb dL_law_1679 (by decide) ?_
  refine lv_iadd hx hb dL_law_1680 ?_
  obtain ⟨hc_284, hf⟩ := aw_chk_some hf
  refine va_sld hx hb hX hbl hbA G.2.2.2.2 hc_284 dL_law_1681 ?_
  refine lv_aload_n hx hb dL_law_1682 rfl (lv_at hl 0 rfl) ?_
  refine lv_iload hx hb dL_law_1683 (lv_at hl 4 rfl) ?_
  refine lv_iconst (v := (3 : Int32)) hx hb dL_law_1685 (by decide) ?_
  refine lv_iadd hx hb dL_law_1686 ?_
  obtain ⟨hc_285, hf⟩ := aw_chk_some hf
  refine va_sld hx hb hX hbl hbA G.2.2.2.2 hc_285 dL_law_1687 ?_
  refine lv_aload_n hx hb dL_law_1688 rfl (lv_at hl 3 rfl) ?_
  obtain ⟨z_286, hz_287, hf⟩ := aw_bind_some hf
  refine aw_WI (As := [.ref (ad x1), .int (xs (x4 + ((1 : Int32))).toNatClampNeg), .int (xs (x4 + ((2 : Int32))).toNatClampNeg), .int (xs (x4 + ((3 : Int32))).toNatClampNeg), .ref (ad x3)]) (rest := []) X G hl.1 cr_L_192 (c_L_key l hst hz_287) rfl rfl rfl ⟨Nat.le_of_ble_eq_true rfl, Nat.le_of_ble_eq_true rfl⟩ (Nat.le_of_ble_eq_true rfl) dL_law_1689 ⟨by show cells + 3 ≤ 601024; omega, by show slots + 18 ≤ 7293033; omega⟩ (fun H locs G => ?_)
  refine W.widen (k := cells + 4) (n := slots + 105) (by show cells + 3 ≤ cells + 4; omega) (by show slots + 18 ≤ slots + 105; omega) ?_
  refine lv_istore (lv' := [(5, .int z_286.1), (0, .ref b), (1, .ref (ad x1)), (2, .ref (ad x2)), (3, .ref (ad x3)), (4, .int x4)]) hx hb dL_law_1692 hl (by decide) rfl (fun ls hl => ?_)
  refine lv_aload_n hx hb dL_law_1694 rfl (lv_at hl 3 rfl) ?_
  refine lv_aload_n hx hb dL_law_1695 rfl (lv_at hl 1 rfl) ?_
  refine lv_iload hx hb dL_law_1696 (lv_at hl 5 rfl) ?_
  refine lv_iconst (v := (1 : Int32)) hx hb dL_law_1698 (by decide) ?_
  refine lv_iadd hx hb dL_law_1699 ?_
  refine va_sld hx hb hX hbl hbA G.2.2.2.2 hc_283 dL_law_1700 ?_
  refine lv_aload_n hx hb dL_law_1701 rfl (lv_at hl 1 rfl) ?_
  refine lv_iload hx hb dL_law_1702 (lv_at hl 5 rfl) ?_
  refine lv_iconst (v := (2 : Int32)) hx hb dL_law_1704 (by decide) ?_
  refine lv_iadd hx hb dL_law_1705 ?_
  refine va_sld hx hb hX hbl hbA G.2.2.2.2 hc_284 dL_law_1706 ?_
  refine lv_aload_n hx hb dL_law_1707 rfl (lv_at hl 1 rfl) ?_
  refine lv_iload hx hb dL_law_1708 (lv_at hl 5 rfl) ?_
  refine lv_iconst (v := (3 : Int32)) hx hb dL_law_1710 (by decide) ?_
  refine lv_iadd hx hb dL_law_1711 ?_
  refine va_sld hx hb hX hbl hbA G.2.2.2.2 hc_285 dL_law_1712 ?_
  obtain ⟨hc_290, hf⟩ := aw_chk_some hf
  obtain ⟨z_288, hz_289, hf⟩ := aw_bind_some hf
  refine aw_VI (As := [.int (xs (x4 + ((1 : Int32))).toNatClampNeg), .int (xs (x4 + ((2 : Int32))).toNatClampNeg), .int (xs (x4 + ((3 : Int32))).toNatClampNeg)]) (rest := []) X G hl.1 cr_L_194 (c_X11_key l hz_289) ⟨rfl, rfl⟩ rfl rfl rfl (by decide) hc_290 rfl ⟨Nat.le_of_ble_eq_true rfl, Nat.le_of_ble_eq_true rfl⟩ (Nat.le_of_ble_eq_true rfl) dL_law_1713 ⟨by show cells + 4 ≤ 601024; omega, by show slots + 105 ≤ 7293033; omega⟩ (fun H locs G => ?_)
  refine lv_istore (lv' := [(6, .int z_288.1), (5, .int z_286.1), (0, .ref b), (1, .ref (ad x1)), (2, .ref (ad x2)), (3, .ref (ad x3)), (4, .int x4)]) hx hb dL_law_1716 hl (by decide) rfl (fun ls hl => ?_)
  refine lv_aload_n hx hb dL_law_1718 rfl (lv_at hl 4 rfl) ?_
  obtain ⟨z_291, hz_292, hf⟩ := aw_bind_some hf
  refine aw_VI (As := []) (rest := []) X G hl.1 cr_L_124 (c_X11_thrown l hz_292) ⟨rfl, rfl⟩ rfl rfl rfl (by decide) hc_290 rfl ⟨Nat.le_of_ble_eq_true rfl, Nat.le_of_ble_eq_true rfl⟩ (Nat.le_of_ble_eq_true rfl) dL_law_1719 ⟨by show cells + 4 ≤ 601024; omega, by show slots + 105 ≤ 7293033; omega⟩ (fun H locs G => ?_)
  refine lv_iload hx hb dL_law_1722 (lv_at hl 1 rfl) ?_
  refine lv_icmp_eq (tgt := 1729) hx hb dL_law_1724 (by decide) (fun hc => ?_) (fun hc => ?_)
  · have hf := aw_ite_t hc hf
    refine lv_iload hx hb dL_law_1729 (lv_at hl 1 rfl) ?_
    refine lv_if_ne (tgt := 1746) hx hb dL_law_1731 (by decide) (fun hc => ?_) (fun hc => ?_)
    · have hf := aw_ite_f hc hf
      refine lv_goto (tgt := 2257) hx hb dL_law_1746 (by decide) ?_
      refine W.widen (k := cells + 4) (n := slots + 105) (by omega) (by omega) ?_
      exact hkb _ _ hf _ E _ _ _ (lv_sub hl [2, 3, 4, 5, 6] rfl) G
    · have hf := aw_ite_t hc hf
      refine lv_aload_n hx hb dL_law_1734 rfl (lv_at hl 5 rfl) ?_
      refine lv_iconst (v := (0 : Int32)) hx hb dL_law_1735 (by decide) ?_
      obtain ⟨hc_293, hf⟩ := aw_chk_some hf
      refine aw_lal hx hb G hc_293 dL_law_1736 ?_
      refine lv_iload hx hb dL_law_1737 (lv_at hl 0 rfl) ?_
      refine lv_i2l hx hb dL_law_1739 rfl ?_
      refine W.lcmp hx hb dL_law_1740 ?_
      refine lv_if_eq (tgt := 1746) hx hb dL_law_1741 (by decide) (fun hc => ?_) (fun hc => ?_)
      · have hf := aw_ite_t hc hf
        refine lv_goto (tgt := 2257) hx hb dL_law_1746 (by decide) ?_
        refine W.widen (k := cells + 4) (n := slots + 105) (by omega) (by omega) ?_
        exact hkb _ _ hf _ E _ _ _ (lv_sub hl [2, 3, 4, 5, 6] rfl) G
      · have hf := aw_ite_f hc hf
        refine lv_iconst (v := (0 : Int32)) hx hb dL_law_1744 (by decide) ?_
        exact absurd (Option.some.inj hf) (by decide)
  · have hf := aw_ite_f hc hf
    refine lv_iconst (v := (0 : Int32)) hx hb dL_law_1727 (by decide) ?_
    exact absurd (Option.some.inj hf) (by decide)
set_option maxHeartbeats 4000000 in
set_option maxRecDepth 100000 in
theorem w_law_C22 (hst : l.stackTraces = false) (X : aw_X p c cL_law 8 s RL m meth ret) {b L : Nat} {xs : Nat → Int32} (hX : va_X b L xs s s.heap) (hbl : b < s.heap.size) {kb : Sg → Dt → Option Int32} {x1 x2 x3 : Nat} {x4 : Int32} {σ : Sg} {d : Dt} {ad : Nat → Nat} (hf : f_law_C22 xs L kb x1 x2 x3 x4 σ d = some 1) {cells slots : Nat} (hrc : cells + 4 ≤ 601024) (hrs : slots + 105 ≤ 7293033) (hkb : ∀ (σ : Sg) (d : Dt), kb σ d = some 1 → ∀ (ad : Nat → Nat), aw_ext σ0 ad0 σ ad → ∀ (H : Heap) (locs : List Loc) (ls : Array Slot), lv_has ls 8 [(0, .ref b), (1, .ref (ad x1)), (2, .ref (ad x2)), (3, .ref (ad x3)), (4, .int x4)] → aw_G D cA s.heap.size ad σ d s H locs → W p l e room_1 s m #[Value.ref b] below meth c H locs (cells + 4) (slots + 105) (lw_Z below #[Value.ref b] s) (F0 m 2257 ls [])) (E : aw_ext σ0 ad0 σ ad) {H : Heap} {locs : List Loc} {ls : Array Slot} (hl : lv_has ls 8 [(0, .ref b), (1, .ref (ad x1)), (2, .ref (ad x2)), (3, .ref (ad x3)), (4, .int x4)]) (G : aw_G D cA s.heap.size ad σ d s H locs) : W p l e room_1 s m #[Value.ref b] below meth c H locs cells slots (lw_Z below #[Value.ref b] s) (F0 m 1749 ls []) := by
  have hx := X.1; have hb := X.2.1; have hml := X.2.2.1; have hown := X.2.2.2.1
  have hbA : ¬ (fun q => s.heap.size ≤ q) b := Nat.not_le.mpr hbl
  unfold f_law_C22 at hf
  refine lv_aload_n hx hb dL_law_1749 rfl (lv_at hl 1 rfl) ?_
  refine lv_aload_n hx hb dL_law_1750 rfl (lv_at hl 0 rfl) ?_
  refine lv_iload hx hb dL_law_1751 (lv_at hl 4 rfl) ?_
  refine lv_iconst (v := (1 : Int32)) hx hb dL_law_1753 (by decide) ?_
  refine lv_iadd hx hb dL_law_1754 ?_
  obtain ⟨hc_294, hf⟩ := aw_chk_some hf
  refine va_sld hx hb hX hbl hbA G.2.2.2.2 hc_294 dL_law_1755 ?_
  refine lv_aload_n hx hb dL_law_1756 rfl (lv_at hl 3 rfl) ?_
  obtain ⟨z_295, hz_296, hf⟩ := aw_bind_some hf
  refine aw_WI (As := [.ref (ad x1), .int (xs (x4 + ((1 : Int32))).toNatClampNeg), .ref (ad x3)]) (rest := []) X G hl.1 cr_L_195 (c_L_travel l hst hz_296) rfl rfl rfl ⟨Nat.le_of_ble_eq_true rfl, Nat.le_of_ble_eq_true rfl⟩ (Nat.le_of_ble_eq_true rfl) dL_law_1757 ⟨by show cells + 1 ≤ 601024; omega, by show slots + 6 ≤ 7293033; omega⟩ (fun H locs G => ?_)
  refine W.widen (k := cells + 4) (n := slots + 105) (by show cells + 1 ≤ cells + 4; omega) (by show slots + 6 ≤ slots + 105; omega) ?_
  refine lv_istore (lv' := [(5, .int z_295.1), (0, .ref b), (1, .ref (ad x1)), (2, .ref (ad x2)), (3, .ref (ad x3)), (4, .int x4)]) hx hb dL_law_1760 hl (by decide) rfl (fun ls hl => ?_)
  refine lv_aload_n hx hb dL_law_1762 rfl (lv_at hl 3 rfl) ?_
  refine lv_aload_n hx hb dL_law_1763 rfl (lv_at hl 1 rfl) ?_
  refine lv_iload hx hb dL_law_1764 (lv_at hl 5 rfl) ?_
  refine lv_iconst (v := (1 : Int32)) hx hb dL_law_1766 (by decide) ?_
  refine lv_iadd hx hb dL_law_1767 ?_
  refine va_sld hx hb hX hbl hbA G.2.2.2.2 hc_294 dL_law_1768 ?_
  obtain ⟨hc_299, hf⟩ := aw_chk_some hf
  obtain ⟨z_297, hz_298, hf⟩ := aw_bind_some hf
  refine aw_VI (As := [.int (xs (x4 + ((1 : Int32))).toNatClampNeg)]) (rest := []) X G hl.1 cr_L_197 (c_X11_travel l hz_298) ⟨rfl, rfl⟩ rfl rfl rfl (by decide) hc_299 rfl ⟨Nat.le_of_ble_eq_true rfl, Nat.le_of_ble_eq_true rfl⟩ (Nat.le_of_ble_eq_true rfl) dL_law_1769 ⟨by show cells + 4 ≤ 601024; omega, by show slots + 105 ≤ 7293033; omega⟩ (fun H locs G => ?_)
  refine lv_istore (lv' := [(6, .int z_297.1), (5, .int z_295.1), (0, .ref b), (1, .ref (ad x1)), (2, .ref (ad x2)), (3, .ref (ad x3)), (4, .int x4)]) hx hb dL_law_1772 hl (by decide) rfl (fun ls hl => ?_)
  refine lv_aload_n hx hb dL_law_1774 rfl (lv_at hl 4 rfl) ?_
  obtain ⟨z_300, hz_301, hf⟩ := aw_bind_some hf
  refine aw_VI (As := []) (rest := []) X G hl.1 cr_L_124 (c_X11_thrown l hz_301) ⟨rfl, rfl⟩ rfl rfl rfl (by decide) hc_299 rfl ⟨Nat.le_of_ble_eq_true rfl, Nat.le_of_ble_eq_true rfl⟩ (Nat.le_of_ble_eq_true rfl) dL_law_1775 ⟨by show cells + 4 ≤ 601024; omega, by show slots + 105 ≤ 7293033; omega⟩ (fun H locs G => ?_)
  refine lv_iload hx hb dL_law_1778 (lv_at hl 1 rfl) ?_
  refine lv_icmp_eq (tgt := 1785) hx hb dL_law_1780 (by decide) (fun hc => ?_) (fun hc => ?_)
  · have hf := aw_ite_t hc hf
    refine lv_iload hx hb dL_law_1785 (lv_at hl 1 rfl) ?_
    refine lv_if_ne (tgt := 1802) hx hb dL_law_1787 (by decide) (fun hc => ?_) (fun hc => ?_)
    · have hf := aw_ite_f hc hf
      refine lv_goto (tgt := 2257) hx hb dL_law_1802 (by decide) ?_
      refine W.widen (k := cells + 4) (n := slots + 105) (by omega) (by omega) ?_
      exact hkb _ _ hf _ E _ _ _ (lv_sub hl [2, 3, 4, 5, 6] rfl) G
    · have hf := aw_ite_t hc hf
      refine lv_aload_n hx hb dL_law_1790 rfl (lv_at hl 5 rfl) ?_
      refine lv_iconst (v := (0 : Int32)) hx hb dL_law_1791 (by decide) ?_
      obtain ⟨hc_302, hf⟩ := aw_chk_some hf
      refine aw_lal hx hb G hc_302 dL_law_1792 ?_
      refine lv_iload hx hb dL_law_1793 (lv_at hl 0 rfl) ?_
      refine lv_i2l hx hb dL_law_1795 rfl ?_
      refine W.lcmp hx hb dL_law_1796 ?_
      refine lv_if_eq (tgt := 1802) hx hb dL_law_1797 (by decide) (fun hc => ?_) (fun hc => ?_)
      · have hf := aw_ite_t hc hf
        refine lv_goto (tgt := 2257) hx hb dL_law_1802 (by decide) ?_
        refine W.widen (k := cells + 4) (n := slots + 105) (by omega) (by omega) ?_
        exact hkb _ _ hf _ E _ _ _ (lv_sub hl [2, 3, 4, 5, 6] rfl) G
      · have hf := aw_ite_f hc hf
        refine lv_iconst (v := (0 : Int32)) hx hb dL_law_1800 (by decide) ?_
        exact absurd (Option.some.inj hf) (by decide)
  · have hf := aw_ite_f hc hf
    refine lv_iconst (v := (0 : Int32)) hx hb dL_law_1783 (by decide) ?_
    exact absurd (Option.some.inj hf) (by decide)
set_option maxHeartbeats 4000000 in
set_option maxRecDepth 100000 in
theorem w_law_C23 (hst : l.stackTraces = false) (X : aw_X p c cL_law 8 s RL m meth ret) {b L : Nat} {xs : Nat → Int32} (hX : va_X b L xs s s.heap) (hbl : b < s.heap.size) {kb : Sg → Dt → Option Int32} {x1 x2 x3 : Nat} {x4 : Int32} {σ : Sg} {d : Dt} {ad : Nat → Nat} (hf : f_law_C23 xs L kb x1 x2 x3 x4 σ d = some 1) {cells slots : Nat} (hrc : cells + 4 ≤ 601024) (hrs : slots + 105 ≤ 7293033) (hkb : ∀ (σ : Sg) (d : Dt), kb σ d = some 1 → ∀ (ad : Nat → Nat), aw_ext σ0 ad0 σ ad → ∀ (H : Heap) (locs : List Loc) (ls : Array Slot), lv_has ls 8 [(0, .ref b), (1, .ref (ad x1)), (2, .ref (ad x2)), (3, .ref (ad x3)), (4, .int x4)] → aw_G D cA s.heap.size ad σ d s H locs → W p l e room_1 s m #[Value.ref b] below meth c H locs (cells + 4) (slots + 105) (lw_Z below #[Value.ref b] s) (F0 m 2257 ls [])) (E : aw_ext σ0 ad0 σ ad) {H : Heap} {locs : List Loc} {ls : Array Slot} (hl : lv_has ls 8 [(0, .ref b), (1, .ref (ad x1)), (2, .ref (ad x2)), (3, .ref (ad x3)), (4, .int x4)]) (G : aw_G D cA s.heap.size ad σ d s H locs) : W p l e room_1 s m #[Value.ref b] below meth c H locs cells slots (lw_Z below #[Value.ref b] s) (F0 m 1805 ls []) := by
  have hx := X.1; have hb := X.2.1; have hml := X.2.2.1; have hown := X.2.2.2.1
  have hbA : ¬ (fun q => s.heap.size ≤ q) b := Nat.not_le.mpr hbl
  unfold f_law_C23 at hf
  refine lv_aload_n hx hb dL_law_1805 rfl (lv_at hl 1 rfl) ?_
  refine lv_aload_n hx hb dL_law_1806 rfl (lv_at hl 0 rfl) ?_
  refine lv_iload hx hb dL_law_1807 (lv_at hl 4 rfl) ?_
  refine lv_iconst (v := (1 : Int32)) hx hb dL_law_1809 (by decide) ?_
  refine lv_iadd hx hb dL_law_1810 ?_
  obtain ⟨hc_303, hf⟩ := aw_chk_some hf
  refine va_sld hx hb hX hbl hbA G.2.2.2.2 hc_303 dL_law_1811 ?_
  refine lv_aload_n hx hb dL_law_1812 rfl (lv_at hl 3 rfl) ?_
  obtain ⟨z_304, hz_305, hf⟩ := aw_bind_some hf
  refine aw_WI (As := [.ref (ad x1), .int (xs (x4 + ((1 : Int32))).toNatClampNeg), .ref (ad x3)]) (rest := []) X G hl.1 cr_L_198 (c_L_exchange l hst hz_305) rfl rfl rfl ⟨Nat.le_of_ble_eq_true rfl, Nat.le_of_ble_eq_true rfl⟩ (Nat.le_of_ble_eq_true rfl) dL_law_1813 ⟨by show cells + 1 ≤ 601024; omega, by show slots + 6 ≤ 7293033; omega⟩ (fun H locs G => ?_)
  refine W.widen (k := cells + 4) (n := slots + 105) (by show cells + 1 ≤ cells + 4; omega) (by show slots + 6 ≤ slots + 105; omega) ?_
  refine lv_istore (lv' := [(5, .int z_304.1), (0, .ref b), (1, .ref (ad x1)), (2, .ref (ad x2)), (3, .ref (ad x3)), (4, .int x4)]) hx hb dL_law_1816 hl (by decide) rfl (fun ls hl => ?_)
  refine lv_aload_n hx hb dL_law_1818 rfl (lv_at hl 3 rfl) ?_
  refine lv_aload_n hx hb dL_law_1819 rfl (lv_at hl 1 rfl) ?_
  refine lv_iload hx hb dL_law_1820 (lv_at hl 5 rfl) ?_
  refine lv_iconst (v := (1 : Int32)) hx hb dL_law_1822 (by decide) ?_
  refine lv_iadd hx hb dL_law_1823 ?_
  refine va_sld hx hb hX hbl hbA G.2.2.2.2 hc_303 dL_law_1824 ?_
  obtain ⟨hc_308, hf⟩ := aw_chk_some hf
  obtain ⟨z_306, hz_307, hf⟩ := aw_bind_some hf
  refine aw_VI (As := [.int (xs (x4 + ((1 : Int32))).toNatClampNeg)]) (rest := []) X G hl.1 cr_L_200 (c_X11_exchange l hz_307) ⟨rfl, rfl⟩ rfl rfl rfl (by decide) hc_308 rfl ⟨Nat.le_of_ble_eq_true rfl, Nat.le_of_ble_eq_true rfl⟩ (Nat.le_of_ble_eq_true rfl) dL_law_1825 ⟨by show cells + 4 ≤ 601024; omega, by show slots + 105 ≤ 7293033; omega⟩ (fun H locs G => ?_)
  refine lv_istore (lv' := [(6, .int z_306.1), (5, .int z_304.1), (0, .ref b), (1, .ref (ad x1)), (2, .ref (ad x2)), (3, .ref (ad x3)), (4, .int x4)]) hx hb dL_law_1828 hl (by decide) rfl (fun ls hl => ?_)
  refine lv_aload_n hx hb dL_law_1830 rfl (lv_at hl 4 rfl) ?_
  obtain ⟨z_309, hz_310, hf⟩ := aw_bind_some hf
  refine aw_VI (As := []) (rest := []) X G hl.1 cr_L_124 (c_X11_thrown l hz_310) ⟨rfl, rfl⟩ rfl rfl rfl (by decide) hc_308 rfl ⟨Nat.le_of_ble_eq_true rfl, Nat.le_of_ble_eq_true rfl⟩ (Nat.le_of_ble_eq_true rfl) dL_law_1831 ⟨by show cells + 4 ≤ 601024; omega, by show slots + 105 ≤ 7293033; omega⟩ (fun H locs G => ?_)
  refine lv_iload hx hb dL_law_1834 (lv_at hl 1 rfl) ?_
  refine lv_icmp_eq (tgt := 1841) hx hb dL_law_1836 (by decide) (fun hc => ?_) (fun hc => ?_)
  · have hf := aw_ite_t hc hf
    refine lv_iload hx hb dL_law_1841 (lv_at hl 1 rfl) ?_
    refine lv_if_ne (tgt := 1858) hx hb dL_law_1843 (by decide) (fun hc => ?_) (fun hc => ?_)
    · have hf := aw_ite_f hc hf
      refine lv_goto (tgt := 2257) hx hb dL_law_1858 (by decide) ?_
      refine W.widen (k := cells + 4) (n := slots + 105) (by omega) (by omega) ?_
      exact hkb _ _ hf _ E _ _ _ (lv_sub hl [2, 3, 4, 5, 6] rfl) G
    · have hf := aw_ite_t hc hf
      refine lv_aload_n hx hb dL_law_1846 rfl (lv_at hl 5 rfl) ?_
      refine lv_iconst (v := (0 : Int32)) hx hb dL_law_1847 (by decide) ?_
      obtain ⟨hc_311, hf⟩ := aw_chk_some hf
      refine aw_lal hx hb G hc_311 dL_law_1848 ?_
      refine lv_iload hx hb dL_law_1849 (lv_at hl 0 rfl) ?_
      refine lv_i2l hx hb dL_law_1851 rfl ?_
      refine W.lcmp hx hb dL_law_1852 ?_
      refine lv_if_eq (tgt := 1858) hx hb dL_law_1853 (by decide) (fun hc => ?_) (fun hc => ?_)
      · have hf := aw_ite_t hc hf
        refine lv_goto (tgt := 2257) hx hb dL_law_1858 (by decide) ?_
        refine W.widen (k := cells + 4) (n := slots + 105) (by omega) (by omega) ?_
        exact hkb _ _ hf _ E _ _ _ (lv_sub hl [2, 3, 4, 5, 6] rfl) G
      · have hf := aw_ite_f hc hf
        refine lv_iconst (v := (0 : Int32)) hx hb dL_law_1856 (by decide) ?_
        exact absurd (Option.some.inj hf) (by decide)
  · have hf := aw_ite_f hc hf
    refine lv_iconst (v := (0 : Int32)) hx hb dL_law_1839 (by decide) ?_
    exact absurd (Option.some.inj hf) (by decide)
set_option maxHeartbeats 4000000 in
set_option maxRecDepth 100000 in
theorem w_law_C24 (hst : l.stackTraces = false) (X : aw_X p c cL_law 8 s RL m meth ret) {b L : Nat} {xs : Nat → Int32} (hX : va_X b L xs s s.heap) (hbl : b < s.heap.size) {kb : Sg → Dt → Option Int32} {x1 x2 x3 : Nat} {x4 : Int32} {σ : Sg} {d : Dt} {ad : Nat → Nat} (hf : f_law_C24 xs L kb x1 x2 x3 x4 σ d = some 1) {cells slots : Nat} (hrc : cells + 4 ≤ 601024) (hrs : slots + 105 ≤ 7293033) (hkb : ∀ (σ : Sg) (d : Dt), kb σ d = some 1 → ∀ (ad : Nat → Nat), aw_ext σ0 ad0 σ ad → ∀ (H : Heap) (locs : List Loc) (ls : Array Slot), lv_has ls 8 [(0, .ref b), (1, .ref (ad x1)), (2, .ref (ad x2)), (3, .ref (ad x3)), (4, .int x4)] → aw_G D cA s.heap.size ad σ d s H locs → W p l e room_1 s m #[Value.ref b] below meth c H locs (cells + 4) (slots + 105) (lw_Z below #[Value.ref b] s) (F0 m 2257 ls [])) (E : aw_ext σ0 ad0 σ ad) {H : Heap} {locs : List Loc} {ls : Array Slot} (hl : lv_has ls 8 [(0, .ref b), (1, .ref (ad x1)), (2, .ref (ad x2)), (3, .ref (ad x3)), (4, .int x4)]) (G : aw_G D cA s.heap.size ad σ d s H locs) : W p l e room_1 s m #[Value.ref b] below meth c H locs cells slots (lw_Z below #[Value.ref b] s) (F0 m 1861 ls []) := by
  have hx := X.1; have hb := X.2.1; have hml := X.2.2.1; have hown := X.2.2.2.1
  have hbA : ¬ (fun q => s.heap.size ≤ q) b := Nat.not_le.mpr hbl
  unfold f_law_C24 at hf
  refine lv_aload_n hx hb dL_law_1861 rfl (lv_at hl 1 rfl) ?_
  refine lv_aload_n hx hb dL_law_1862 rfl (lv_at hl 0 rfl) ?_
  refine lv_iload hx hb dL_law_1863 (lv_at hl 4 rfl) ?_
  refine lv_iconst (v := (1 : Int32)) hx hb dL_law_1865 (by decide) ?_
  refine lv_iadd hx hb dL_law_1866 ?_
  obtain ⟨hc_312, hf⟩ := aw_chk_some hf
  refine va_sld hx hb hX hbl hbA G.2.2.2.2 hc_312 dL_law_1867 ?_
  refine lv_aload_n hx hb dL_law_1868 rfl (lv_at hl 0 rfl) ?_
  refine lv_iload hx hb dL_law_1869 (lv_at hl 4 rfl) ?_
  refine lv_iconst (v := (2 : Int32)) hx hb dL_law_1871 (by decide) ?_
  refine lv_iadd hx hb dL_law_1872 ?_
  obtain ⟨hc_313, hf⟩ := aw_chk_some hf
  refine va_sld hx hb hX hbl hbA G.2.2.2.2 hc_313 dL_law_1873 ?_
  refine lv_aload_n hx hb dL_law_1874 rfl (lv_at hl 0 rfl) ?_
  refine lv_iload hx hb dL_law_1875 (lv_at hl 4 rfl) ?_
  refine lv_iconst (v := (3 : Int32)) hx hb dL_law_1877 (by decide) ?_
  refine lv_iadd hx hb dL_law_1878 ?_
  obtain ⟨hc_314, hf⟩ := aw_chk_some hf
  refine va_sld hx hb hX hbl hbA G.2.2.2.2 hc_314 dL_law_1879 ?_
  refine lv_aload_n hx hb dL_law_1880 rfl (lv_at hl 0 rfl) ?_
  refine lv_iload hx hb dL_law_1881 (lv_at hl 4 rfl) ?_
  refine lv_iconst (v := (4 : Int32)) hx hb dL_law_1883 (by decide) ?_
  refine lv_iadd hx hb dL_law_1884 ?_
  obtain ⟨hc_315, hf⟩ := aw_chk_some hf
  refine va_sld hx hb hX hbl hbA G.2.2.2.2 hc_315 dL_law_1885 ?_
  refine lv_aload_n hx hb dL_law_1886 rfl (lv_at hl 3 rfl) ?_
  obtain ⟨z_316, hz_317, hf⟩ := aw_bind_some hf
  refine aw_WI (As := [.ref (ad x1), .int (xs (x4 + ((1 : Int32))).toNatClampNeg), .int (xs (x4 + ((2 : Int32))).toNatClampNeg), .int (xs (x4 + ((3 : Int32))).toNatClampNeg), .int (xs (x4 + ((4 : Int32))).toNatClampNeg), .ref (ad x3)]) (rest := []) X G hl.1 cr_L_201 (c_L_group l hst hz_317) rfl rfl rfl ⟨Nat.le_of_ble_eq_true rfl, Nat.le_of_ble_eq_true rfl⟩ (Nat.le_of_ble_eq_true rfl) dL_law_1887 ⟨by show cells + 3 ≤ 601024; omega, by show slots + 18 ≤ 7293033; omega⟩ (fun H locs G => ?_)
  refine W.widen (k := cells + 4) (n := slots + 105) (by show cells + 3 ≤ cells + 4; omega) (by show slots + 18 ≤ slots + 105; omega) ?_
  refine lv_istore (lv' := [(5, .int z_316.1), (0, .ref b), (1, .ref (ad x1)), (2, .ref (ad x2)), (3, .ref (ad x3)), (4, .int x4)]) hx hb dL_law_1890 hl (by decide) rfl (fun ls hl => ?_)
  refine lv_aload_n hx hb dL_law_1892 rfl (lv_at hl 3 rfl) ?_
  refine lv_aload_n hx hb dL_law_1893 rfl (lv_at hl 1 rfl) ?_
  refine lv_iload hx hb dL_law_1894 (lv_at hl 5 rfl) ?_
  refine lv_iconst (v := (1 : Int32)) hx hb dL_law_1896 (by decide) ?_
  refine lv_iadd hx hb dL_law_1897 ?_
  refine va_sld hx hb hX hbl hbA G.2.2.2.2 hc_312 dL_law_1898 ?_
  refine lv_aload_n hx hb dL_law_1899 rfl (lv_at hl 1 rfl) ?_
  refine lv_iload hx hb dL_law_1900 (lv_at hl 5 rfl) ?_
  refine lv_iconst (v := (2 : Int32)) hx hb dL_law_1902 (by decide) ?_
  refine lv_iadd hx hb dL_law_1903 ?_
  refine va_sld hx hb hX hbl hbA G.2.2.2.2 hc_313 dL_law_1904 ?_
  refine lv_aload_n hx hb dL_law_1905 rfl (lv_at hl 1 rfl) ?_
  refine lv_iload hx hb dL_law_1906 (lv_at hl 5 rfl) ?_
  refine lv_iconst (v := (3 : Int32)) hx hb dL_law_1908 (by decide) ?_
  refine lv_iadd hx hb dL_law_1909 ?_
  refine va_sld hx hb hX hbl hbA G.2.2.2.2 hc_314 dL_law_1910 ?_
  refine lv_aload_n hx hb dL_law_1911 rfl (lv_at hl 1 rfl) ?_
  refine lv_iload hx hb dL_law_1912 (lv_at hl 5 rfl) ?_
  refine lv_iconst (v := (4 : Int32)) hx hb dL_law_1914 (by decide) ?_
  refine lv_iadd hx hb dL_law_1915 ?_
  refine va_sld hx hb hX hbl hbA G.2.2.2.2 hc_315 dL_law_1916 ?_
  obtain ⟨hc_320, hf⟩ := aw_chk_some hf
  obtain ⟨z_318, hz_319, hf⟩ := aw_bind_some hf
  refine aw_VI (As := [.int (xs (x4 + ((1 : Int32))).toNatClampNeg), .int (xs (x4 + ((2 : Int32))).toNatClampNeg), .int (xs (x4 + ((3 : Int32))).toNatClampNeg), .int (xs (x4 + ((4 : Int32))).toNatClampNeg)]) (rest := []) X G hl.1 cr_L_204 (c_X11_group l hz_319) ⟨rfl, rfl⟩ rfl rfl rfl (by decide) hc_320 rfl ⟨Nat.le_of_ble_eq_true rfl, Nat.le_of_ble_eq_true rfl⟩ (Nat.le_of_ble_eq_true rfl) dL_law_1917 ⟨by show cells + 4 ≤ 601024; omega, by show slots + 105 ≤ 7293033; omega⟩ (fun H locs G => ?_)
  refine lv_istore (lv' := [(6, .int z_318.1), (5, .int z_316.1), (0, .ref b), (1, .ref (ad x1)), (2, .ref (ad x2)), (3, .ref (ad x3)), (4, .int x4)]) hx hb dL_law_1920 hl (by decide) rfl (fun ls hl => ?_)
  refine lv_aload_n hx hb dL_law_1922 rfl (lv_at hl 4 rfl) ?_
  obtain ⟨z_321, hz_322, hf⟩ := aw_bind_some hf
  refine aw_VI (As := []) (rest := []) X G hl.1 cr_L_124 (c_X11_thrown l hz_322) ⟨rfl, rfl⟩ rfl rfl rfl (by decide) hc_320 rfl ⟨Nat.le_of_ble_eq_true rfl, Nat.le_of_ble_eq_true rfl⟩ (Nat.le_of_ble_eq_true rfl) dL_law_1923 ⟨by show cells + 4 ≤ 601024; omega, by show slots + 105 ≤ 7293033; omega⟩ (fun H locs G => ?_)
  refine lv_iload hx hb dL_law_1926 (lv_at hl 1 rfl) ?_
  refine lv_icmp_eq (tgt := 1933) hx hb dL_law_1928 (by decide) (fun hc => ?_) (fun hc => ?_)
  · have hf := aw_ite_t hc hf
    refine lv_iload hx hb dL_law_1933 (lv_at hl 1 rfl) ?_
    refine lv_if_ne (tgt := 1950) hx hb dL_law_1935 (by decide) (fun hc => ?_) (fun hc => ?_)
    · have hf := aw_ite_f hc hf
      refine lv_goto (tgt := 2257) hx hb dL_law_1950 (by decide) ?_
      refine W.widen (k := cells + 4) (n := slots + 105) (by omega) (by omega) ?_
      exact hkb _ _ hf _ E _ _ _ (lv_sub hl [2, 3, 4, 5, 6] rfl) G
    · have hf := aw_ite_t hc hf
      refine lv_aload_n hx hb dL_law_1938 rfl (lv_at hl 5 rfl) ?_
      refine lv_iconst (v := (0 : Int32)) hx hb dL_law_1939 (by decide) ?_
      obtain ⟨hc_323, hf⟩ := aw_chk_some hf
      refine aw_lal hx hb G hc_323 dL_law_1940 ?_
      refine lv_iload hx hb dL_law_1941 (lv_at hl 0 rfl) ?_
      refine lv_i2l hx hb dL_law_1943 rfl ?_
      refine W.lcmp hx hb dL_law_1944 ?_
      refine lv_if_eq (tgt := 1950) hx hb dL_law_1945 (by decide) (fun hc => ?_) (fun hc => ?_)
      · have hf := aw_ite_t hc hf
        refine lv_goto (tgt := 2257) hx hb dL_law_1950 (by decide) ?_
        refine W.widen (k := cells + 4) (n := slots + 105) (by omega) (by omega) ?_
        exact hkb _ _ hf _ E _ _ _ (lv_sub hl [2, 3, 4, 5, 6] rfl) G
      · have hf := aw_ite_f hc hf
        refine lv_iconst (v := (0 : Int32)) hx hb dL_law_1948 (by decide) ?_
        exact absurd (Option.some.inj hf) (by decide)
  · have hf := aw_ite_f hc hf
    refine lv_iconst (v := (0 : Int32)) hx hb dL_law_1931 (by decide) ?_
    exact absurd (Option.some.inj hf) (by decide)
set_option maxHeartbeats 4000000 in
set_option maxRecDepth 100000 in
theorem w_law_C25 (hst : l.stackTraces = false) (X : aw_X p c cL_law 8 s RL m meth ret) {b L : Nat} {xs : Nat → Int32} (hX : va_X b L xs s s.heap) (hbl : b < s.heap.size) {kb : Sg → Dt → Option Int32} {x1 x2 x3 : Nat} {x4 : Int32} {σ : Sg} {d : Dt} {ad : Nat → Nat} (hf : f_law_C25 xs L kb x1 x2 x3 x4 σ d = some 1) {cells slots : Nat} (hrc : cells + 4 ≤ 601024) (hrs : slots + 105 ≤ 7293033) (hkb : ∀ (σ : Sg) (d : Dt), kb σ d = some 1 → ∀ (ad : Nat → Nat), aw_ext σ0 ad0 σ ad → ∀ (H : Heap) (locs : List Loc) (ls : Array Slot), lv_has ls 8 [(0, .ref b), (1, .ref (ad x1)), (2, .ref (ad x2)), (3, .ref (ad x3)), (4, .int x4)] → aw_G D cA s.heap.size ad σ d s H locs → W p l e room_1 s m #[Value.ref b] below meth c H locs (cells + 4) (slots + 105) (lw_Z below #[Value.ref b] s) (F0 m 2257 ls [])) (E : aw_ext σ0 ad0 σ ad) {H : Heap} {locs : List Loc} {ls : Array Slot} (hl : lv_has ls 8 [(0, .ref b), (1, .ref (ad x1)), (2, .ref (ad x2)), (3, .ref (ad x3)), (4, .int x4)]) (G : aw_G D cA s.heap.size ad σ d s H locs) : W p l e room_1 s m #[Value.ref b] below meth c H locs cells slots (lw_Z below #[Value.ref b] s) (F0 m 1953 ls []) := by
  have hx := X.1; have hb := X.2.1; have hml := X.2.2.1; have hown := X.2.2.2.1
  have hbA : ¬ (fun q => s.heap.size ≤ q) b := Nat.not_le.mpr hbl
  unfold f_law_C25 at hf
  refine lv_aload_n hx hb dL_law_1953 rfl (lv_at hl 1 rfl) ?_
  refine lv_aload_n hx hb dL_law_1954 rfl (lv_at hl 0 rfl) ?_
  refine lv_iload hx hb dL_law_1955 (lv_at hl 4 rfl) ?_
  refine lv_iconst (v := (1 : Int32)) hx hb dL_law_1957 (by decide) ?_
  refine lv_iadd hx hb dL_law_1958 ?_
  obtain ⟨hc_324, hf⟩ := aw_chk_some hf
  refine va_sld hx hb hX hbl hbA G.2.2.2.2 hc_324 dL_law_1959 ?_
  refine lv_aload_n hx hb dL_law_1960 rfl (lv_at hl 0 rfl) ?_
  refine lv_iload hx hb dL_law_1961 (lv_at hl 4 rfl) ?_
  refine lv_iconst (v := (2 : Int32)) hx hb dL_law_1963 (by decide) ?_
  refine lv_iadd hx hb dL_law_1964 ?_
  obtain ⟨hc_325, hf⟩ := aw_chk_some hf
  refine va_sld hx hb hX hbl hbA G.2.2.2.2 hc_325 dL_law_1965 ?_
  refine lv_aload_n hx hb dL_law_1966 rfl (lv_at hl 3 rfl) ?_
  obtain ⟨z_326, hz_327, hf⟩ := aw_bind_some hf
  refine aw_WI (As := [.ref (ad x1), .int (xs (x4 + ((1 : Int32))).toNatClampNeg), .int (xs (x4 + ((2 : Int32))).toNatClampNeg), .ref (ad x3)]) (rest := []) X G hl.1 cr_L_205 (c_L_score l hst hz_327) rfl rfl rfl ⟨Nat.le_of_ble_eq_true rfl, Nat.le_of_ble_eq_true rfl⟩ (Nat.le_of_ble_eq_true rfl) dL_law_1967 ⟨by show cells + 2 ≤ 601024; omega, by show slots + 12 ≤ 7293033; omega⟩ (fun H locs G => ?_)
  refine W.widen (k := cells + 4) (n := slots + 105) (by show cells + 2 ≤ cells + 4; omega) (by show slots + 12 ≤ slots + 105; omega) ?_
  refine lv_istore (lv' := [(5, .int z_326.1), (0, .ref b), (1, .ref (ad x1)), (2, .ref (ad x2)), (3, .ref (ad x3)), (4, .int x4)]) hx hb dL_law_1970 hl (by decide) rfl (fun ls hl => ?_)
  refine lv_aload_n hx hb dL_law_1972 rfl (lv_at hl 3 rfl) ?_
  refine lv_aload_n hx hb dL_law_1973 rfl (lv_at hl 1 rfl) ?_
  refine lv_iload hx hb dL_law_1974 (lv_at hl 5 rfl) ?_
  refine lv_iconst (v := (1 : Int32)) hx hb dL_law_1976 (by decide) ?_
  refine lv_iadd hx hb dL_law_1977 ?_
  refine va_sld hx hb hX hbl hbA G.2.2.2.2 hc_324 dL_law_1978 ?_
  refine lv_aload_n hx hb dL_law_1979 rfl (lv_at hl 1 rfl) ?_
  refine lv_iload hx hb dL_law_1980 (lv_at hl 5 rfl) ?_
  refine lv_iconst (v := (2 : Int32)) hx hb dL_law_1982 (by decide) ?_
  refine lv_iadd hx hb dL_law_1983 ?_
  refine va_sld hx hb hX hbl hbA G.2.2.2.2 hc_325 dL_law_1984 ?_
  obtain ⟨hc_330, hf⟩ := aw_chk_some hf
  obtain ⟨z_328, hz_329, hf⟩ := aw_bind_some hf
  refine aw_VI (As := [.int (xs (x4 + ((1 : Int32))).toNatClampNeg), .int (xs (x4 + ((2 : Int32))).toNatClampNeg)]) (rest := []) X G hl.1 cr_L_207 (c_X11_score l hz_329) ⟨rfl, rfl⟩ rfl rfl rfl (by decide) hc_330 rfl ⟨Nat.le_of_ble_eq_true rfl, Nat.le_of_ble_eq_true rfl⟩ (Nat.le_of_ble_eq_true rfl) dL_law_1985 ⟨by show cells + 4 ≤ 601024; omega, by show slots + 105 ≤ 7293033; omega⟩ (fun H locs G => ?_)
  refine lv_istore (lv' := [(6, .int z_328.1), (5, .int z_326.1), (0, .ref b), (1, .ref (ad x1)), (2, .ref (ad x2)), (3, .ref (ad x3)), (4, .int x4)]) hx hb dL_law_1988 hl (by decide) rfl (fun ls hl => ?_)
  refine lv_aload_n hx hb dL_law_1990 rfl (lv_at hl 4 rfl) ?_
  obtain ⟨z_331, hz_332, hf⟩ := aw_bind_some hf
  refine aw_VI (As := []) (rest := []) X G hl.1 cr_L_124 (c_X11_thrown l hz_332) ⟨rfl, rfl⟩ rfl rfl rfl (by decide) hc_330 rfl ⟨Nat.le_of_ble_eq_true rfl, Nat.le_of_ble_eq_true rfl⟩ (Nat.le_of_ble_eq_true rfl) dL_law_1991 ⟨by show cells + 4 ≤ 601024; omega, by show slots + 105 ≤ 7293033; omega⟩ (fun H locs G => ?_)
  refine lv_iload hx hb dL_law_1994 (lv_at hl 1 rfl) ?_
  refine lv_icmp_eq (tgt := 2001) hx hb dL_law_1996 (by decide) (fun hc => ?_) (fun hc => ?_)
  · have hf := aw_ite_t hc hf
    refine lv_iload hx hb dL_law_2001 (lv_at hl 1 rfl) ?_
    refine lv_if_ne (tgt := 2018) hx hb dL_law_2003 (by decide) (fun hc => ?_) (fun hc => ?_)
    · have hf := aw_ite_f hc hf
      refine lv_goto (tgt := 2257) hx hb dL_law_2018 (by decide) ?_
      refine W.widen (k := cells + 4) (n := slots + 105) (by omega) (by omega) ?_
      exact hkb _ _ hf _ E _ _ _ (lv_sub hl [2, 3, 4, 5, 6] rfl) G
    · have hf := aw_ite_t hc hf
      refine lv_aload_n hx hb dL_law_2006 rfl (lv_at hl 5 rfl) ?_
      refine lv_iconst (v := (0 : Int32)) hx hb dL_law_2007 (by decide) ?_
      obtain ⟨hc_333, hf⟩ := aw_chk_some hf
      refine aw_lal hx hb G hc_333 dL_law_2008 ?_
      refine lv_iload hx hb dL_law_2009 (lv_at hl 0 rfl) ?_
      refine lv_i2l hx hb dL_law_2011 rfl ?_
      refine W.lcmp hx hb dL_law_2012 ?_
      refine lv_if_eq (tgt := 2018) hx hb dL_law_2013 (by decide) (fun hc => ?_) (fun hc => ?_)
      · have hf := aw_ite_t hc hf
        refine lv_goto (tgt := 2257) hx hb dL_law_2018 (by decide) ?_
        refine W.widen (k := cells + 4) (n := slots + 105) (by omega) (by omega) ?_
        exact hkb _ _ hf _ E _ _ _ (lv_sub hl [2, 3, 4, 5, 6] rfl) G
      · have hf := aw_ite_f hc hf
        refine lv_iconst (v := (0 : Int32)) hx hb dL_law_2016 (by decide) ?_
        exact absurd (Option.some.inj hf) (by decide)
  · have hf := aw_ite_f hc hf
    refine lv_iconst (v := (0 : Int32)) hx hb dL_law_1999 (by decide) ?_
    exact absurd (Option.some.inj hf) (by decide)
set_option maxHeartbeats 4000000 in
set_option maxRecDepth 100000 in
theorem w_law_C26 (hst : l.stackTraces = false) (X : aw_X p c cL_law 8 s RL m meth ret) {b L : Nat} {xs : Nat → Int32} (hX : va_X b L xs s s.heap) (hbl : b < s.heap.size) {kb : Sg → Dt → Option Int32} {x1 x2 x3 : Nat} {x4 : Int32} {σ : Sg} {d : Dt} {ad : Nat → Nat} (hf : f_law_C26 xs L kb x1 x2 x3 x4 σ d = some 1) {cells slots : Nat} (hrc : cells + 4 ≤ 601024) (hrs : slots + 105 ≤ 7293033) (hkb : ∀ (σ : Sg) (d : Dt), kb σ d = some 1 → ∀ (ad : Nat → Nat), aw_ext σ0 ad0 σ ad → ∀ (H : Heap) (locs : List Loc) (ls : Array Slot), lv_has ls 8 [(0, .ref b), (1, .ref (ad x1)), (2, .ref (ad x2)), (3, .ref (ad x3)), (4, .int x4)] → aw_G D cA s.heap.size ad σ d s H locs → W p l e room_1 s m #[Value.ref b] below meth c H locs (cells + 4) (slots + 105) (lw_Z below #[Value.ref b] s) (F0 m 2257 ls [])) (E : aw_ext σ0 ad0 σ ad) {H : Heap} {locs : List Loc} {ls : Array Slot} (hl : lv_has ls 8 [(0, .ref b), (1, .ref (ad x1)), (2, .ref (ad x2)), (3, .ref (ad x3)), (4, .int x4)]) (G : aw_G D cA s.heap.size ad σ d s H locs) : W p l e room_1 s m #[Value.ref b] below meth c H locs cells slots (lw_Z below #[Value.ref b] s) (F0 m 2021 ls []) := by
  have hx := X.1; have hb := X.2.1; have hml := X.2.2.1; have hown := X.2.2.2.1
  have hbA : ¬ (fun q => s.heap.size ≤ q) b := Nat.not_le.mpr hbl
  unfold f_law_C26 at hf
  refine lv_aload_n hx hb dL_law_2021 rfl (lv_at hl 1 rfl) ?_
  refine lv_aload_n hx hb dL_law_2022 rfl (lv_at hl 0 rfl) ?_
  refine lv_iload hx hb dL_law_2023 (lv_at hl 4 rfl) ?_
  refine lv_iconst (v := (1 : Int32)) hx hb dL_law_2025 (by decide) ?_
  refine lv_iadd hx hb dL_law_2026 ?_
  obtain ⟨hc_334, hf⟩ := aw_chk_some hf
  refine va_sld hx hb hX hbl hbA G.2.2.2.2 hc_334 dL_law_2027 ?_
  refine lv_aload_n hx hb dL_law_2028 rfl (lv_at hl 3 rfl) ?_
  obtain ⟨z_335, hz_336, hf⟩ := aw_bind_some hf
  refine aw_WI (As := [.ref (ad x1), .int (xs (x4 + ((1 : Int32))).toNatClampNeg), .ref (ad x3)]) (rest := []) X G hl.1 cr_L_208 (c_L_votes l hst hz_336) rfl rfl rfl ⟨Nat.le_of_ble_eq_true rfl, Nat.le_of_ble_eq_true rfl⟩ (Nat.le_of_ble_eq_true rfl) dL_law_2029 ⟨by show cells + 1 ≤ 601024; omega, by show slots + 6 ≤ 7293033; omega⟩ (fun H locs G => ?_)
  refine W.widen (k := cells + 4) (n := slots + 105) (by show cells + 1 ≤ cells + 4; omega) (by show slots + 6 ≤ slots + 105; omega) ?_
  refine lv_istore (lv' := [(5, .int z_335.1), (0, .ref b), (1, .ref (ad x1)), (2, .ref (ad x2)), (3, .ref (ad x3)), (4, .int x4)]) hx hb dL_law_2032 hl (by decide) rfl (fun ls hl => ?_)
  refine lv_aload_n hx hb dL_law_2034 rfl (lv_at hl 3 rfl) ?_
  refine lv_aload_n hx hb dL_law_2035 rfl (lv_at hl 1 rfl) ?_
  refine lv_iload hx hb dL_law_2036 (lv_at hl 5 rfl) ?_
  refine lv_iconst (v := (1 : Int32)) hx hb dL_law_2038 (by decide) ?_
  refine lv_iadd hx hb dL_law_2039 ?_
  refine va_sld hx hb hX hbl hbA G.2.2.2.2 hc_334 dL_law_2040 ?_
  obtain ⟨hc_339, hf⟩ := aw_chk_some hf
  obtain ⟨z_337, hz_338, hf⟩ := aw_bind_some hf
  refine aw_VI (As := [.int (xs (x4 + ((1 : Int32))).toNatClampNeg)]) (rest := []) X G hl.1 cr_L_210 (c_X11_votes l hz_338) ⟨rfl, rfl⟩ rfl rfl rfl (by decide) hc_339 rfl ⟨Nat.le_of_ble_eq_true rfl, Nat.le_of_ble_eq_true rfl⟩ (Nat.le_of_ble_eq_true rfl) dL_law_2041 ⟨by show cells + 4 ≤ 601024; omega, by show slots + 105 ≤ 7293033; omega⟩ (fun H locs G => ?_)
  refine lv_istore (lv' := [(6, .int z_337.1), (5, .int z_335.1), (0, .ref b), (1, .ref (ad x1)), (2, .ref (ad x2)), (3, .ref (ad x3)), (4, .int x4)]) hx hb dL_law_2044 hl (by decide) rfl (fun ls hl => ?_)
  refine lv_aload_n hx hb dL_law_2046 rfl (lv_at hl 4 rfl) ?_
  obtain ⟨z_340, hz_341, hf⟩ := aw_bind_some hf
  refine aw_VI (As := []) (rest := []) X G hl.1 cr_L_124 (c_X11_thrown l hz_341) ⟨rfl, rfl⟩ rfl rfl rfl (by decide) hc_339 rfl ⟨Nat.le_of_ble_eq_true rfl, Nat.le_of_ble_eq_true rfl⟩ (Nat.le_of_ble_eq_true rfl) dL_law_2047 ⟨by show cells + 4 ≤ 601024; omega, by show slots + 105 ≤ 7293033; omega⟩ (fun H locs G => ?_)
  refine lv_iload hx hb dL_law_2050 (lv_at hl 1 rfl) ?_
  refine lv_icmp_eq (tgt := 2057) hx hb dL_law_2052 (by decide) (fun hc => ?_) (fun hc => ?_)
  · have hf := aw_ite_t hc hf
    refine lv_iload hx hb dL_law_2057 (lv_at hl 1 rfl) ?_
    refine lv_if_ne (tgt := 2074) hx hb dL_law_2059 (by decide) (fun hc => ?_) (fun hc => ?_)
    · have hf := aw_ite_f hc hf
      refine lv_goto (tgt := 2257) hx hb dL_law_2074 (by decide) ?_
      refine W.widen (k := cells + 4) (n := slots + 105) (by omega) (by omega) ?_
      exact hkb _ _ hf _ E _ _ _ (lv_sub hl [2, 3, 4, 5, 6] rfl) G
    · have hf := aw_ite_t hc hf
      refine lv_aload_n hx hb dL_law_2062 rfl (lv_at hl 5 rfl) ?_
      refine lv_iconst (v := (0 : Int32)) hx hb dL_law_2063 (by decide) ?_
      obtain ⟨hc_342, hf⟩ := aw_chk_some hf
      refine aw_lal hx hb G hc_342 dL_law_2064 ?_
      refine lv_iload hx hb dL_law_2065 (lv_at hl 0 rfl) ?_
      refine lv_i2l hx hb dL_law_2067 rfl ?_
      refine W.lcmp hx hb dL_law_2068 ?_
      refine lv_if_eq (tgt := 2074) hx hb dL_law_2069 (by decide) (fun hc => ?_) (fun hc => ?_)
      · have hf := aw_ite_t hc hf
        refine lv_goto (tgt := 2257) hx hb dL_law_2074 (by decide) ?_
        refine W.widen (k := cells + 4) (n := slots + 105) (by omega) (by omega) ?_
        exact hkb _ _ hf _ E _ _ _ (lv_sub hl [2, 3, 4, 5, 6] rfl) G
      · have hf := aw_ite_f hc hf
        refine lv_iconst (v := (0 : Int32)) hx hb dL_law_2072 (by decide) ?_
        exact absurd (Option.some.inj hf) (by decide)
  · have hf := aw_ite_f hc hf
    refine lv_iconst (v := (0 : Int32)) hx hb dL_law_2055 (by decide) ?_
    exact absurd (Option.some.inj hf) (by decide)
set_option maxHeartbeats 4000000 in
set_option maxRecDepth 100000 in
theorem w_law_C27 (hst : l.stackTraces = false) (X : aw_X p c cL_law 8 s RL m meth ret) {b L : Nat} {xs : Nat → Int32} (hX : va_X b L xs s s.heap) (hbl : b < s.heap.size) {kb : Sg → Dt → Option Int32} {x1 x2 x3 : Nat} {x4 : Int32} {σ : Sg} {d : Dt} {ad : Nat → Nat} (hf : f_law_C27 xs L kb x1 x2 x3 x4 σ d = some 1) {cells slots : Nat} (hrc : cells + 4 ≤ 601024) (hrs : slots + 105 ≤ 7293033) (hkb : ∀ (σ : Sg) (d : Dt), kb σ d = some 1 → ∀ (ad : Nat → Nat), aw_ext σ0 ad0 σ ad → ∀ (H : Heap) (locs : List Loc) (ls : Array Slot), lv_has ls 8 [(0, .ref b), (1, .ref (ad x1)), (2, .ref (ad x2)), (3, .ref (ad x3)), (4, .int x4)] → aw_G D cA s.heap.size ad σ d s H locs → W p l e room_1 s m #[Value.ref b] below meth c H locs (cells + 4) (slots + 105) (lw_Z below #[Value.ref b] s) (F0 m 2257 ls [])) (E : aw_ext σ0 ad0 σ ad) {H : Heap} {locs : List Loc} {ls : Array Slot} (hl : lv_has ls 8 [(0, .ref b), (1, .ref (ad x1)), (2, .ref (ad x2)), (3, .ref (ad x3)), (4, .int x4)]) (G : aw_G D cA s.heap.size ad σ d s H locs) : W p l e room_1 s m #[Value.ref b] below meth c H locs cells slots (lw_Z below #[Value.ref b] s) (F0 m 2077 ls []) := by
  have hx := X.1; have hb := X.2.1; have hml := X.2.2.1; have hown := X.2.2.2.1
  have hbA : ¬ (fun q => s.heap.size ≤ q) b := Nat.not_le.mpr hbl
  unfold f_law_C27 at hf
  refine lv_aload_n hx hb dL_law_2077 rfl (lv_at hl 1 rfl) ?_
  refine lv_aload_n hx hb dL_law_2078 rfl (lv_at hl 3 rfl) ?_
  obtain ⟨z_343, hz_344, hf⟩ := aw_bind_some hf
  refine aw_WI (As := [.ref (ad x1), .ref (ad x3)]) (rest := []) X G hl.1 cr_L_211 (c_L_elected l hst hz_344) rfl rfl rfl ⟨Nat.le_of_ble_eq_true rfl, Nat.le_of_ble_eq_true rfl⟩ (Nat.le_of_ble_eq_true rfl) dL_law_2079 ⟨by show cells + 1 ≤ 601024; omega, by show slots + 6 ≤ 7293033; omega⟩ (fun H locs G => ?_)
  refine W.widen (k := cells + 4) (n := slots + 105) (by show cells + 1 ≤ cells + 4; omega) (by show slots + 6 ≤ slots + 105; omega) ?_
  refine lv_istore (lv' := [(5, .int z_343.1), (0, .ref b), (1, .ref (ad x1)), (2, .ref (ad x2)), (3, .ref (ad x3)), (4, .int x4)]) hx hb dL_law_2082 hl (by decide) rfl (fun ls hl => ?_)
  refine lv_aload_n hx hb dL_law_2084 rfl (lv_at hl 3 rfl) ?_
  obtain ⟨hc_347, hf⟩ := aw_chk_some hf
  obtain ⟨z_345, hz_346, hf⟩ := aw_bind_some hf
  refine aw_VI (As := []) (rest := []) X G hl.1 cr_L_214 (c_X11_elected l hz_346) ⟨rfl, rfl⟩ rfl rfl rfl (by decide) hc_347 rfl ⟨Nat.le_of_ble_eq_true rfl, Nat.le_of_ble_eq_true rfl⟩ (Nat.le_of_ble_eq_true rfl) dL_law_2085 ⟨by show cells + 4 ≤ 601024; omega, by show slots + 105 ≤ 7293033; omega⟩ (fun H locs G => ?_)
  refine lv_istore (lv' := [(6, .int z_345.1), (5, .int z_343.1), (0, .ref b), (1, .ref (ad x1)), (2, .ref (ad x2)), (3, .ref (ad x3)), (4, .int x4)]) hx hb dL_law_2088 hl (by decide) rfl (fun ls hl => ?_)
  refine lv_aload_n hx hb dL_law_2090 rfl (lv_at hl 4 rfl) ?_
  obtain ⟨z_348, hz_349, hf⟩ := aw_bind_some hf
  refine aw_VI (As := []) (rest := []) X G hl.1 cr_L_124 (c_X11_thrown l hz_349) ⟨rfl, rfl⟩ rfl rfl rfl (by decide) hc_347 rfl ⟨Nat.le_of_ble_eq_true rfl, Nat.le_of_ble_eq_true rfl⟩ (Nat.le_of_ble_eq_true rfl) dL_law_2091 ⟨by show cells + 4 ≤ 601024; omega, by show slots + 105 ≤ 7293033; omega⟩ (fun H locs G => ?_)
  refine lv_iload hx hb dL_law_2094 (lv_at hl 1 rfl) ?_
  refine lv_icmp_eq (tgt := 2101) hx hb dL_law_2096 (by decide) (fun hc => ?_) (fun hc => ?_)
  · have hf := aw_ite_t hc hf
    refine lv_iload hx hb dL_law_2101 (lv_at hl 1 rfl) ?_
    refine lv_if_ne (tgt := 2118) hx hb dL_law_2103 (by decide) (fun hc => ?_) (fun hc => ?_)
    · have hf := aw_ite_f hc hf
      refine lv_goto (tgt := 2257) hx hb dL_law_2118 (by decide) ?_
      refine W.widen (k := cells + 4) (n := slots + 105) (by omega) (by omega) ?_
      exact hkb _ _ hf _ E _ _ _ (lv_sub hl [2, 3, 4, 5, 6] rfl) G
    · have hf := aw_ite_t hc hf
      refine lv_aload_n hx hb dL_law_2106 rfl (lv_at hl 5 rfl) ?_
      refine lv_iconst (v := (0 : Int32)) hx hb dL_law_2107 (by decide) ?_
      obtain ⟨hc_350, hf⟩ := aw_chk_some hf
      refine aw_lal hx hb G hc_350 dL_law_2108 ?_
      refine lv_iload hx hb dL_law_2109 (lv_at hl 0 rfl) ?_
      refine lv_i2l hx hb dL_law_2111 rfl ?_
      refine W.lcmp hx hb dL_law_2112 ?_
      refine lv_if_eq (tgt := 2118) hx hb dL_law_2113 (by decide) (fun hc => ?_) (fun hc => ?_)
      · have hf := aw_ite_t hc hf
        refine lv_goto (tgt := 2257) hx hb dL_law_2118 (by decide) ?_
        refine W.widen (k := cells + 4) (n := slots + 105) (by omega) (by omega) ?_
        exact hkb _ _ hf _ E _ _ _ (lv_sub hl [2, 3, 4, 5, 6] rfl) G
      · have hf := aw_ite_f hc hf
        refine lv_iconst (v := (0 : Int32)) hx hb dL_law_2116 (by decide) ?_
        exact absurd (Option.some.inj hf) (by decide)
  · have hf := aw_ite_f hc hf
    refine lv_iconst (v := (0 : Int32)) hx hb dL_law_2099 (by decide) ?_
    exact absurd (Option.some.inj hf) (by decide)
set_option maxHeartbeats 4000000 in
set_option maxRecDepth 100000 in
theorem w_law_C28 (hst : l.stackTraces = false) (X : aw_X p c cL_law 8 s RL m meth ret) {b L : Nat} {xs : Nat → Int32} (hX : va_X b L xs s s.heap) (hbl : b < s.heap.size) {kb : Sg → Dt → Option Int32} {x1 x2 x3 : Nat} {x4 : Int32} {σ : Sg} {d : Dt} {ad : Nat → Nat} (hf : f_law_C28 xs L kb x1 x2 x3 x4 σ d = some 1) {cells slots : Nat} (hrc : cells + 4 ≤ 601024) (hrs : slots + 105 ≤ 7293033) (hkb : ∀ (σ : Sg) (d : Dt), kb σ d = some 1 → ∀ (ad : Nat → Nat), aw_ext σ0 ad0 σ ad → ∀ (H : Heap) (locs : List Loc) (ls : Array Slot), lv_has ls 8 [(0, .ref b), (1, .ref (ad x1)), (2, .ref (ad x2)), (3, .ref (ad x3)), (4, .int x4)] → aw_G D cA s.heap.size ad σ d s H locs → W p l e room_1 s m #[Value.ref b] below meth c H locs (cells + 4) (slots + 105) (lw_Z below #[Value.ref b] s) (F0 m 2257 ls [])) (E : aw_ext σ0 ad0 σ ad) {H : Heap} {locs : List Loc} {ls : Array Slot} (hl : lv_has ls 8 [(0, .ref b), (1, .ref (ad x1)), (2, .ref (ad x2)), (3, .ref (ad x3)), (4, .int x4)]) (G : aw_G D cA s.heap.size ad σ d s H locs) : W p l e room_1 s m #[Value.ref b] below meth c H locs cells slots (lw_Z below #[Value.ref b] s) (F0 m 2121 ls []) := by
  have hx := X.1; have hb := X.2.1; have hml := X.2.2.1; have hown := X.2.2.2.1
  have hbA : ¬ (fun q => s.heap.size ≤ q) b := Nat.not_le.mpr hbl
  unfold f_law_C28 at hf
  refine lv_aload_n hx hb dL_law_2121 rfl (lv_at hl 1 rfl) ?_
  refine lv_aload_n hx hb dL_law_2122 rfl (lv_at hl 0 rfl) ?_
  refine lv_iload hx hb dL_law_2123 (lv_at hl 4 rfl) ?_
  refine lv_iconst (v := (1 : Int32)) hx hb dL_law_2125 (by decide) ?_
  refine lv_iadd hx hb dL_law_2126 ?_
  obtain ⟨hc_351, hf⟩ := aw_chk_some hf
  refine va_sld hx hb hX hbl hbA G.2.2.2.2 hc_351 dL_law_2127 ?_
  refine lv_aload_n hx hb dL_law_2128 rfl (lv_at hl 0 rfl) ?_
  refine lv_iload hx hb dL_law_2129 (lv_at hl 4 rfl) ?_
  refine lv_iconst (v := (2 : Int32)) hx hb dL_law_2131 (by decide) ?_
  refine lv_iadd hx hb dL_law_2132 ?_
  obtain ⟨hc_352, hf⟩ := aw_chk_some hf
  refine va_sld hx hb hX hbl hbA G.2.2.2.2 hc_352 dL_law_2133 ?_
  refine lv_aload_n hx hb dL_law_2134 rfl (lv_at hl 3 rfl) ?_
  obtain ⟨z_353, hz_354, hf⟩ := aw_bind_some hf
  refine aw_WI (As := [.ref (ad x1), .int (xs (x4 + ((1 : Int32))).toNatClampNeg), .int (xs (x4 + ((2 : Int32))).toNatClampNeg), .ref (ad x3)]) (rest := []) X G hl.1 cr_L_215 (c_L_reform l hst hz_354) rfl rfl rfl ⟨Nat.le_of_ble_eq_true rfl, Nat.le_of_ble_eq_true rfl⟩ (Nat.le_of_ble_eq_true rfl) dL_law_2135 ⟨by show cells + 2 ≤ 601024; omega, by show slots + 12 ≤ 7293033; omega⟩ (fun H locs G => ?_)
  refine W.widen (k := cells + 4) (n := slots + 105) (by show cells + 2 ≤ cells + 4; omega) (by show slots + 12 ≤ slots + 105; omega) ?_
  refine lv_istore (lv' := [(5, .int z_353.1), (0, .ref b), (1, .ref (ad x1)), (2, .ref (ad x2)), (3, .ref (ad x3)), (4, .int x4)]) hx hb dL_law_2138 hl (by decide) rfl (fun ls hl => ?_)
  refine lv_aload_n hx hb dL_law_2140 rfl (lv_at hl 3 rfl) ?_
  refine lv_aload_n hx hb dL_law_2141 rfl (lv_at hl 1 rfl) ?_
  refine lv_iload hx hb dL_law_2142 (lv_at hl 5 rfl) ?_
  refine lv_iconst (v := (1 : Int32)) hx hb dL_law_2144 (by decide) ?_
  refine lv_iadd hx hb dL_law_2145 ?_
  refine va_sld hx hb hX hbl hbA G.2.2.2.2 hc_351 dL_law_2146 ?_
  refine lv_aload_n hx hb dL_law_2147 rfl (lv_at hl 1 rfl) ?_
  refine lv_iload hx hb dL_law_2148 (lv_at hl 5 rfl) ?_
  refine lv_iconst (v := (2 : Int32)) hx hb dL_law_2150 (by decide) ?_
  refine lv_iadd hx hb dL_law_2151 ?_
  refine va_sld hx hb hX hbl hbA G.2.2.2.2 hc_352 dL_law_2152 ?_
  obtain ⟨hc_357, hf⟩ := aw_chk_some hf
  obtain ⟨z_355, hz_356, hf⟩ := aw_bind_some hf
  refine aw_VI (As := [.int (xs (x4 + ((1 : Int32))).toNatClampNeg), .int (xs (x4 + ((2 : Int32))).toNatClampNeg)]) (rest := []) X G hl.1 cr_L_217 (c_X11_reform l hz_356) ⟨rfl, rfl⟩ rfl rfl rfl (by decide) hc_357 rfl ⟨Nat.le_of_ble_eq_true rfl, Nat.le_of_ble_eq_true rfl⟩ (Nat.le_of_ble_eq_true rfl) dL_law_2153 ⟨by show cells + 4 ≤ 601024; omega, by show slots + 105 ≤ 7293033; omega⟩ (fun H locs G => ?_)
  refine lv_istore (lv' := [(6, .int z_355.1), (5, .int z_353.1), (0, .ref b), (1, .ref (ad x1)), (2, .ref (ad x2)), (3, .ref (ad x3)), (4, .int x4)]) hx hb dL_law_2156 hl (by decide) rfl (fun ls hl => ?_)
  refine lv_aload_n hx hb dL_law_2158 rfl (lv_at hl 4 rfl) ?_
  obtain ⟨z_358, hz_359, hf⟩ := aw_bind_some hf
  refine aw_VI (As := []) (rest := []) X G hl.1 cr_L_124 (c_X11_thrown l hz_359) ⟨rfl, rfl⟩ rfl rfl rfl (by decide) hc_357 rfl ⟨Nat.le_of_ble_eq_true rfl, Nat.le_of_ble_eq_true rfl⟩ (Nat.le_of_ble_eq_true rfl) dL_law_2159 ⟨by show cells + 4 ≤ 601024; omega, by show slots + 105 ≤ 7293033; omega⟩ (fun H locs G => ?_)
  refine lv_iload hx hb dL_law_2162 (lv_at hl 1 rfl) ?_
  refine lv_icmp_eq (tgt := 2169) hx hb dL_law_2164 (by decide) (fun hc => ?_) (fun hc => ?_)
  · have hf := aw_ite_t hc hf
    refine lv_iload hx hb dL_law_2169 (lv_at hl 1 rfl) ?_
    refine lv_if_ne (tgt := 2186) hx hb dL_law_2171 (by decide) (fun hc => ?_) (fun hc => ?_)
    · have hf := aw_ite_f hc hf
      refine lv_goto (tgt := 2257) hx hb dL_law_2186 (by decide) ?_
      refine W.widen (k := cells + 4) (n := slots + 105) (by omega) (by omega) ?_
      exact hkb _ _ hf _ E _ _ _ (lv_sub hl [2, 3, 4, 5, 6] rfl) G
    · have hf := aw_ite_t hc hf
      refine lv_aload_n hx hb dL_law_2174 rfl (lv_at hl 5 rfl) ?_
      refine lv_iconst (v := (0 : Int32)) hx hb dL_law_2175 (by decide) ?_
      obtain ⟨hc_360, hf⟩ := aw_chk_some hf
      refine aw_lal hx hb G hc_360 dL_law_2176 ?_
      refine lv_iload hx hb dL_law_2177 (lv_at hl 0 rfl) ?_
      refine lv_i2l hx hb dL_law_2179 rfl ?_
      refine W.lcmp hx hb dL_law_2180 ?_
      refine lv_if_eq (tgt := 2186) hx hb dL_law_2181 (by decide) (fun hc => ?_) (fun hc => ?_)
      · have hf := aw_ite_t hc hf
        refine lv_goto (tgt := 2257) hx hb dL_law_2186 (by decide) ?_
        refine W.widen (k := cells + 4) (n := slots + 105) (by omega) (by omega) ?_
        exact hkb _ _ hf _ E _ _ _ (lv_sub hl [2, 3, 4, 5, 6] rfl) G
      · have hf := aw_ite_f hc hf
        refine lv_iconst (v := (0 : Int32)) hx hb dL_law_2184 (by decide) ?_
        exact absurd (Option.some.inj hf) (by decide)
  · have hf := aw_ite_f hc hf
    refine lv_iconst (v := (0 : Int32)) hx hb dL_law_2167 (by decide) ?_
    exact absurd (Option.some.inj hf) (by decide)
set_option maxHeartbeats 4000000 in
set_option maxRecDepth 100000 in
theorem w_law_C29 (hst : l.stackTraces = false) (X : aw_X p c cL_law 8 s RL m meth ret) {b L : Nat} {xs : Nat → Int32} (hX : va_X b L xs s s.heap) (hbl : b < s.heap.size) {kb : Sg → Dt → Option Int32} {x1 x2 x3 : Nat} {x4 : Int32} {σ : Sg} {d : Dt} {ad : Nat → Nat} (hf : f_law_C29 xs L kb x1 x2 x3 x4 σ d = some 1) {cells slots : Nat} (hrc : cells + 4 ≤ 601024) (hrs : slots + 105 ≤ 7293033) (hkb : ∀ (σ : Sg) (d : Dt), kb σ d = some 1 → ∀ (ad : Nat → Nat), aw_ext σ0 ad0 σ ad → ∀ (H : Heap) (locs : List Loc) (ls : Array Slot), lv_has ls 8 [(0, .ref b), (1, .ref (ad x1)), (2, .ref (ad x2)), (3, .ref (ad x3)), (4, .int x4)] → aw_G D cA s.heap.size ad σ d s H locs → W p l e room_1 s m #[Value.ref b] below meth c H locs (cells + 4) (slots + 105) (lw_Z below #[Value.ref b] s) (F0 m 2257 ls [])) (E : aw_ext σ0 ad0 σ ad) {H : Heap} {locs : List Loc} {ls : Array Slot} (hl : lv_has ls 8 [(0, .ref b), (1, .ref (ad x1)), (2, .ref (ad x2)), (3, .ref (ad x3)), (4, .int x4)]) (G : aw_G D cA s.heap.size ad σ d s H locs) : W p l e room_1 s m #[Value.ref b] below meth c H locs cells slots (lw_Z below #[Value.ref b] s) (F0 m 2189 ls []) := by
  have hx := X.1; have hb := X.2.1; have hml := X.2.2.1; have hown := X.2.2.2.1
  have hbA : ¬ (fun q => s.heap.size ≤ q) b := Nat.not_le.mpr hbl
  unfold f_law_C29 at hf
  refine lv_aload_n hx hb dL_law_2189 rfl (lv_at hl 1 rfl) ?_
  refine lv_aload_n hx hb dL_law_2190 rfl (lv_at hl 0 rfl) ?_
  refine lv_iload hx hb dL_law_2191 (lv_at hl 4 rfl) ?_
  refine lv_iconst (v := (1 : Int32)) hx hb dL_law_2193 (by decide) ?_
  refine lv_iadd hx hb dL_law_2194 ?_
  obtain ⟨hc_361, hf⟩ := aw_chk_some hf
  refine va_sld hx hb hX hbl hbA G.2.2.2.2 hc_361 dL_law_2195 ?_
  refine lv_aload_n hx hb dL_law_2196 rfl (lv_at hl 0 rfl) ?_
  refine lv_iload hx hb dL_law_2197 (lv_at hl 4 rfl) ?_
  refine lv_iconst (v := (2 : Int32)) hx hb dL_law_2199 (by decide) ?_
  refine lv_iadd hx hb dL_law_2200 ?_
  obtain ⟨hc_362, hf⟩ := aw_chk_some hf
  refine va_sld hx hb hX hbl hbA G.2.2.2.2 hc_362 dL_law_2201 ?_
  refine lv_aload_n hx hb dL_law_2202 rfl (lv_at hl 3 rfl) ?_
  obtain ⟨z_363, hz_364, hf⟩ := aw_bind_some hf
  refine aw_WI (As := [.ref (ad x1), .int (xs (x4 + ((1 : Int32))).toNatClampNeg), .int (xs (x4 + ((2 : Int32))).toNatClampNeg), .ref (ad x3)]) (rest := []) X G hl.1 cr_L_218 (c_L_lost l hst hz_364) rfl rfl rfl ⟨Nat.le_of_ble_eq_true rfl, Nat.le_of_ble_eq_true rfl⟩ (Nat.le_of_ble_eq_true rfl) dL_law_2203 ⟨by show cells + 2 ≤ 601024; omega, by show slots + 12 ≤ 7293033; omega⟩ (fun H locs G => ?_)
  refine W.widen (k := cells + 4) (n := slots + 105) (by show cells + 2 ≤ cells + 4; omega) (by show slots + 12 ≤ slots + 105; omega) ?_
  refine lv_istore (lv' := [(5, .int z_363.1), (0, .ref b), (1, .ref (ad x1)), (2, .ref (ad x2)), (3, .ref (ad x3)), (4, .int x4)]) hx hb dL_law_2206 hl (by decide) rfl (fun ls hl => ?_)
  refine lv_aload_n hx hb dL_law_2208 rfl (lv_at hl 3 rfl) ?_
  refine lv_aload_n hx hb dL_law_2209 rfl (lv_at hl 1 rfl) ?_
  refine lv_iload hx hb dL_law_2210 (lv_at hl 5 rfl) ?_
  refine lv_iconst (v := (1 : Int32)) hx hb dL_law_2212 (by decide) ?_
  refine lv_iadd hx hb dL_law_2213 ?_
  refine va_sld hx hb hX hbl hbA G.2.2.2.2 hc_361 dL_law_2214 ?_
  refine lv_aload_n hx hb dL_law_2215 rfl (lv_at hl 1 rfl) ?_
  refine lv_iload hx hb dL_law_2216 (lv_at hl 5 rfl) ?_
  refine lv_iconst (v := (2 : Int32)) hx hb dL_law_2218 (by decide) ?_
  refine lv_iadd hx hb dL_law_2219 ?_
  refine va_sld hx hb hX hbl hbA G.2.2.2.2 hc_362 dL_law_2220 ?_
  obtain ⟨hc_367, hf⟩ := aw_chk_some hf
  obtain ⟨z_365, hz_366, hf⟩ := aw_bind_some hf
  refine aw_VI (As := [.int (xs (x4 + ((1 : Int32))).toNatClampNeg), .int (xs (x4 + ((2 : Int32))).toNatClampNeg)]) (rest := []) X G hl.1 cr_L_220 (c_X11_lost l hz_366) ⟨rfl, rfl⟩ rfl rfl rfl (by decide) hc_367 rfl ⟨Nat.le_of_ble_eq_true rfl, Nat.le_of_ble_eq_true rfl⟩ (Nat.le_of_ble_eq_true rfl) dL_law_2221 ⟨by show cells + 4 ≤ 601024; omega, by show slots + 105 ≤ 7293033; omega⟩ (fun H locs G => ?_)
  refine lv_istore (lv' := [(6, .int z_365.1), (5, .int z_363.1), (0, .ref b), (1, .ref (ad x1)), (2, .ref (ad x2)), (3, .ref (ad x3)), (4, .int x4)]) hx hb dL_law_2224 hl (by decide) rfl (fun ls hl => ?_)
  refine lv_aload_n hx hb dL_law_2226 rfl (lv_at hl 4 rfl) ?_
  obtain ⟨z_368, hz_369, hf⟩ := aw_bind_some hf
  refine aw_VI (As := []) (rest := []) X G hl.1 cr_L_124 (c_X11_thrown l hz_369) ⟨rfl, rfl⟩ rfl rfl rfl (by decide) hc_367 rfl ⟨Nat.le_of_ble_eq_true rfl, Nat.le_of_ble_eq_true rfl⟩ (Nat.le_of_ble_eq_true rfl) dL_law_2227 ⟨by show cells + 4 ≤ 601024; omega, by show slots + 105 ≤ 7293033; omega⟩ (fun H locs G => ?_)
  refine lv_iload hx hb dL_law_2230 (lv_at hl 1 rfl) ?_
  refine lv_icmp_eq (tgt := 2237) hx hb dL_law_2232 (by decide) (fun hc => ?_) (fun hc => ?_)
  · have hf := aw_ite_t hc hf
    refine lv_iload hx hb dL_law_2237 (lv_at hl 1 rfl) ?_
    refine lv_if_ne (tgt := 2254) hx hb dL_law_2239 (by decide) (fun hc => ?_) (fun hc => ?_)
    · have hf := aw_ite_f hc hf
      refine lv_goto (tgt := 2257) hx hb dL_law_2254 (by decide) ?_
      refine W.widen (k := cells + 4) (n := slots + 105) (by omega) (by omega) ?_
      exact hkb _ _ hf _ E _ _ _ (lv_sub hl [2, 3, 4, 5, 6] rfl) G
    · have hf := aw_ite_t hc hf
      refine lv_aload_n hx hb dL_law_2242 rfl (lv_at hl 5 rfl) ?_
      refine lv_iconst (v := (0 : Int32)) hx hb dL_law_2243 (by decide) ?_
      obtain ⟨hc_370, hf⟩ := aw_chk_some hf
      refine aw_lal hx hb G hc_370 dL_law_2244 ?_
      refine lv_iload hx hb dL_law_2245 (lv_at hl 0 rfl) ?_
      refine lv_i2l hx hb dL_law_2247 rfl ?_
      refine W.lcmp hx hb dL_law_2248 ?_
      refine lv_if_eq (tgt := 2254) hx hb dL_law_2249 (by decide) (fun hc => ?_) (fun hc => ?_)
      · have hf := aw_ite_t hc hf
        refine lv_goto (tgt := 2257) hx hb dL_law_2254 (by decide) ?_
        refine W.widen (k := cells + 4) (n := slots + 105) (by omega) (by omega) ?_
        exact hkb _ _ hf _ E _ _ _ (lv_sub hl [2, 3, 4, 5, 6] rfl) G
      · have hf := aw_ite_f hc hf
        refine lv_iconst (v := (0 : Int32)) hx hb dL_law_2252 (by decide) ?_
        exact absurd (Option.some.inj hf) (by decide)
  · have hf := aw_ite_f hc hf
    refine lv_iconst (v := (0 : Int32)) hx hb dL_law_2235 (by decide) ?_
    exact absurd (Option.some.inj hf) (by decide)
end LAW1
