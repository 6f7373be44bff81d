def f_law_C0 (xs : Nat → Int32) (L : Nat) (kb : Sg → Dt → Option Int32) (x1 x2 x3 : Nat) (x4 : Int32) (σ : Sg) (d : Dt) : Option Int32 :=
  aw_chk (¬ ((x4 + ((1 : Int32))) < 0 ∨ L ≤ (x4 + ((1 : Int32))).toNatClampNeg)) ((f_L_syllable σ x1 (xs (x4 + ((1 : Int32))).toNatClampNeg) x3 d).bind (fun z_2 => aw_chk (aw_O σ 11 32 x2) ((f_X11_syllable σ x2 (xs (x4 + ((1 : Int32))).toNatClampNeg) z_2.2).bind (fun z_4 => (f_X11_thrown σ x2 z_4.2).bind (fun z_7 => if z_7.1 = z_2.1 then if z_2.1 = 0 then aw_chk (aw_I σ 21 x3 ((0 : Int32))) (if (lg_cmp (z_7.2.2 x3 ((0 : Int32)).toNatClampNeg) z_4.1.toInt64) = 0 then kb σ z_7.2 else some ((0 : Int32))) else kb σ z_7.2 else some ((0 : Int32)))))))
def f_law_C1 (xs : Nat → Int32) (L : Nat) (kb : Sg → Dt → Option Int32) (x1 x2 x3 : Nat) (x4 : Int32) (σ : Sg) (d : Dt) : Option Int32 :=
  aw_chk (¬ ((x4 + ((1 : Int32))) < 0 ∨ L ≤ (x4 + ((1 : Int32))).toNatClampNeg)) ((f_L_word σ x1 (xs (x4 + ((1 : Int32))).toNatClampNeg) x3 d).bind (fun z_11 => aw_chk (aw_O σ 11 32 x2) ((f_X11_word σ x2 (xs (x4 + ((1 : Int32))).toNatClampNeg) z_11.2).bind (fun z_13 => (f_X11_thrown σ x2 z_13.2).bind (fun z_16 => if z_16.1 = z_11.1 then if z_11.1 = 0 then aw_chk (aw_I σ 21 x3 ((0 : Int32))) (if (lg_cmp (z_16.2.2 x3 ((0 : Int32)).toNatClampNeg) z_13.1.toInt64) = 0 then kb σ z_16.2 else some ((0 : Int32))) else kb σ z_16.2 else some ((0 : Int32)))))))
def f_law_C2 (xs : Nat → Int32) (L : Nat) (kb : Sg → Dt → Option Int32) (x1 x2 x3 : Nat) (x4 : Int32) (σ : Sg) (d : Dt) : Option Int32 :=
  aw_chk (¬ ((x4 + ((1 : Int32))) < 0 ∨ L ≤ (x4 + ((1 : Int32))).toNatClampNeg)) (aw_chk (¬ ((x4 + ((2 : Int32))) < 0 ∨ L ≤ (x4 + ((2 : Int32))).toNatClampNeg)) (aw_chk (¬ ((x4 + ((3 : Int32))) < 0 ∨ L ≤ (x4 + ((3 : Int32))).toNatClampNeg)) (aw_chk (¬ ((x4 + ((4 : Int32))) < 0 ∨ L ≤ (x4 + ((4 : Int32))).toNatClampNeg)) (aw_chk (¬ ((x4 + ((5 : Int32))) < 0 ∨ L ≤ (x4 + ((5 : Int32))).toNatClampNeg)) (if (xs (x4 + ((5 : Int32))).toNatClampNeg) = 0 then (f_L_change σ x1 (xs (x4 + ((1 : Int32))).toNatClampNeg) (xs (x4 + ((2 : Int32))).toNatClampNeg) (xs (x4 + ((3 : Int32))).toNatClampNeg) (xs (x4 + ((4 : Int32))).toNatClampNeg) ((0 : Int32)) x3 d).bind (fun z_24 => if (xs (x4 + ((5 : Int32))).toNatClampNeg) = 0 then aw_chk (aw_O σ 11 32 x2) ((f_X11_change σ x2 (xs (x4 + ((1 : Int32))).toNatClampNeg) (xs (x4 + ((2 : Int32))).toNatClampNeg) (xs (x4 + ((3 : Int32))).toNatClampNeg) (xs (x4 + ((4 : Int32))).toNatClampNeg) ((0 : Int32)) z_24.2).bind (fun z_26 => (f_X11_thrown σ x2 z_26.2).bind (fun z_29 => if z_29.1 = z_24.1 then if z_24.1 = 0 then aw_chk (aw_I σ 21 x3 ((0 : Int32))) (if (lg_cmp (z_29.2.2 x3 ((0 : Int32)).toNatClampNeg) z_26.1.toInt64) = 0 then kb σ z_29.2 else some ((0 : Int32))) else kb σ z_29.2 else some ((0 : Int32))))) else aw_chk (aw_O σ 11 32 x2) ((f_X11_change σ x2 (xs (x4 + ((1 : Int32))).toNatClampNeg) (xs (x4 + ((2 : Int32))).toNatClampNeg) (xs (x4 + ((3 : Int32))).toNatClampNeg) (xs (x4 + ((4 : Int32))).toNatClampNeg) ((1 : Int32)) z_24.2).bind (fun z_32 => (f_X11_thrown σ x2 z_32.2).bind (fun z_35 => if z_35.1 = z_24.1 then if z_24.1 = 0 then aw_chk (aw_I σ 21 x3 ((0 : Int32))) (if (lg_cmp (z_35.2.2 x3 ((0 : Int32)).toNatClampNeg) z_32.1.toInt64) = 0 then kb σ z_35.2 else some ((0 : Int32))) else kb σ z_35.2 else some ((0 : Int32)))))) else (f_L_change σ x1 (xs (x4 + ((1 : Int32))).toNatClampNeg) (xs (x4 + ((2 : Int32))).toNatClampNeg) (xs (x4 + ((3 : Int32))).toNatClampNeg) (xs (x4 + ((4 : Int32))).toNatClampNeg) ((1 : Int32)) x3 d).bind (fun z_38 => if (xs (x4 + ((5 : Int32))).toNatClampNeg) = 0 then aw_chk (aw_O σ 11 32 x2) ((f_X11_change σ x2 (xs (x4 + ((1 : Int32))).toNatClampNeg) (xs (x4 + ((2 : Int32))).toNatClampNeg) (xs (x4 + ((3 : Int32))).toNatClampNeg) (xs (x4 + ((4 : Int32))).toNatClampNeg) ((0 : Int32)) z_38.2).bind (fun z_40 => (f_X11_thrown σ x2 z_40.2).bind (fun z_43 => if z_43.1 = z_38.1 then if z_38.1 = 0 then aw_chk (aw_I σ 21 x3 ((0 : Int32))) (if (lg_cmp (z_43.2.2 x3 ((0 : Int32)).toNatClampNeg) z_40.1.toInt64) = 0 then kb σ z_43.2 else some ((0 : Int32))) else kb σ z_43.2 else some ((0 : Int32))))) else aw_chk (aw_O σ 11 32 x2) ((f_X11_change σ x2 (xs (x4 + ((1 : Int32))).toNatClampNeg) (xs (x4 + ((2 : Int32))).toNatClampNeg) (xs (x4 + ((3 : Int32))).toNatClampNeg) (xs (x4 + ((4 : Int32))).toNatClampNeg) ((1 : Int32)) z_38.2).bind (fun z_46 => (f_X11_thrown σ x2 z_46.2).bind (fun z_49 => if z_49.1 = z_38.1 then if z_38.1 = 0 then aw_chk (aw_I σ 21 x3 ((0 : Int32))) (if (lg_cmp (z_49.2.2 x3 ((0 : Int32)).toNatClampNeg) z_46.1.toInt64) = 0 then kb σ z_49.2 else some ((0 : Int32))) else kb σ z_49.2 else some ((0 : Int32)))))))))))
def f_law_C3 (xs : Nat → Int32) (L : Nat) (kb : Sg → Dt → Option Int32) (x1 x2 x3 : Nat) (x4 : Int32) (σ : Sg) (d : Dt) : Option Int32 :=
  aw_chk (¬ ((x4 + ((1 : Int32))) < 0 ∨ L ≤ (x4 + ((1 : Int32))).toNatClampNeg)) (aw_chk (¬ ((x4 + ((2 : Int32))) < 0 ∨ L ≤ (x4 + ((2 : Int32))).toNatClampNeg)) (aw_chk (¬ ((x4 + ((3 : Int32))) < 0 ∨ L ≤ (x4 + ((3 : Int32))).toNatClampNeg)) ((f_L_spoken σ x1 (xs (x4 + ((1 : Int32))).toNatClampNeg) (xs (x4 + ((2 : Int32))).toNatClampNeg) (xs (x4 + ((3 : Int32))).toNatClampNeg) x3 d).bind (fun z_55 => aw_chk (aw_O σ 11 32 x2) ((f_X11_spoken σ x2 (xs (x4 + ((1 : Int32))).toNatClampNeg) (xs (x4 + ((2 : Int32))).toNatClampNeg) (xs (x4 + ((3 : Int32))).toNatClampNeg) z_55.2).bind (fun z_57 => (f_X11_thrown σ x2 z_57.2).bind (fun z_60 => if z_60.1 = z_55.1 then if z_55.1 = 0 then aw_chk (aw_I σ 21 x3 ((0 : Int32))) (if (lg_cmp (z_60.2.2 x3 ((0 : Int32)).toNatClampNeg) z_57.1.toInt64) = 0 then kb σ z_60.2 else some ((0 : Int32))) else kb σ z_60.2 else some ((0 : Int32)))))))))
def f_law_C4 (xs : Nat → Int32) (L : Nat) (kb : Sg → Dt → Option Int32) (x1 x2 x3 : Nat) (x4 : Int32) (σ : Sg) (d : Dt) : Option Int32 :=
  aw_chk (¬ ((x4 + ((1 : Int32))) < 0 ∨ L ≤ (x4 + ((1 : Int32))).toNatClampNeg)) (aw_chk (¬ ((x4 + ((2 : Int32))) < 0 ∨ L ≤ (x4 + ((2 : Int32))).toNatClampNeg)) (aw_chk (x1 < σ.1) (aw_chk (x2 < σ.1) (aw_chk (x3 < σ.1) ((f_L_design x1 (xs (x4 + ((1 : Int32))).toNatClampNeg) (xs (x4 + ((2 : Int32))).toNatClampNeg) x3 σ d).bind (fun z_65 => aw_chk (¬ ((x4 + ((1 : Int32))) < 0 ∨ L ≤ (x4 + ((1 : Int32))).toNatClampNeg)) (aw_chk (¬ ((x4 + ((2 : Int32))) < 0 ∨ L ≤ (x4 + ((2 : Int32))).toNatClampNeg)) (aw_chk (aw_O z_65.2.1 11 32 x2) ((f_X11_design z_65.2.1 x2 (xs (x4 + ((1 : Int32))).toNatClampNeg) (xs (x4 + ((2 : Int32))).toNatClampNeg) z_65.2.2).bind (fun z_78 => (f_X11_thrown z_65.2.1 x2 z_78.2).bind (fun z_81 => if z_81.1 = z_65.1 then if z_65.1 = 0 then aw_chk (aw_I z_65.2.1 21 x3 ((0 : Int32))) (if (lg_cmp (z_81.2.2 x3 ((0 : Int32)).toNatClampNeg) z_78.1.toInt64) = 0 then kb z_65.2.1 z_81.2 else some ((0 : Int32))) else kb z_65.2.1 z_81.2 else some ((0 : Int32)))))))))))))
def f_law_C5 (xs : Nat → Int32) (L : Nat) (kb : Sg → Dt → Option Int32) (x1 x2 x3 : Nat) (x4 : Int32) (σ : Sg) (d : Dt) : Option Int32 :=
  aw_chk (¬ ((x4 + ((1 : Int32))) < 0 ∨ L ≤ (x4 + ((1 : Int32))).toNatClampNeg)) (aw_chk (¬ ((x4 + ((2 : Int32))) < 0 ∨ L ≤ (x4 + ((2 : Int32))).toNatClampNeg)) (aw_chk (¬ ((x4 + ((3 : Int32))) < 0 ∨ L ≤ (x4 + ((3 : Int32))).toNatClampNeg)) (aw_chk (¬ ((x4 + ((4 : Int32))) < 0 ∨ L ≤ (x4 + ((4 : Int32))).toNatClampNeg)) (if (xs (x4 + ((4 : Int32))).toNatClampNeg) = 0 then (f_L_assign σ x1 (xs (x4 + ((1 : Int32))).toNatClampNeg) (xs (x4 + ((2 : Int32))).toNatClampNeg) (xs (x4 + ((3 : Int32))).toNatClampNeg) ((0 : Int32)) x3 d).bind (fun z_88 => if (xs (x4 + ((4 : Int32))).toNatClampNeg) = 0 then aw_chk (aw_O σ 11 32 x2) ((f_X11_assign σ x2 (xs (x4 + ((1 : Int32))).toNatClampNeg) (xs (x4 + ((2 : Int32))).toNatClampNeg) (xs (x4 + ((3 : Int32))).toNatClampNeg) ((0 : Int32)) z_88.2).bind (fun z_90 => (f_X11_thrown σ x2 z_90.2).bind (fun z_93 => if z_93.1 = z_88.1 then if z_88.1 = 0 then aw_chk (aw_I σ 21 x3 ((0 : Int32))) (if (lg_cmp (z_93.2.2 x3 ((0 : Int32)).toNatClampNeg) z_90.1.toInt64) = 0 then kb σ z_93.2 else some ((0 : Int32))) else kb σ z_93.2 else some ((0 : Int32))))) else aw_chk (aw_O σ 11 32 x2) ((f_X11_assign σ x2 (xs (x4 + ((1 : Int32))).toNatClampNeg) (xs (x4 + ((2 : Int32))).toNatClampNeg) (xs (x4 + ((3 : Int32))).toNatClampNeg) ((1 : Int32)) z_88.2).bind (fun z_96 => (f_X11_thrown σ x2 z_96.2).bind (fun z_99 => if z_99.1 = z_88.1 then if z_88.1 = 0 then aw_chk (aw_I σ 21 x3 ((0 : Int32))) (if (lg_cmp (z_99.2.2 x3 ((0 : Int32)).toNatClampNeg) z_96.1.toInt64) = 0 then kb σ z_99.2 else some ((0 : Int32))) else kb σ z_99.2 else some ((0 : Int32)))))) else (f_L_assign σ x1 (xs (x4 + ((1 : Int32))).toNatClampNeg) (xs (x4 + ((2 : Int32))).toNatClampNeg) (xs (x4 + ((3 : Int32))).toNatClampNeg) ((1 : Int32)) x3 d).bind (fun z_102 => if (xs (x4 + ((4 : Int32))).toNatClampNeg) = 0 then aw_chk (aw_O σ 11 32 x2) ((f_X11_assign σ x2 (xs (x4 + ((1 : Int32))).toNatClampNeg) (xs (x4 + ((2 : Int32))).toNatClampNeg) (xs (x4 + ((3 : Int32))).toNatClampNeg) ((0 : Int32)) z_102.2).bind (fun z_104 => (f_X11_thrown σ x2 z_104.2).bind (fun z_107 => if z_107.1 = z_102.1 then if z_102.1 = 0 then aw_chk (aw_I σ 21 x3 ((0 : Int32))) (if (lg_cmp (z_107.2.2 x3 ((0 : Int32)).toNatClampNeg) z_104.1.toInt64) = 0 then kb σ z_107.2 else some ((0 : Int32))) else kb σ z_107.2 else some ((0 : Int32))))) else aw_chk (aw_O σ 11 32 x2) ((f_X11_assign σ x2 (xs (x4 + ((1 : Int32))).toNatClampNeg) (xs (x4 + ((2 : Int32))).toNatClampNeg) (xs (x4 + ((3 : Int32))).toNatClampNeg) ((1 : Int32)) z_102.2).bind (fun z_110 => (f_X11_thrown σ x2 z_110.2).bind (fun z_113 => if z_113.1 = z_102.1 then if z_102.1 = 0 then aw_chk (aw_I σ 21 x3 ((0 : Int32))) (if (lg_cmp (z_113.2.2 x3 ((0 : Int32)).toNatClampNeg) z_110.1.toInt64) = 0 then kb σ z_113.2 else some ((0 : Int32))) else kb σ z_113.2 else some ((0 : Int32))))))))))
def f_law_C6 (xs : Nat → Int32) (L : Nat) (kb : Sg → Dt → Option Int32) (x1 x2 x3 : Nat) (x4 : Int32) (σ : Sg) (d : Dt) : Option Int32 :=
  aw_chk (¬ ((x4 + ((1 : Int32))) < 0 ∨ L ≤ (x4 + ((1 : Int32))).toNatClampNeg)) (aw_chk (¬ ((x4 + ((2 : Int32))) < 0 ∨ L ≤ (x4 + ((2 : Int32))).toNatClampNeg)) (aw_chk (¬ ((x4 + ((3 : Int32))) < 0 ∨ L ≤ (x4 + ((3 : Int32))).toNatClampNeg)) (if (xs (x4 + ((3 : Int32))).toNatClampNeg) = 0 then (f_L_mark σ x1 (xs (x4 + ((1 : Int32))).toNatClampNeg) (xs (x4 + ((2 : Int32))).toNatClampNeg) ((0 : Int32)) x3 d).bind (fun z_119 => if (xs (x4 + ((3 : Int32))).toNatClampNeg) = 0 then aw_chk (aw_O σ 11 32 x2) ((f_X11_mark σ x2 (xs (x4 + ((1 : Int32))).toNatClampNeg) (xs (x4 + ((2 : Int32))).toNatClampNeg) ((0 : Int32)) z_119.2).bind (fun z_121 => (f_X11_thrown σ x2 z_121.2).bind (fun z_124 => if z_124.1 = z_119.1 then if z_119.1 = 0 then aw_chk (aw_I σ 21 x3 ((0 : Int32))) (if z_121.1 = 0 then if (lg_cmp (z_124.2.2 x3 ((0 : Int32)).toNatClampNeg) ((0 : Int64))) = 0 then kb σ z_124.2 else some ((0 : Int32)) else if (lg_cmp (z_124.2.2 x3 ((0 : Int32)).toNatClampNeg) ((1 : Int64))) = 0 then kb σ z_124.2 else some ((0 : Int32))) else kb σ z_124.2 else some ((0 : Int32))))) else aw_chk (aw_O σ 11 32 x2) ((f_X11_mark σ x2 (xs (x4 + ((1 : Int32))).toNatClampNeg) (xs (x4 + ((2 : Int32))).toNatClampNeg) ((1 : Int32)) z_119.2).bind (fun z_127 => (f_X11_thrown σ x2 z_127.2).bind (fun z_130 => if z_130.1 = z_119.1 then if z_119.1 = 0 then aw_chk (aw_I σ 21 x3 ((0 : Int32))) (if z_127.1 = 0 then if (lg_cmp (z_130.2.2 x3 ((0 : Int32)).toNatClampNeg) ((0 : Int64))) = 0 then kb σ z_130.2 else some ((0 : Int32)) else if (lg_cmp (z_130.2.2 x3 ((0 : Int32)).toNatClampNeg) ((1 : Int64))) = 0 then kb σ z_130.2 else some ((0 : Int32))) else kb σ z_130.2 else some ((0 : Int32)))))) else (f_L_mark σ x1 (xs (x4 + ((1 : Int32))).toNatClampNeg) (xs (x4 + ((2 : Int32))).toNatClampNeg) ((1 : Int32)) x3 d).bind (fun z_133 => if (xs (x4 + ((3 : Int32))).toNatClampNeg) = 0 then aw_chk (aw_O σ 11 32 x2) ((f_X11_mark σ x2 (xs (x4 + ((1 : Int32))).toNatClampNeg) (xs (x4 + ((2 : Int32))).toNatClampNeg) ((0 : Int32)) z_133.2).bind (fun z_135 => (f_X11_thrown σ x2 z_135.2).bind (fun z_138 => if z_138.1 = z_133.1 then if z_133.1 = 0 then aw_chk (aw_I σ 21 x3 ((0 : Int32))) (if z_135.1 = 0 then if (lg_cmp (z_138.2.2 x3 ((0 : Int32)).toNatClampNeg) ((0 : Int64))) = 0 then kb σ z_138.2 else some ((0 : Int32)) else if (lg_cmp (z_138.2.2 x3 ((0 : Int32)).toNatClampNeg) ((1 : Int64))) = 0 then kb σ z_138.2 else some ((0 : Int32))) else kb σ z_138.2 else some ((0 : Int32))))) else aw_chk (aw_O σ 11 32 x2) ((f_X11_mark σ x2 (xs (x4 + ((1 : Int32))).toNatClampNeg) (xs (x4 + ((2 : Int32))).toNatClampNeg) ((1 : Int32)) z_133.2).bind (fun z_141 => (f_X11_thrown σ x2 z_141.2).bind (fun z_144 => if z_144.1 = z_133.1 then if z_133.1 = 0 then aw_chk (aw_I σ 21 x3 ((0 : Int32))) (if z_141.1 = 0 then if (lg_cmp (z_144.2.2 x3 ((0 : Int32)).toNatClampNeg) ((0 : Int64))) = 0 then kb σ z_144.2 else some ((0 : Int32)) else if (lg_cmp (z_144.2.2 x3 ((0 : Int32)).toNatClampNeg) ((1 : Int64))) = 0 then kb σ z_144.2 else some ((0 : Int32))) else kb σ z_144.2 else some ((0 : Int32)))))))))
def f_law_C7 (xs : Nat → Int32) (L : Nat) (kb : Sg → Dt → Option Int32) (x1 x2 x3 : Nat) (x4 : Int32) (σ : Sg) (d : Dt) : Option Int32 :=
  aw_chk (¬ ((x4 + ((1 : Int32))) < 0 ∨ L ≤ (x4 + ((1 : Int32))).toNatClampNeg)) (aw_chk (¬ ((x4 + ((2 : Int32))) < 0 ∨ L ≤ (x4 + ((2 : Int32))).toNatClampNeg)) (aw_chk (¬ ((x4 + ((3 : Int32))) < 0 ∨ L ≤ (x4 + ((3 : Int32))).toNatClampNeg)) ((f_L_spelled σ x1 (xs (x4 + ((1 : Int32))).toNatClampNeg) (xs (x4 + ((2 : Int32))).toNatClampNeg) (xs (x4 + ((3 : Int32))).toNatClampNeg) x3 d).bind (fun z_150 => aw_chk (aw_O σ 11 32 x2) ((f_X11_spelled σ x2 (xs (x4 + ((1 : Int32))).toNatClampNeg) (xs (x4 + ((2 : Int32))).toNatClampNeg) (xs (x4 + ((3 : Int32))).toNatClampNeg) z_150.2).bind (fun z_152 => (f_X11_thrown σ x2 z_152.2).bind (fun z_155 => if z_155.1 = z_150.1 then if z_150.1 = 0 then aw_chk (aw_I σ 21 x3 ((0 : Int32))) (if (lg_cmp (z_155.2.2 x3 ((0 : Int32)).toNatClampNeg) z_152.1.toInt64) = 0 then kb σ z_155.2 else some ((0 : Int32))) else kb σ z_155.2 else some ((0 : Int32)))))))))
def f_law_C8 (xs : Nat → Int32) (L : Nat) (kb : Sg → Dt → Option Int32) (x1 x2 x3 : Nat) (x4 : Int32) (σ : Sg) (d : Dt) : Option Int32 :=
  aw_chk (¬ ((x4 + ((1 : Int32))) < 0 ∨ L ≤ (x4 + ((1 : Int32))).toNatClampNeg)) ((f_L_doubts σ x1 (xs (x4 + ((1 : Int32))).toNatClampNeg) x3 d).bind (fun z_159 => aw_chk (aw_O σ 11 32 x2) ((f_X11_doubts σ x2 (xs (x4 + ((1 : Int32))).toNatClampNeg) z_159.2).bind (fun z_161 => (f_X11_thrown σ x2 z_161.2).bind (fun z_164 => if z_164.1 = z_159.1 then if z_159.1 = 0 then aw_chk (aw_I σ 21 x3 ((0 : Int32))) (if (lg_cmp (z_164.2.2 x3 ((0 : Int32)).toNatClampNeg) z_161.1.toInt64) = 0 then kb σ z_164.2 else some ((0 : Int32))) else kb σ z_164.2 else some ((0 : Int32)))))))
def f_law_C9 (xs : Nat → Int32) (L : Nat) (kb : Sg → Dt → Option Int32) (x1 x2 x3 : Nat) (x4 : Int32) (σ : Sg) (d : Dt) : Option Int32 :=
  aw_chk (¬ ((x4 + ((1 : Int32))) < 0 ∨ L ≤ (x4 + ((1 : Int32))).toNatClampNeg)) ((f_L_load σ x1 (xs (x4 + ((1 : Int32))).toNatClampNeg) x3 d).bind (fun z_168 => aw_chk (aw_O σ 11 32 x2) ((f_X11_load σ x2 (xs (x4 + ((1 : Int32))).toNatClampNeg) z_168.2).bind (fun z_170 => (f_X11_thrown σ x2 z_170.2).bind (fun z_173 => if z_173.1 = z_168.1 then if z_168.1 = 0 then aw_chk (aw_I σ 21 x3 ((0 : Int32))) (if (lg_cmp (z_173.2.2 x3 ((0 : Int32)).toNatClampNeg) z_170.1.toInt64) = 0 then kb σ z_173.2 else some ((0 : Int32))) else kb σ z_173.2 else some ((0 : Int32)))))))
def f_law_C10 (xs : Nat → Int32) (L : Nat) (kb : Sg → Dt → Option Int32) (x1 x2 x3 : Nat) (x4 : Int32) (σ : Sg) (d : Dt) : Option Int32 :=
  aw_chk (¬ ((x4 + ((1 : Int32))) < 0 ∨ L ≤ (x4 + ((1 : Int32))).toNatClampNeg)) (aw_chk (¬ ((x4 + ((2 : Int32))) < 0 ∨ L ≤ (x4 + ((2 : Int32))).toNatClampNeg)) ((f_L_loadIf σ x1 (xs (x4 + ((1 : Int32))).toNatClampNeg) (xs (x4 + ((2 : Int32))).toNatClampNeg) x3 d).bind (fun z_178 => aw_chk (aw_O σ 11 32 x2) ((f_X11_loadIf σ x2 (xs (x4 + ((1 : Int32))).toNatClampNeg) (xs (x4 + ((2 : Int32))).toNatClampNeg) z_178.2).bind (fun z_180 => (f_X11_thrown σ x2 z_180.2).bind (fun z_183 => if z_183.1 = z_178.1 then if z_178.1 = 0 then aw_chk (aw_I σ 21 x3 ((0 : Int32))) (if (lg_cmp (z_183.2.2 x3 ((0 : Int32)).toNatClampNeg) z_180.1.toInt64) = 0 then kb σ z_183.2 else some ((0 : Int32))) else kb σ z_183.2 else some ((0 : Int32))))))))
def f_law_C11 (xs : Nat → Int32) (L : Nat) (kb : Sg → Dt → Option Int32) (x1 x2 x3 : Nat) (x4 : Int32) (σ : Sg) (d : Dt) : Option Int32 :=
  aw_chk (¬ ((x4 + ((1 : Int32))) < 0 ∨ L ≤ (x4 + ((1 : Int32))).toNatClampNeg)) (aw_chk (¬ ((x4 + ((2 : Int32))) < 0 ∨ L ≤ (x4 + ((2 : Int32))).toNatClampNeg)) ((f_L_readings σ x1 (xs (x4 + ((1 : Int32))).toNatClampNeg) (xs (x4 + ((2 : Int32))).toNatClampNeg) x3 d).bind (fun z_188 => aw_chk (aw_O σ 11 32 x2) ((f_X11_readings σ x2 (xs (x4 + ((1 : Int32))).toNatClampNeg) (xs (x4 + ((2 : Int32))).toNatClampNeg) z_188.2).bind (fun z_190 => (f_X11_thrown σ x2 z_190.2).bind (fun z_193 => if z_193.1 = z_188.1 then if z_188.1 = 0 then aw_chk (aw_I σ 21 x3 ((0 : Int32))) (if (lg_cmp (z_193.2.2 x3 ((0 : Int32)).toNatClampNeg) z_190.1) = 0 then kb σ z_193.2 else some ((0 : Int32))) else kb σ z_193.2 else some ((0 : Int32))))))))
def f_law_C12 (xs : Nat → Int32) (L : Nat) (kb : Sg → Dt → Option Int32) (x1 x2 x3 : Nat) (x4 : Int32) (σ : Sg) (d : Dt) : Option Int32 :=
  aw_chk (¬ ((x4 + ((1 : Int32))) < 0 ∨ L ≤ (x4 + ((1 : Int32))).toNatClampNeg)) (aw_chk (¬ ((x4 + ((2 : Int32))) < 0 ∨ L ≤ (x4 + ((2 : Int32))).toNatClampNeg)) ((f_L_readingsAnew σ x1 (xs (x4 + ((1 : Int32))).toNatClampNeg) (xs (x4 + ((2 : Int32))).toNatClampNeg) x3 d).bind (fun z_198 => aw_chk (aw_O σ 11 32 x2) ((f_X11_readingsAnew σ x2 (xs (x4 + ((1 : Int32))).toNatClampNeg) (xs (x4 + ((2 : Int32))).toNatClampNeg) z_198.2).bind (fun z_200 => (f_X11_thrown σ x2 z_200.2).bind (fun z_203 => if z_203.1 = z_198.1 then if z_198.1 = 0 then aw_chk (aw_I σ 21 x3 ((0 : Int32))) (if (lg_cmp (z_203.2.2 x3 ((0 : Int32)).toNatClampNeg) z_200.1) = 0 then kb σ z_203.2 else some ((0 : Int32))) else kb σ z_203.2 else some ((0 : Int32))))))))
def f_law_C13 (xs : Nat → Int32) (L : Nat) (kb : Sg → Dt → Option Int32) (x1 x2 x3 : Nat) (x4 : Int32) (σ : Sg) (d : Dt) : Option Int32 :=
  aw_chk (¬ ((x4 + ((1 : Int32))) < 0 ∨ L ≤ (x4 + ((1 : Int32))).toNatClampNeg)) (aw_chk (¬ ((x4 + ((2 : Int32))) < 0 ∨ L ≤ (x4 + ((2 : Int32))).toNatClampNeg)) ((f_L_fit σ x1 (xs (x4 + ((1 : Int32))).toNatClampNeg) (xs (x4 + ((2 : Int32))).toNatClampNeg) x3 d).bind (fun z_208 => aw_chk (aw_O σ 11 32 x2) ((f_X11_fit σ x2 (xs (x4 + ((1 : Int32))).toNatClampNeg) (xs (x4 + ((2 : Int32))).toNatClampNeg) z_208.2).bind (fun z_210 => (f_X11_thrown σ x2 z_210.2).bind (fun z_213 => if z_213.1 = z_208.1 then if z_208.1 = 0 then aw_chk (aw_I σ 21 x3 ((0 : Int32))) (if (lg_cmp (z_213.2.2 x3 ((0 : Int32)).toNatClampNeg) z_210.1.toInt64) = 0 then kb σ z_213.2 else some ((0 : Int32))) else kb σ z_213.2 else some ((0 : Int32))))))))
def f_law_C14 (xs : Nat → Int32) (L : Nat) (kb : Sg → Dt → Option Int32) (x1 x2 x3 : Nat) (x4 : Int32) (σ : Sg) (d : Dt) : Option Int32 :=
  aw_chk (¬ ((x4 + ((1 : Int32))) < 0 ∨ L ≤ (x4 + ((1 : Int32))).toNatClampNeg)) (aw_chk (¬ ((x4 + ((2 : Int32))) < 0 ∨ L ≤ (x4 + ((2 : Int32))).toNatClampNeg)) ((f_L_shape σ x1 (xs (x4 + ((1 : Int32))).toNatClampNeg) (xs (x4 + ((2 : Int32))).toNatClampNeg) x3 d).bind (fun z_218 => aw_chk (aw_O σ 11 32 x2) ((f_X11_shape σ x2 (xs (x4 + ((1 : Int32))).toNatClampNeg) (xs (x4 + ((2 : Int32))).toNatClampNeg) z_218.2).bind (fun z_220 => (f_X11_thrown σ x2 z_220.2).bind (fun z_223 => if z_223.1 = z_218.1 then if z_218.1 = 0 then aw_chk (aw_I σ 21 x3 ((0 : Int32))) (if (lg_cmp (z_223.2.2 x3 ((0 : Int32)).toNatClampNeg) z_220.1.toInt64) = 0 then kb σ z_223.2 else some ((0 : Int32))) else kb σ z_223.2 else some ((0 : Int32))))))))
section LAW0
variable {p : Program} {l : Launch} {e : Env} {s : State} {m : MethodId} {below : List Frame} {meth : Method} {c : Code}
variable {D : va_G} {cA : Nat → ClassId} {ad0 : Nat → Nat} {σ0 : Sg}
set_option maxHeartbeats 4000000 in
set_option maxRecDepth 100000 in
theorem w_law_C0 (hst : l.stackTraces = false) (X : aw_X p c cL_law 8 s RL m meth ret) {b L : Nat} {xs : Nat → Int32} (hX : va_X b L xs s s.heap) (hbl : b < s.heap.size) {kb : Sg → Dt → Option Int32} {x1 x2 x3 : Nat} {x4 : Int32} {σ : Sg} {d : Dt} {ad : Nat → Nat} (hf : f_law_C0 xs L kb x1 x2 x3 x4 σ d = some 1) {cells slots : Nat} (hrc : cells + 4 ≤ 601024) (hrs : slots + 105 ≤ 7293033) (hkb : ∀ (σ : Sg) (d : Dt), kb σ d = some 1 → ∀ (ad : Nat → Nat), aw_ext σ0 ad0 σ ad → ∀ (H : Heap) (locs : List Loc) (ls : Array Slot), lv_has ls 8 [(0, .ref b), (1, .ref (ad x1)), (2, .ref (ad x2)), (3, .ref (ad x3)), (4, .int x4)] → aw_G D cA s.heap.size ad σ d s H locs → W p l e room_1 s m #[Value.ref b] below meth c H locs (cells + 4) (slots + 105) (lw_Z below #[Value.ref b] s) (F0 m 2257 ls [])) (E : aw_ext σ0 ad0 σ ad) {H : Heap} {locs : List Loc} {ls : Array Slot} (hl : lv_has ls 8 [(0, .ref b), (1, .ref (ad x1)), (2, .ref (ad x2)), (3, .ref (ad x3)), (4, .int x4)]) (G : aw_G D cA s.heap.size ad σ d s H locs) : W p l e room_1 s m #[Value.ref b] below meth c H locs cells slots (lw_Z below #[Value.ref b] s) (F0 m 176 ls []) := by
  have hx := X.1; have hb := X.2.1; have hml := X.2.2.1; have hown := X.2.2.2.1
  have hbA : ¬ (fun q => s.heap.size ≤ q) b := Nat.not_le.mpr hbl
  unfold f_law_C0 at hf
  refine lv_aload_n hx hb dL_law_176 rfl (lv_at hl 1 rfl) ?_
  refine lv_aload_n hx hb dL_law_177 rfl (lv_at hl 0 rfl) ?_
  refine lv_iload hx hb dL_law_178 (lv_at hl 4 rfl) ?_
  refine lv_iconst (v := (1 : Int32)) hx hb dL_law_180 (by decide) ?_
  refine lv_iadd hx hb dL_law_181 ?_
  obtain ⟨hc_1, hf⟩ := aw_chk_some hf
  refine va_sld hx hb hX hbl hbA G.2.2.2.2 hc_1 dL_law_182 ?_
  refine lv_aload_n hx hb dL_law_183 rfl (lv_at hl 3 rfl) ?_
  obtain ⟨z_2, hz_3, hf⟩ := aw_bind_some hf
  refine aw_WI (As := [.ref (ad x1), .int (xs (x4 + ((1 : Int32))).toNatClampNeg), .ref (ad x3)]) (rest := []) X G hl.1 cr_L_118 (c_L_syllable l hst hz_3) rfl rfl rfl ⟨Nat.le_of_ble_eq_true rfl, Nat.le_of_ble_eq_true rfl⟩ (Nat.le_of_ble_eq_true rfl) dL_law_184 ⟨by show cells + 1 ≤ 601024; omega, by show slots + 6 ≤ 7293033; omega⟩ (fun H locs G => ?_)
  refine W.widen (k := cells + 4) (n := slots + 105) (by show cells + 1 ≤ cells + 4; omega) (by show slots + 6 ≤ slots + 105; omega) ?_
  refine lv_istore (lv' := [(5, .int z_2.1), (0, .ref b), (1, .ref (ad x1)), (2, .ref (ad x2)), (3, .ref (ad x3)), (4, .int x4)]) hx hb dL_law_187 hl (by decide) rfl (fun ls hl => ?_)
  refine lv_aload_n hx hb dL_law_189 rfl (lv_at hl 3 rfl) ?_
  refine lv_aload_n hx hb dL_law_190 rfl (lv_at hl 1 rfl) ?_
  refine lv_iload hx hb dL_law_191 (lv_at hl 5 rfl) ?_
  refine lv_iconst (v := (1 : Int32)) hx hb dL_law_193 (by decide) ?_
  refine lv_iadd hx hb dL_law_194 ?_
  refine va_sld hx hb hX hbl hbA G.2.2.2.2 hc_1 dL_law_195 ?_
  obtain ⟨hc_6, hf⟩ := aw_chk_some hf
  obtain ⟨z_4, hz_5, hf⟩ := aw_bind_some hf
  refine aw_VI (As := [.int (xs (x4 + ((1 : Int32))).toNatClampNeg)]) (rest := []) X G hl.1 cr_L_123 (c_X11_syllable l hz_5) ⟨rfl, rfl⟩ rfl rfl rfl (by decide) hc_6 rfl ⟨Nat.le_of_ble_eq_true rfl, Nat.le_of_ble_eq_true rfl⟩ (Nat.le_of_ble_eq_true rfl) dL_law_196 ⟨by show cells + 4 ≤ 601024; omega, by show slots + 105 ≤ 7293033; omega⟩ (fun H locs G => ?_)
  refine lv_istore (lv' := [(6, .int z_4.1), (5, .int z_2.1), (0, .ref b), (1, .ref (ad x1)), (2, .ref (ad x2)), (3, .ref (ad x3)), (4, .int x4)]) hx hb dL_law_199 hl (by decide) rfl (fun ls hl => ?_)
  refine lv_aload_n hx hb dL_law_201 rfl (lv_at hl 4 rfl) ?_
  obtain ⟨z_7, hz_8, hf⟩ := aw_bind_some hf
  refine aw_VI (As := []) (rest := []) X G hl.1 cr_L_124 (c_X11_thrown l hz_8) ⟨rfl, rfl⟩ rfl rfl rfl (by decide) hc_6 rfl ⟨Nat.le_of_ble_eq_true rfl, Nat.le_of_ble_eq_true rfl⟩ (Nat.le_of_ble_eq_true rfl) dL_law_202 ⟨by show cells + 4 ≤ 601024; omega, by show slots + 105 ≤ 7293033; omega⟩ (fun H locs G => ?_)
  refine lv_iload hx hb dL_law_205 (lv_at hl 1 rfl) ?_
  refine lv_icmp_eq (tgt := 212) hx hb dL_law_207 (by decide) (fun hc => ?_) (fun hc => ?_)
  · have hf := aw_ite_t hc hf
    refine lv_iload hx hb dL_law_212 (lv_at hl 1 rfl) ?_
    refine lv_if_ne (tgt := 229) hx hb dL_law_214 (by decide) (fun hc => ?_) (fun hc => ?_)
    · have hf := aw_ite_f hc hf
      refine lv_goto (tgt := 2257) hx hb dL_law_229 (by decide) ?_
      refine W.widen (k := cells + 4) (n := slots + 105) (by omega) (by omega) ?_
      exact hkb _ _ hf _ E _ _ _ (lv_sub hl [2, 3, 4, 5, 6] rfl) G
    · have hf := aw_ite_t hc hf
      refine lv_aload_n hx hb dL_law_217 rfl (lv_at hl 5 rfl) ?_
      refine lv_iconst (v := (0 : Int32)) hx hb dL_law_218 (by decide) ?_
      obtain ⟨hc_9, hf⟩ := aw_chk_some hf
      refine aw_lal hx hb G hc_9 dL_law_219 ?_
      refine lv_iload hx hb dL_law_220 (lv_at hl 0 rfl) ?_
      refine lv_i2l hx hb dL_law_222 rfl ?_
      refine W.lcmp hx hb dL_law_223 ?_
      refine lv_if_eq (tgt := 229) hx hb dL_law_224 (by decide) (fun hc => ?_) (fun hc => ?_)
      · have hf := aw_ite_t hc hf
        refine lv_goto (tgt := 2257) hx hb dL_law_229 (by decide) ?_
        refine W.widen (k := cells + 4) (n := slots + 105) (by omega) (by omega) ?_
        exact hkb _ _ hf _ E _ _ _ (lv_sub hl [2, 3, 4, 5, 6] rfl) G
      · have hf := aw_ite_f hc hf
        refine lv_iconst (v := (0 : Int32)) hx hb dL_law_227 (by decide) ?_
        exact absurd (Option.some.inj hf) (by decide)
  · have hf := aw_ite_f hc hf
    refine lv_iconst (v := (0 : Int32)) hx hb dL_law_210 (by decide) ?_
    exact absurd (Option.some.inj hf) (by decide)
set_option maxHeartbeats 4000000 in
set_option maxRecDepth 100000 in
theorem w_law_C1 (hst : l.stackTraces = false) (X : aw_X p c cL_law 8 s RL m meth ret) {b L : Nat} {xs : Nat → Int32} (hX : va_X b L xs s s.heap) (hbl : b < s.heap.size) {kb : Sg → Dt → Option Int32} {x1 x2 x3 : Nat} {x4 : Int32} {σ : Sg} {d : Dt} {ad : Nat → Nat} (hf : f_law_C1 xs L kb x1 x2 x3 x4 σ d = some 1) {cells slots : Nat} (hrc : cells + 4 ≤ 601024) (hrs : slots + 105 ≤ 7293033) (hkb : ∀ (σ : Sg) (d : Dt), kb σ d = some 1 → ∀ (ad : Nat → Nat), aw_ext σ0 ad0 σ ad → ∀ (H : Heap) (locs : List Loc) (ls : Array Slot), lv_has ls 8 [(0, .ref b), (1, .ref (ad x1)), (2, .ref (ad x2)), (3, .ref (ad x3)), (4, .int x4)] → aw_G D cA s.heap.size ad σ d s H locs → W p l e room_1 s m #[Value.ref b] below meth c H locs (cells + 4) (slots + 105) (lw_Z below #[Value.ref b] s) (F0 m 2257 ls [])) (E : aw_ext σ0 ad0 σ ad) {H : Heap} {locs : List Loc} {ls : Array Slot} (hl : lv_has ls 8 [(0, .ref b), (1, .ref (ad x1)), (2, .ref (ad x2)), (3, .ref (ad x3)), (4, .int x4)]) (G : aw_G D cA s.heap.size ad σ d s H locs) : W p l e room_1 s m #[Value.ref b] below meth c H locs cells slots (lw_Z below #[Value.ref b] s) (F0 m 232 ls []) := by
  have hx := X.1; have hb := X.2.1; have hml := X.2.2.1; have hown := X.2.2.2.1
  have hbA : ¬ (fun q => s.heap.size ≤ q) b := Nat.not_le.mpr hbl
  unfold f_law_C1 at hf
  refine lv_aload_n hx hb dL_law_232 rfl (lv_at hl 1 rfl) ?_
  refine lv_aload_n hx hb dL_law_233 rfl (lv_at hl 0 rfl) ?_
  refine lv_iload hx hb dL_law_234 (lv_at hl 4 rfl) ?_
  refine lv_iconst (v := (1 : Int32)) hx hb dL_law_236 (by decide) ?_
  refine lv_iadd hx hb dL_law_237 ?_
  obtain ⟨hc_10, hf⟩ := aw_chk_some hf
  refine va_sld hx hb hX hbl hbA G.2.2.2.2 hc_10 dL_law_238 ?_
  refine lv_aload_n hx hb dL_law_239 rfl (lv_at hl 3 rfl) ?_
  obtain ⟨z_11, hz_12, hf⟩ := aw_bind_some hf
  refine aw_WI (As := [.ref (ad x1), .int (xs (x4 + ((1 : Int32))).toNatClampNeg), .ref (ad x3)]) (rest := []) X G hl.1 cr_L_127 (c_L_word l hst hz_12) rfl rfl rfl ⟨Nat.le_of_ble_eq_true rfl, Nat.le_of_ble_eq_true rfl⟩ (Nat.le_of_ble_eq_true rfl) dL_law_240 ⟨by show cells + 1 ≤ 601024; omega, by show slots + 6 ≤ 7293033; omega⟩ (fun H locs G => ?_)
  refine W.widen (k := cells + 4) (n := slots + 105) (by show cells + 1 ≤ cells + 4; omega) (by show slots + 6 ≤ slots + 105; omega) ?_
  refine lv_istore (lv' := [(5, .int z_11.1), (0, .ref b), (1, .ref (ad x1)), (2, .ref (ad x2)), (3, .ref (ad x3)), (4, .int x4)]) hx hb dL_law_243 hl (by decide) rfl (fun ls hl => ?_)
  refine lv_aload_n hx hb dL_law_245 rfl (lv_at hl 3 rfl) ?_
  refine lv_aload_n hx hb dL_law_246 rfl (lv_at hl 1 rfl) ?_
  refine lv_iload hx hb dL_law_247 (lv_at hl 5 rfl) ?_
  refine lv_iconst (v := (1 : Int32)) hx hb dL_law_249 (by decide) ?_
  refine lv_iadd hx hb dL_law_250 ?_
  refine va_sld hx hb hX hbl hbA G.2.2.2.2 hc_10 dL_law_251 ?_
  obtain ⟨hc_15, hf⟩ := aw_chk_some hf
  obtain ⟨z_13, hz_14, hf⟩ := aw_bind_some hf
  refine aw_VI (As := [.int (xs (x4 + ((1 : Int32))).toNatClampNeg)]) (rest := []) X G hl.1 cr_L_129 (c_X11_word l hz_14) ⟨rfl, rfl⟩ rfl rfl rfl (by decide) hc_15 rfl ⟨Nat.le_of_ble_eq_true rfl, Nat.le_of_ble_eq_true rfl⟩ (Nat.le_of_ble_eq_true rfl) dL_law_252 ⟨by show cells + 4 ≤ 601024; omega, by show slots + 105 ≤ 7293033; omega⟩ (fun H locs G => ?_)
  refine lv_istore (lv' := [(6, .int z_13.1), (5, .int z_11.1), (0, .ref b), (1, .ref (ad x1)), (2, .ref (ad x2)), (3, .ref (ad x3)), (4, .int x4)]) hx hb dL_law_255 hl (by decide) rfl (fun ls hl => ?_)
  refine lv_aload_n hx hb dL_law_257 rfl (lv_at hl 4 rfl) ?_
  obtain ⟨z_16, hz_17, hf⟩ := aw_bind_some hf
  refine aw_VI (As := []) (rest := []) X G hl.1 cr_L_124 (c_X11_thrown l hz_17) ⟨rfl, rfl⟩ rfl rfl rfl (by decide) hc_15 rfl ⟨Nat.le_of_ble_eq_true rfl, Nat.le_of_ble_eq_true rfl⟩ (Nat.le_of_ble_eq_true rfl) dL_law_258 ⟨by show cells + 4 ≤ 601024; omega, by show slots + 105 ≤ 7293033; omega⟩ (fun H locs G => ?_)
  refine lv_iload hx hb dL_law_261 (lv_at hl 1 rfl) ?_
  refine lv_icmp_eq (tgt := 268) hx hb dL_law_263 (by decide) (fun hc => ?_) (fun hc => ?_)
  · have hf := aw_ite_t hc hf
    refine lv_iload hx hb dL_law_268 (lv_at hl 1 rfl) ?_
    refine lv_if_ne (tgt := 285) hx hb dL_law_270 (by decide) (fun hc => ?_) (fun hc => ?_)
    · have hf := aw_ite_f hc hf
      refine lv_goto (tgt := 2257) hx hb dL_law_285 (by decide) ?_
      refine W.widen (k := cells + 4) (n := slots + 105) (by omega) (by omega) ?_
      exact hkb _ _ hf _ E _ _ _ (lv_sub hl [2, 3, 4, 5, 6] rfl) G
    · have hf := aw_ite_t hc hf
      refine lv_aload_n hx hb dL_law_273 rfl (lv_at hl 5 rfl) ?_
      refine lv_iconst (v := (0 : Int32)) hx hb dL_law_274 (by decide) ?_
      obtain ⟨hc_18, hf⟩ := aw_chk_some hf
      refine aw_lal hx hb G hc_18 dL_law_275 ?_
      refine lv_iload hx hb dL_law_276 (lv_at hl 0 rfl) ?_
      refine lv_i2l hx hb dL_law_278 rfl ?_
      refine W.lcmp hx hb dL_law_279 ?_
      refine lv_if_eq (tgt := 285) hx hb dL_law_280 (by decide) (fun hc => ?_) (fun hc => ?_)
      · have hf := aw_ite_t hc hf
        refine lv_goto (tgt := 2257) hx hb dL_law_285 (by decide) ?_
        refine W.widen (k := cells + 4) (n := slots + 105) (by omega) (by omega) ?_
        exact hkb _ _ hf _ E _ _ _ (lv_sub hl [2, 3, 4, 5, 6] rfl) G
      · have hf := aw_ite_f hc hf
        refine lv_iconst (v := (0 : Int32)) hx hb dL_law_283 (by decide) ?_
        exact absurd (Option.some.inj hf) (by decide)
  · have hf := aw_ite_f hc hf
    refine lv_iconst (v := (0 : Int32)) hx hb dL_law_266 (by decide) ?_
    exact absurd (Option.some.inj hf) (by decide)
set_option maxHeartbeats 4000000 in
set_option maxRecDepth 100000 in
theorem w_law_C2 (hst : l.stackTraces = false) (X : aw_X p c cL_law 8 s RL m meth ret) {b L : Nat} {xs : Nat → Int32} (hX : va_X b L xs s s.heap) (hbl : b < s.heap.size) {kb : Sg → Dt → Option Int32} {x1 x2 x3 : Nat} {x4 : Int32} {σ : Sg} {d : Dt} {ad : Nat → Nat} (hf : f_law_C2 xs L kb x1 x2 x3 x4 σ d = some 1) {cells slots : Nat} (hrc : cells + 4 ≤ 601024) (hrs : slots + 105 ≤ 7293033) (hkb : ∀ (σ : Sg) (d : Dt), kb σ d = some 1 → ∀ (ad : Nat → Nat), aw_ext σ0 ad0 σ ad → ∀ (H : Heap) (locs : List Loc) (ls : Array Slot), lv_has ls 8 [(0, .ref b), (1, .ref (ad x1)), (2, .ref (ad x2)), (3, .ref (ad x3)), (4, .int x4)] → aw_G D cA s.heap.size ad σ d s H locs → W p l e room_1 s m #[Value.ref b] below meth c H locs (cells + 4) (slots + 105) (lw_Z below #[Value.ref b] s) (F0 m 2257 ls [])) (E : aw_ext σ0 ad0 σ ad) {H : Heap} {locs : List Loc} {ls : Array Slot} (hl : lv_has ls 8 [(0, .ref b), (1, .ref (ad x1)), (2, .ref (ad x2)), (3, .ref (ad x3)), (4, .int x4)]) (G : aw_G D cA s.heap.size ad σ d s H locs) : W p l e room_1 s m #[Value.ref b] below meth c H locs cells slots (lw_Z below #[Value.ref b] s) (F0 m 288 ls []) := by
  have hx := X.1; have hb := X.2.1; have hml := X.2.2.1; have hown := X.2.2.2.1
  have hbA : ¬ (fun q => s.heap.size ≤ q) b := Nat.not_le.mpr hbl
  unfold f_law_C2 at hf
  refine lv_aload_n hx hb dL_law_288 rfl (lv_at hl 1 rfl) ?_
  refine lv_aload_n hx hb dL_law_289 rfl (lv_at hl 0 rfl) ?_
  refine lv_iload hx hb dL_law_290 (lv_at hl 4 rfl) ?_
  refine lv_iconst (v := (1 : Int32)) hx hb dL_law_292 (by decide) ?_
  refine lv_iadd hx hb dL_law_293 ?_
  obtain ⟨hc_19, hf⟩ := aw_chk_some hf
  refine va_sld hx hb hX hbl hbA G.2.2.2.2 hc_19 dL_law_294 ?_
  refine lv_aload_n hx hb dL_law_295 rfl (lv_at hl 0 rfl) ?_
  refine lv_iload hx hb dL_law_296 (lv_at hl 4 rfl) ?_
  refine lv_iconst (v := (2 : Int32)) hx hb dL_law_298 (by decide) ?_
  refine lv_iadd hx hb dL_law_299 ?_
  obtain ⟨hc_20, hf⟩ := aw_chk_some hf
  refine va_sld hx hb hX hbl hbA G.2.2.2.2 hc_20 dL_law_300 ?_
  refine lv_aload_n hx hb dL_law_301 rfl (lv_at hl 0 rfl) ?_
  refine lv_iload hx hb dL_law_302 (lv_at hl 4 rfl) ?_
  refine lv_iconst (v := (3 : Int32)) hx hb dL_law_304 (by decide) ?_
  refine lv_iadd hx hb dL_law_305 ?_
  obtain ⟨hc_21, hf⟩ := aw_chk_some hf
  refine va_sld hx hb hX hbl hbA G.2.2.2.2 hc_21 dL_law_306 ?_
  refine lv_aload_n hx hb dL_law_307 rfl (lv_at hl 0 rfl) ?_
  refine lv_iload hx hb dL_law_308 (lv_at hl 4 rfl) ?_
  refine lv_iconst (v := (4 : Int32)) hx hb dL_law_310 (by decide) ?_
  refine lv_iadd hx hb dL_law_311 ?_
  obtain ⟨hc_22, hf⟩ := aw_chk_some hf
  refine va_sld hx hb hX hbl hbA G.2.2.2.2 hc_22 dL_law_312 ?_
  refine lv_aload_n hx hb dL_law_313 rfl (lv_at hl 0 rfl) ?_
  refine lv_iload hx hb dL_law_314 (lv_at hl 4 rfl) ?_
  refine lv_iconst (v := (5 : Int32)) hx hb dL_law_316 (by decide) ?_
  refine lv_iadd hx hb dL_law_317 ?_
  obtain ⟨hc_23, hf⟩ := aw_chk_some hf
  refine va_sld hx hb hX hbl hbA G.2.2.2.2 hc_23 dL_law_318 ?_
  refine lv_if_eq (tgt := 326) hx hb dL_law_319 (by decide) (fun hc => ?_) (fun hc => ?_)
  · have hf := aw_ite_t hc hf
    refine lv_iconst (v := (0 : Int32)) hx hb dL_law_326 (by decide) ?_
    refine lv_aload_n hx hb dL_law_327 rfl (lv_at hl 3 rfl) ?_
    obtain ⟨z_24, hz_25, hf⟩ := aw_bind_some hf
    refine aw_WI (As := [.ref (ad x1), .int (xs (x4 + ((1 : Int32))).toNatClampNeg), .int (xs (x4 + ((2 : Int32))).toNatClampNeg), .int (xs (x4 + ((3 : Int32))).toNatClampNeg), .int (xs (x4 + ((4 : Int32))).toNatClampNeg), .int ((0 : Int32)), .ref (ad x3)]) (rest := []) X G hl.1 cr_L_130 (c_L_change l hst hz_25) rfl rfl rfl ⟨Nat.le_of_ble_eq_true rfl, Nat.le_of_ble_eq_true rfl⟩ (Nat.le_of_ble_eq_true rfl) dL_law_328 ⟨by show cells + 2 ≤ 601024; omega, by show slots + 12 ≤ 7293033; omega⟩ (fun H locs G => ?_)
    refine W.widen (k := cells + 4) (n := slots + 105) (by show cells + 2 ≤ cells + 4; omega) (by show slots + 12 ≤ slots + 105; omega) ?_
    refine lv_istore (lv' := [(5, .int z_24.1), (0, .ref b), (1, .ref (ad x1)), (2, .ref (ad x2)), (3, .ref (ad x3)), (4, .int x4)]) hx hb dL_law_331 hl (by decide) rfl (fun ls hl => ?_)
    refine lv_aload_n hx hb dL_law_333 rfl (lv_at hl 3 rfl) ?_
    refine lv_aload_n hx hb dL_law_334 rfl (lv_at hl 1 rfl) ?_
    refine lv_iload hx hb dL_law_335 (lv_at hl 5 rfl) ?_
    refine lv_iconst (v := (1 : Int32)) hx hb dL_law_337 (by decide) ?_
    refine lv_iadd hx hb dL_law_338 ?_
    refine va_sld hx hb hX hbl hbA G.2.2.2.2 hc_19 dL_law_339 ?_
    refine lv_aload_n hx hb dL_law_340 rfl (lv_at hl 1 rfl) ?_
    refine lv_iload hx hb dL_law_341 (lv_at hl 5 rfl) ?_
    refine lv_iconst (v := (2 : Int32)) hx hb dL_law_343 (by decide) ?_
    refine lv_iadd hx hb dL_law_344 ?_
    refine va_sld hx hb hX hbl hbA G.2.2.2.2 hc_20 dL_law_345 ?_
    refine lv_aload_n hx hb dL_law_346 rfl (lv_at hl 1 rfl) ?_
    refine lv_iload hx hb dL_law_347 (lv_at hl 5 rfl) ?_
    refine lv_iconst (v := (3 : Int32)) hx hb dL_law_349 (by decide) ?_
    refine lv_iadd hx hb dL_law_350 ?_
    refine va_sld hx hb hX hbl hbA G.2.2.2.2 hc_21 dL_law_351 ?_
    refine lv_aload_n hx hb dL_law_352 rfl (lv_at hl 1 rfl) ?_
    refine lv_iload hx hb dL_law_353 (lv_at hl 5 rfl) ?_
    refine lv_iconst (v := (4 : Int32)) hx hb dL_law_355 (by decide) ?_
    refine lv_iadd hx hb dL_law_356 ?_
    refine va_sld hx hb hX hbl hbA G.2.2.2.2 hc_22 dL_law_357 ?_
    refine lv_aload_n hx hb dL_law_358 rfl (lv_at hl 1 rfl) ?_
    refine lv_iload hx hb dL_law_359 (lv_at hl 5 rfl) ?_
    refine lv_iconst (v := (5 : Int32)) hx hb dL_law_361 (by decide) ?_
    refine lv_iadd hx hb dL_law_362 ?_
    refine va_sld hx hb hX hbl hbA G.2.2.2.2 hc_23 dL_law_363 ?_
    refine lv_if_eq (tgt := 371) hx hb dL_law_364 (by decide) (fun hc => ?_) (fun hc => ?_)
    · have hf := aw_ite_t hc hf
      refine lv_iconst (v := (0 : Int32)) hx hb dL_law_371 (by decide) ?_
      obtain ⟨hc_28, hf⟩ := aw_chk_some hf
      obtain ⟨z_26, hz_27, hf⟩ := aw_bind_some hf
      refine aw_VI (As := [.int (xs (x4 + ((1 : Int32))).toNatClampNeg), .int (xs (x4 + ((2 : Int32))).toNatClampNeg), .int (xs (x4 + ((3 : Int32))).toNatClampNeg), .int (xs (x4 + ((4 : Int32))).toNatClampNeg), .int ((0 : Int32))]) (rest := []) X G hl.1 cr_L_133 (c_X11_change l hz_27) ⟨rfl, rfl⟩ rfl rfl rfl (by decide) hc_28 rfl ⟨Nat.le_of_ble_eq_true rfl, Nat.le_of_ble_eq_true rfl⟩ (Nat.le_of_ble_eq_true rfl) dL_law_372 ⟨by show cells + 4 ≤ 601024; omega, by show slots + 105 ≤ 7293033; omega⟩ (fun H locs G => ?_)
      refine lv_istore (lv' := [(6, .int z_26.1), (5, .int z_24.1), (0, .ref b), (1, .ref (ad x1)), (2, .ref (ad x2)), (3, .ref (ad x3)), (4, .int x4)]) hx hb dL_law_375 hl (by decide) rfl (fun ls hl => ?_)
      refine lv_aload_n hx hb dL_law_377 rfl (lv_at hl 4 rfl) ?_
      obtain ⟨z_29, hz_30, hf⟩ := aw_bind_some hf
      refine aw_VI (As := []) (rest := []) X G hl.1 cr_L_124 (c_X11_thrown l hz_30) ⟨rfl, rfl⟩ rfl rfl rfl (by decide) hc_28 rfl ⟨Nat.le_of_ble_eq_true rfl, Nat.le_of_ble_eq_true rfl⟩ (Nat.le_of_ble_eq_true rfl) dL_law_378 ⟨by show cells + 4 ≤ 601024; omega, by show slots + 105 ≤ 7293033; omega⟩ (fun H locs G => ?_)
      refine lv_iload hx hb dL_law_381 (lv_at hl 1 rfl) ?_
      refine lv_icmp_eq (tgt := 388) hx hb dL_law_383 (by decide) (fun hc => ?_) (fun hc => ?_)
      · have hf := aw_ite_t hc hf
        refine lv_iload hx hb dL_law_388 (lv_at hl 1 rfl) ?_
        refine lv_if_ne (tgt := 405) hx hb dL_law_390 (by decide) (fun hc => ?_) (fun hc => ?_)
        · have hf := aw_ite_f hc hf
          refine lv_goto (tgt := 2257) hx hb dL_law_405 (by decide) ?_
          refine W.widen (k := cells + 4) (n := slots + 105) (by omega) (by omega) ?_
          exact hkb _ _ hf _ E _ _ _ (lv_sub hl [2, 3, 4, 5, 6] rfl) G
        · have hf := aw_ite_t hc hf
          refine lv_aload_n hx hb dL_law_393 rfl (lv_at hl 5 rfl) ?_
          refine lv_iconst (v := (0 : Int32)) hx hb dL_law_394 (by decide) ?_
          obtain ⟨hc_31, hf⟩ := aw_chk_some hf
          refine aw_lal hx hb G hc_31 dL_law_395 ?_
          refine lv_iload hx hb dL_law_396 (lv_at hl 0 rfl) ?_
          refine lv_i2l hx hb dL_law_398 rfl ?_
          refine W.lcmp hx hb dL_law_399 ?_
          refine lv_if_eq (tgt := 405) hx hb dL_law_400 (by decide) (fun hc => ?_) (fun hc => ?_)
          · have hf := aw_ite_t hc hf
            refine lv_goto (tgt := 2257) hx hb dL_law_405 (by decide) ?_
            refine W.widen (k := cells + 4) (n := slots + 105) (by omega) (by omega) ?_
            exact hkb _ _ hf _ E _ _ _ (lv_sub hl [2, 3, 4, 5, 6] rfl) G
          · have hf := aw_ite_f hc hf
            refine lv_iconst (v := (0 : Int32)) hx hb dL_law_403 (by decide) ?_
            exact absurd (Option.some.inj hf) (by decide)
      · have hf := aw_ite_f hc hf
        refine lv_iconst (v := (0 : Int32)) hx hb dL_law_386 (by decide) ?_
        exact absurd (Option.some.inj hf) (by decide)
    · have hf := aw_ite_f hc hf
      refine lv_iconst (v := (1 : Int32)) hx hb dL_law_367 (by decide) ?_
      refine lv_goto (tgt := 372) hx hb dL_law_368 (by decide) ?_
      obtain ⟨hc_34, hf⟩ := aw_chk_some hf
      obtain ⟨z_32, hz_33, hf⟩ := aw_bind_some hf
      refine aw_VI (As := [.int (xs (x4 + ((1 : Int32))).toNatClampNeg), .int (xs (x4 + ((2 : Int32))).toNatClampNeg), .int (xs (x4 + ((3 : Int32))).toNatClampNeg), .int (xs (x4 + ((4 : Int32))).toNatClampNeg), .int ((1 : Int32))]) (rest := []) X G hl.1 cr_L_133 (c_X11_change l hz_33) ⟨rfl, rfl⟩ rfl rfl rfl (by decide) hc_34 rfl ⟨Nat.le_of_ble_eq_true rfl, Nat.le_of_ble_eq_true rfl⟩ (Nat.le_of_ble_eq_true rfl) dL_law_372 ⟨by show cells + 4 ≤ 601024; omega, by show slots + 105 ≤ 7293033; omega⟩ (fun H locs G => ?_)
      refine lv_istore (lv' := [(6, .int z_32.1), (5, .int z_24.1), (0, .ref b), (1, .ref (ad x1)), (2, .ref (ad x2)), (3, .ref (ad x3)), (4, .int x4)]) hx hb dL_law_375 hl (by decide) rfl (fun ls hl => ?_)
      refine lv_aload_n hx hb dL_law_377 rfl (lv_at hl 4 rfl) ?_
      obtain ⟨z_35, hz_36, hf⟩ := aw_bind_some hf
      refine aw_VI (As := []) (rest := []) X G hl.1 cr_L_124 (c_X11_thrown l hz_36) ⟨rfl, rfl⟩ rfl rfl rfl (by decide) hc_34 rfl ⟨Nat.le_of_ble_eq_true rfl, Nat.le_of_ble_eq_true rfl⟩ (Nat.le_of_ble_eq_true rfl) dL_law_378 ⟨by show cells + 4 ≤ 601024; omega, by show slots + 105 ≤ 7293033; omega⟩ (fun H locs G => ?_)
      refine lv_iload hx hb dL_law_381 (lv_at hl 1 rfl) ?_
      refine lv_icmp_eq (tgt := 388) hx hb dL_law_383 (by decide) (fun hc => ?_) (fun hc => ?_)
      · have hf := aw_ite_t hc hf
        refine lv_iload hx hb dL_law_388 (lv_at hl 1 rfl) ?_
        refine lv_if_ne (tgt := 405) hx hb dL_law_390 (by decide) (fun hc => ?_) (fun hc => ?_)
        · have hf := aw_ite_f hc hf
          refine lv_goto (tgt := 2257) hx hb dL_law_405 (by decide) ?_
          refine W.widen (k := cells + 4) (n := slots + 105) (by omega) (by omega) ?_
          exact hkb _ _ hf _ E _ _ _ (lv_sub hl [2, 3, 4, 5, 6] rfl) G
        · have hf := aw_ite_t hc hf
          refine lv_aload_n hx hb dL_law_393 rfl (lv_at hl 5 rfl) ?_
          refine lv_iconst (v := (0 : Int32)) hx hb dL_law_394 (by decide) ?_
          obtain ⟨hc_37, hf⟩ := aw_chk_some hf
          refine aw_lal hx hb G hc_37 dL_law_395 ?_
          refine lv_iload hx hb dL_law_396 (lv_at hl 0 rfl) ?_
          refine lv_i2l hx hb dL_law_398 rfl ?_
          refine W.lcmp hx hb dL_law_399 ?_
          refine lv_if_eq (tgt := 405) hx hb dL_law_400 (by decide) (fun hc => ?_) (fun hc => ?_)
          · have hf := aw_ite_t hc hf
            refine lv_goto (tgt := 2257) hx hb dL_law_405 (by decide) ?_
            refine W.widen (k := cells + 4) (n := slots + 105) (by omega) (by omega) ?_
            exact hkb _ _ hf _ E _ _ _ (lv_sub hl [2, 3, 4, 5, 6] rfl) G
          · have hf := aw_ite_f hc hf
            refine lv_iconst (v := (0 : Int32)) hx hb dL_law_403 (by decide) ?_
            exact absurd (Option.some.inj hf) (by decide)
      · have hf := aw_ite_f hc hf
        refine lv_iconst (v := (0 : Int32)) hx hb dL_law_386 (by decide) ?_
        exact absurd (Option.some.inj hf) (by decide)
  · have hf := aw_ite_f hc hf
    refine lv_iconst (v := (1 : Int32)) hx hb dL_law_322 (by decide) ?_
    refine lv_goto (tgt := 327) hx hb dL_law_323 (by decide) ?_
    refine lv_aload_n hx hb dL_law_327 rfl (lv_at hl 3 rfl) ?_
    obtain ⟨z_38, hz_39, hf⟩ := aw_bind_some hf
    refine aw_WI (As := [.ref (ad x1), .int (xs (x4 + ((1 : Int32))).toNatClampNeg), .int (xs (x4 + ((2 : Int32))).toNatClampNeg), .int (xs (x4 + ((3 : Int32))).toNatClampNeg), .int (xs (x4 + ((4 : Int32))).toNatClampNeg), .int ((1 : Int32)), .ref (ad x3)]) (rest := []) X G hl.1 cr_L_130 (c_L_change l hst hz_39) rfl rfl rfl ⟨Nat.le_of_ble_eq_true rfl, Nat.le_of_ble_eq_true rfl⟩ (Nat.le_of_ble_eq_true rfl) dL_law_328 ⟨by show cells + 2 ≤ 601024; omega, by show slots + 12 ≤ 7293033; omega⟩ (fun H locs G => ?_)
    refine W.widen (k := cells + 4) (n := slots + 105) (by show cells + 2 ≤ cells + 4; omega) (by show slots + 12 ≤ slots + 105; omega) ?_
    refine lv_istore (lv' := [(5, .int z_38.1), (0, .ref b), (1, .ref (ad x1)), (2, .ref (ad x2)), (3, .ref (ad x3)), (4, .int x4)]) hx hb dL_law_331 hl (by decide) rfl (fun ls hl => ?_)
    refine lv_aload_n hx hb dL_law_333 rfl (lv_at hl 3 rfl) ?_
    refine lv_aload_n hx hb dL_law_334 rfl (lv_at hl 1 rfl) ?_
    refine lv_iload hx hb dL_law_335 (lv_at hl 5 rfl) ?_
    refine lv_iconst (v := (1 : Int32)) hx hb dL_law_337 (by decide) ?_
    refine lv_iadd hx hb dL_law_338 ?_
    refine va_sld hx hb hX hbl hbA G.2.2.2.2 hc_19 dL_law_339 ?_
    refine lv_aload_n hx hb dL_law_340 rfl (lv_at hl 1 rfl) ?_
    refine lv_iload hx hb dL_law_341 (lv_at hl 5 rfl) ?_
    refine lv_iconst (v := (2 : Int32)) hx hb dL_law_343 (by decide) ?_
    refine lv_iadd hx hb dL_law_344 ?_
    refine va_sld hx hb hX hbl hbA G.2.2.2.2 hc_20 dL_law_345 ?_
    refine lv_aload_n hx hb dL_law_346 rfl (lv_at hl 1 rfl) ?_
    refine lv_iload hx hb dL_law_347 (lv_at hl 5 rfl) ?_
    refine lv_iconst (v := (3 : Int32)) hx hb dL_law_349 (by decide) ?_
    refine lv_iadd hx hb dL_law_350 ?_
    refine va_sld hx hb hX hbl hbA G.2.2.2.2 hc_21 dL_law_351 ?_
    refine lv_aload_n hx hb dL_law_352 rfl (lv_at hl 1 rfl) ?_
    refine lv_iload hx hb dL_law_353 (lv_at hl 5 rfl) ?_
    refine lv_iconst (v := (4 : Int32)) hx hb dL_law_355 (by decide) ?_
    refine lv_iadd hx hb dL_law_356 ?_
    refine va_sld hx hb hX hbl hbA G.2.2.2.2 hc_22 dL_law_357 ?_
    refine lv_aload_n hx hb dL_law_358 rfl (lv_at hl 1 rfl) ?_
    refine lv_iload hx hb dL_law_359 (lv_at hl 5 rfl) ?_
    refine lv_iconst (v := (5 : Int32)) hx hb dL_law_361 (by decide) ?_
    refine lv_iadd hx hb dL_law_362 ?_
    refine va_sld hx hb hX hbl hbA G.2.2.2.2 hc_23 dL_law_363 ?_
    refine lv_if_eq (tgt := 371) hx hb dL_law_364 (by decide) (fun hc => ?_) (fun hc => ?_)
    · have hf := aw_ite_t hc hf
      refine lv_iconst (v := (0 : Int32)) hx hb dL_law_371 (by decide) ?_
      obtain ⟨hc_42, hf⟩ := aw_chk_some hf
      obtain ⟨z_40, hz_41, hf⟩ := aw_bind_some hf
      refine aw_VI (As := [.int (xs (x4 + ((1 : Int32))).toNatClampNeg), .int (xs (x4 + ((2 : Int32))).toNatClampNeg), .int (xs (x4 + ((3 : Int32))).toNatClampNeg), .int (xs (x4 + ((4 : Int32))).toNatClampNeg), .int ((0 : Int32))]) (rest := []) X G hl.1 cr_L_133 (c_X11_change l hz_41) ⟨rfl, rfl⟩ rfl rfl rfl (by decide) hc_42 rfl ⟨Nat.le_of_ble_eq_true rfl, Nat.le_of_ble_eq_true rfl⟩ (Nat.le_of_ble_eq_true rfl) dL_law_372 ⟨by show cells + 4 ≤ 601024; omega, by show slots + 105 ≤ 7293033; omega⟩ (fun H locs G => ?_)
      refine lv_istore (lv' := [(6, .int z_40.1), (5, .int z_38.1), (0, .ref b), (1, .ref (ad x1)), (2, .ref (ad x2)), (3, .ref (ad x3)), (4, .int x4)]) hx hb dL_law_375 hl (by decide) rfl (fun ls hl => ?_)
      refine lv_aload_n hx hb dL_law_377 rfl (lv_at hl 4 rfl) ?_
      obtain ⟨z_43, hz_44, hf⟩ := aw_bind_some hf
      refine aw_VI (As := []) (rest := []) X G hl.1 cr_L_124 (c_X11_thrown l hz_44) ⟨rfl, rfl⟩ rfl rfl rfl (by decide) hc_42 rfl ⟨Nat.le_of_ble_eq_true rfl, Nat.le_of_ble_eq_true rfl⟩ (Nat.le_of_ble_eq_true rfl) dL_law_378 ⟨by show cells + 4 ≤ 601024; omega, by show slots + 105 ≤ 7293033; omega⟩ (fun H locs G => ?_)
      refine lv_iload hx hb dL_law_381 (lv_at hl 1 rfl) ?_
      refine lv_icmp_eq (tgt := 388) hx hb dL_law_383 (by decide) (fun hc => ?_) (fun hc => ?_)
      · have hf := aw_ite_t hc hf
        refine lv_iload hx hb dL_law_388 (lv_at hl 1 rfl) ?_
        refine lv_if_ne (tgt := 405) hx hb dL_law_390 (by decide) (fun hc => ?_) (fun hc => ?_)
        · have hf := aw_ite_f hc hf
          refine lv_goto (tgt := 2257) hx hb dL_law_405 (by decide) ?_
          refine W.widen (k := cells + 4) (n := slots + 105) (by omega) (by omega) ?_
          exact hkb _ _ hf _ E _ _ _ (lv_sub hl [2, 3, 4, 5, 6] rfl) G
        · have hf := aw_ite_t hc hf
          refine lv_aload_n hx hb dL_law_393 rfl (lv_at hl 5 rfl) ?_
          refine lv_iconst (v := (0 : Int32)) hx hb dL_law_394 (by decide) ?_
          obtain ⟨hc_45, hf⟩ := aw_chk_some hf
          refine aw_lal hx hb G hc_45 dL_law_395 ?_
          refine lv_iload hx hb dL_law_396 (lv_at hl 0 rfl) ?_
          refine lv_i2l hx hb dL_law_398 rfl ?_
          refine W.lcmp hx hb dL_law_399 ?_
          refine lv_if_eq (tgt := 405) hx hb dL_law_400 (by decide) (fun hc => ?_) (fun hc => ?_)
          · have hf := aw_ite_t hc hf
            refine lv_goto (tgt := 2257) hx hb dL_law_405 (by decide) ?_
            refine W.widen (k := cells + 4) (n := slots + 105) (by omega) (by omega) ?_
            exact hkb _ _ hf _ E _ _ _ (lv_sub hl [2, 3, 4, 5, 6] rfl) G
          · have hf := aw_ite_f hc hf
            refine lv_iconst (v := (0 : Int32)) hx hb dL_law_403 (by decide) ?_
            exact absurd (Option.some.inj hf) (by decide)
      · have hf := aw_ite_f hc hf
        refine lv_iconst (v := (0 : Int32)) hx hb dL_law_386 (by decide) ?_
        exact absurd (Option.some.inj hf) (by decide)
    · have hf := aw_ite_f hc hf
      refine lv_iconst (v := (1 : Int32)) hx hb dL_law_367 (by decide) ?_
      refine lv_goto (tgt := 372) hx hb dL_law_368 (by decide) ?_
      obtain ⟨hc_48, hf⟩ := aw_chk_some hf
      obtain ⟨z_46, hz_47, hf⟩ := aw_bind_some hf
      refine aw_VI (As := [.int (xs (x4 + ((1 : Int32))).toNatClampNeg), .int (xs (x4 + ((2 : Int32))).toNatClampNeg), .int (xs (x4 + ((3 : Int32))).toNatClampNeg), .int (xs (x4 + ((4 : Int32))).toNatClampNeg), .int ((1 : Int32))]) (rest := []) X G hl.1 cr_L_133 (c_X11_change l hz_47) ⟨rfl, rfl⟩ rfl rfl rfl (by decide) hc_48 rfl ⟨Nat.le_of_ble_eq_true rfl, Nat.le_of_ble_eq_true rfl⟩ (Nat.le_of_ble_eq_true rfl) dL_law_372 ⟨by show cells + 4 ≤ 601024; omega, by show slots + 105 ≤ 7293033; omega⟩ (fun H locs G => ?_)
      refine lv_istore (lv' := [(6, .int z_46.1), (5, .int z_38.1), (0, .ref b), (1, .ref (ad x1)), (2, .ref (ad x2)), (3, .ref (ad x3)), (4, .int x4)]) hx hb dL_law_375 hl (by decide) rfl (fun ls hl => ?_)
      refine lv_aload_n hx hb dL_law_377 rfl (lv_at hl 4 rfl) ?_
      obtain ⟨z_49, hz_50, hf⟩ := aw_bind_some hf
      refine aw_VI (As := []) (rest := []) X G hl.1 cr_L_124 (c_X11_thrown l hz_50) ⟨rfl, rfl⟩ rfl rfl rfl (by decide) hc_48 rfl ⟨Nat.le_of_ble_eq_true rfl, Nat.le_of_ble_eq_true rfl⟩ (Nat.le_of_ble_eq_true rfl) dL_law_378 ⟨by show cells + 4 ≤ 601024; omega, by show slots + 105 ≤ 7293033; omega⟩ (fun H locs G => ?_)
      refine lv_iload hx hb dL_law_381 (lv_at hl 1 rfl) ?_
      refine lv_icmp_eq (tgt := 388) hx hb dL_law_383 (by decide) (fun hc => ?_) (fun hc => ?_)
      · have hf := aw_ite_t hc hf
        refine lv_iload hx hb dL_law_388 (lv_at hl 1 rfl) ?_
        refine lv_if_ne (tgt := 405) hx hb dL_law_390 (by decide) (fun hc => ?_) (fun hc => ?_)
        · have hf := aw_ite_f hc hf
          refine lv_goto (tgt := 2257) hx hb dL_law_405 (by decide) ?_
          refine W.widen (k := cells + 4) (n := slots + 105) (by omega) (by omega) ?_
          exact hkb _ _ hf _ E _ _ _ (lv_sub hl [2, 3, 4, 5, 6] rfl) G
        · have hf := aw_ite_t hc hf
          refine lv_aload_n hx hb dL_law_393 rfl (lv_at hl 5 rfl) ?_
          refine lv_iconst (v := (0 : Int32)) hx hb dL_law_394 (by decide) ?_
          obtain ⟨hc_51, hf⟩ := aw_chk_some hf
          refine aw_lal hx hb G hc_51 dL_law_395 ?_
          refine lv_iload hx hb dL_law_396 (lv_at hl 0 rfl) ?_
          refine lv_i2l hx hb dL_law_398 rfl ?_
          refine W.lcmp hx hb dL_law_399 ?_
          refine lv_if_eq (tgt := 405) hx hb dL_law_400 (by decide) (fun hc => ?_) (fun hc => ?_)
          · have hf := aw_ite_t hc hf
            refine lv_goto (tgt := 2257) hx hb dL_law_405 (by decide) ?_
            refine W.widen (k := cells + 4) (n := slots + 105) (by omega) (by omega) ?_
            exact hkb _ _ hf _ E _ _ _ (lv_sub hl [2, 3, 4, 5, 6] rfl) G
          · have hf := aw_ite_f hc hf
            refine lv_iconst (v := (0 : Int32)) hx hb dL_law_403 (by decide) ?_
            exact absurd (Option.some.inj hf) (by decide)
      · have hf := aw_ite_f hc hf
        refine lv_iconst (v := (0 : Int32)) hx hb dL_law_386 (by decide) ?_
        exact absurd (Option.some.inj hf) (by decide)
set_option maxHeartbeats 4000000 in
set_option maxRecDepth 100000 in
theorem w_law_C3 (hst : l.stackTraces = false) (X : aw_X p c cL_law 8 s RL m meth ret) {b L : Nat} {xs : Nat → Int32} (hX : va_X b L xs s s.heap) (hbl : b < s.heap.size) {kb : Sg → Dt → Option Int32} {x1 x2 x3 : Nat} {x4 : Int32} {σ : Sg} {d : Dt} {ad : Nat → Nat} (hf : f_law_C3 xs L kb x1 x2 x3 x4 σ d = some 1) {cells slots : Nat} (hrc : cells + 4 ≤ 601024) (hrs : slots + 105 ≤ 7293033) (hkb : ∀ (σ : Sg) (d : Dt), kb σ d = some 1 → ∀ (ad : Nat → Nat), aw_ext σ0 ad0 σ ad → ∀ (H : Heap) (locs : List Loc) (ls : Array Slot), lv_has ls 8 [(0, .ref b), (1, .ref (ad x1)), (2, .ref (ad x2)), (3, .ref (ad x3)), (4, .int x4)] → aw_G D cA s.heap.size ad σ d s H locs → W p l e room_1 s m #[Value.ref b] below meth c H locs (cells + 4) (slots + 105) (lw_Z below #[Value.ref b] s) (F0 m 2257 ls [])) (E : aw_ext σ0 ad0 σ ad) {H : Heap} {locs : List Loc} {ls : Array Slot} (hl : lv_has ls 8 [(0, .ref b), (1, .ref (ad x1)), (2, .ref (ad x2)), (3, .ref (ad x3)), (4, .int x4)]) (G : aw_G D cA s.heap.size ad σ d s H locs) : W p l e room_1 s m #[Value.ref b] below meth c H locs cells slots (lw_Z below #[Value.ref b] s) (F0 m 408 ls []) := by
  have hx := X.1; have hb := X.2.1; have hml := X.2.2.1; have hown := X.2.2.2.1
  have hbA : ¬ (fun q => s.heap.size ≤ q) b := Nat.not_le.mpr hbl
  unfold f_law_C3 at hf
  refine lv_aload_n hx hb dL_law_408 rfl (lv_at hl 1 rfl) ?_
  refine lv_aload_n hx hb dL_law_409 rfl (lv_at hl 0 rfl) ?_
  refine lv_iload hx hb dL_law_410 (lv_at hl 4 rfl) ?_
  refine lv_iconst (v := (1 : Int32)) hx hb dL_law_412 (by decide) ?_
  refine lv_iadd hx hb dL_law_413 ?_
  obtain ⟨hc_52, hf⟩ := aw_chk_some hf
  refine va_sld hx hb hX hbl hbA G.2.2.2.2 hc_52 dL_law_414 ?_
  refine lv_aload_n hx hb dL_law_415 rfl (lv_at hl 0 rfl) ?_
  refine lv_iload hx hb dL_law_416 (lv_at hl 4 rfl) ?_
  refine lv_iconst (v := (2 : Int32)) hx hb dL_law_418 (by decide) ?_
  refine lv_iadd hx hb dL_law_419 ?_
  obtain ⟨hc_53, hf⟩ := aw_chk_some hf
  refine va_sld hx hb hX hbl hbA G.2.2.2.2 hc_53 dL_law_420 ?_
  refine lv_aload_n hx hb dL_law_421 rfl (lv_at hl 0 rfl) ?_
  refine lv_iload hx hb dL_law_422 (lv_at hl 4 rfl) ?_
  refine lv_iconst (v := (3 : Int32)) hx hb dL_law_424 (by decide) ?_
  refine lv_iadd hx hb dL_law_425 ?_
  obtain ⟨hc_54, hf⟩ := aw_chk_some hf
  refine va_sld hx hb hX hbl hbA G.2.2.2.2 hc_54 dL_law_426 ?_
  refine lv_aload_n hx hb dL_law_427 rfl (lv_at hl 3 rfl) ?_
  obtain ⟨z_55, hz_56, hf⟩ := aw_bind_some hf
  refine aw_WI (As := [.ref (ad x1), .int (xs (x4 + ((1 : Int32))).toNatClampNeg), .int (xs (x4 + ((2 : Int32))).toNatClampNeg), .int (xs (x4 + ((3 : Int32))).toNatClampNeg), .ref (ad x3)]) (rest := []) X G hl.1 cr_L_134 (c_L_spoken l hst hz_56) rfl rfl rfl ⟨Nat.le_of_ble_eq_true rfl, Nat.le_of_ble_eq_true rfl⟩ (Nat.le_of_ble_eq_true rfl) dL_law_428 ⟨by show cells + 3 ≤ 601024; omega, by show slots + 18 ≤ 7293033; omega⟩ (fun H locs G => ?_)
  refine W.widen (k := cells + 4) (n := slots + 105) (by show cells + 3 ≤ cells + 4; omega) (by show slots + 18 ≤ slots + 105; omega) ?_
  refine lv_istore (lv' := [(5, .int z_55.1), (0, .ref b), (1, .ref (ad x1)), (2, .ref (ad x2)), (3, .ref (ad x3)), (4, .int x4)]) hx hb dL_law_431 hl (by decide) rfl (fun ls hl => ?_)
  refine lv_aload_n hx hb dL_law_433 rfl (lv_at hl 3 rfl) ?_
  refine lv_aload_n hx hb dL_law_434 rfl (lv_at hl 1 rfl) ?_
  refine lv_iload hx hb dL_law_435 (lv_at hl 5 rfl) ?_
  refine lv_iconst (v := (1 : Int32)) hx hb dL_law_437 (by decide) ?_
  refine lv_iadd hx hb dL_law_438 ?_
  refine va_sld hx hb hX hbl hbA G.2.2.2.2 hc_52 dL_law_439 ?_
  refine lv_aload_n hx hb dL_law_440 rfl (lv_at hl 1 rfl) ?_
  refine lv_iload hx hb dL_law_441 (lv_at hl 5 rfl) ?_
  refine lv_iconst (v := (2 : Int32)) hx hb dL_law_443 (by decide) ?_
  refine lv_iadd hx hb dL_law_444 ?_
  refine va_sld hx hb hX hbl hbA G.2.2.2.2 hc_53 dL_law_445 ?_
  refine lv_aload_n hx hb dL_law_446 rfl (lv_at hl 1 rfl) ?_
  refine lv_iload hx hb dL_law_447 (lv_at hl 5 rfl) ?_
  refine lv_iconst (v := (3 : Int32)) hx hb dL_law_449 (by decide) ?_
  refine lv_iadd hx hb dL_law_450 ?_
  refine va_sld hx hb hX hbl hbA G.2.2.2.2 hc_54 dL_law_451 ?_
  obtain ⟨hc_59, hf⟩ := aw_chk_some hf
  obtain ⟨z_57, hz_58, hf⟩ := aw_bind_some hf
  refine aw_VI (As := [.int (xs (x4 + ((1 : Int32))).toNatClampNeg), .int (xs (x4 + ((2 : Int32))).toNatClampNeg), .int (xs (x4 + ((3 : Int32))).toNatClampNeg)]) (rest := []) X G hl.1 cr_L_137 (c_X11_spoken l hz_58) ⟨rfl, rfl⟩ rfl rfl rfl (by decide) hc_59 rfl ⟨Nat.le_of_ble_eq_true rfl, Nat.le_of_ble_eq_true rfl⟩ (Nat.le_of_ble_eq_true rfl) dL_law_452 ⟨by show cells + 4 ≤ 601024; omega, by show slots + 105 ≤ 7293033; omega⟩ (fun H locs G => ?_)
  refine lv_istore (lv' := [(6, .int z_57.1), (5, .int z_55.1), (0, .ref b), (1, .ref (ad x1)), (2, .ref (ad x2)), (3, .ref (ad x3)), (4, .int x4)]) hx hb dL_law_455 hl (by decide) rfl (fun ls hl => ?_)
  refine lv_aload_n hx hb dL_law_457 rfl (lv_at hl 4 rfl) ?_
  obtain ⟨z_60, hz_61, hf⟩ := aw_bind_some hf
  refine aw_VI (As := []) (rest := []) X G hl.1 cr_L_124 (c_X11_thrown l hz_61) ⟨rfl, rfl⟩ rfl rfl rfl (by decide) hc_59 rfl ⟨Nat.le_of_ble_eq_true rfl, Nat.le_of_ble_eq_true rfl⟩ (Nat.le_of_ble_eq_true rfl) dL_law_458 ⟨by show cells + 4 ≤ 601024; omega, by show slots + 105 ≤ 7293033; omega⟩ (fun H locs G => ?_)
  refine lv_iload hx hb dL_law_461 (lv_at hl 1 rfl) ?_
  refine lv_icmp_eq (tgt := 468) hx hb dL_law_463 (by decide) (fun hc => ?_) (fun hc => ?_)
  · have hf := aw_ite_t hc hf
    refine lv_iload hx hb dL_law_468 (lv_at hl 1 rfl) ?_
    refine lv_if_ne (tgt := 485) hx hb dL_law_470 (by decide) (fun hc => ?_) (fun hc => ?_)
    · have hf := aw_ite_f hc hf
      refine lv_goto (tgt := 2257) hx hb dL_law_485 (by decide) ?_
      refine W.widen (k := cells + 4) (n := slots + 105) (by omega) (by omega) ?_
      exact hkb _ _ hf _ E _ _ _ (lv_sub hl [2, 3, 4, 5, 6] rfl) G
    · have hf := aw_ite_t hc hf
      refine lv_aload_n hx hb dL_law_473 rfl (lv_at hl 5 rfl) ?_
      refine lv_iconst (v := (0 : Int32)) hx hb dL_law_474 (by decide) ?_
      obtain ⟨hc_62, hf⟩ := aw_chk_some hf
      refine aw_lal hx hb G hc_62 dL_law_475 ?_
      refine lv_iload hx hb dL_law_476 (lv_at hl 0 rfl) ?_
      refine lv_i2l hx hb dL_law_478 rfl ?_
      refine W.lcmp hx hb dL_law_479 ?_
      refine lv_if_eq (tgt := 485) hx hb dL_law_480 (by decide) (fun hc => ?_) (fun hc => ?_)
      · have hf := aw_ite_t hc hf
        refine lv_goto (tgt := 2257) hx hb dL_law_485 (by decide) ?_
        refine W.widen (k := cells + 4) (n := slots + 105) (by omega) (by omega) ?_
        exact hkb _ _ hf _ E _ _ _ (lv_sub hl [2, 3, 4, 5, 6] rfl) G
      · have hf := aw_ite_f hc hf
        refine lv_iconst (v := (0 : Int32)) hx hb dL_law_483 (by decide) ?_
        exact absurd (Option.some.inj hf) (by decide)
  · have hf := aw_ite_f hc hf
    refine lv_iconst (v := (0 : Int32)) hx hb dL_law_466 (by decide) ?_
    exact absurd (Option.some.inj hf) (by decide)
set_option maxHeartbeats 4000000 in
set_option maxRecDepth 100000 in
theorem w_law_C4 (hst : l.stackTraces = false) (X : aw_X p c cL_law 8 s RL m meth ret) {b L : Nat} {xs : Nat → Int32} (hX : va_X b L xs s s.heap) (hbl : b < s.heap.size) {kb : Sg → Dt → Option Int32} {x1 x2 x3 : Nat} {x4 : Int32} {σ : Sg} {d : Dt} {ad : Nat → Nat} (hf : f_law_C4 xs L kb x1 x2 x3 x4 σ d = some 1) {cells slots : Nat} (hrc : cells + 4 ≤ 601024) (hrs : slots + 105 ≤ 7293033) (hkb : ∀ (σ : Sg) (d : Dt), kb σ d = some 1 → ∀ (ad : Nat → Nat), aw_ext σ0 ad0 σ ad → ∀ (H : Heap) (locs : List Loc) (ls : Array Slot), lv_has ls 8 [(0, .ref b), (1, .ref (ad x1)), (2, .ref (ad x2)), (3, .ref (ad x3)), (4, .int x4)] → aw_G D cA s.heap.size ad σ d s H locs → W p l e room_1 s m #[Value.ref b] below meth c H locs (cells + 4) (slots + 105) (lw_Z below #[Value.ref b] s) (F0 m 2257 ls [])) (E : aw_ext σ0 ad0 σ ad) {H : Heap} {locs : List Loc} {ls : Array Slot} (hl : lv_has ls 8 [(0, .ref b), (1, .ref (ad x1)), (2, .ref (ad x2)), (3, .ref (ad x3)), (4, .int x4)]) (G : aw_G D cA s.heap.size ad σ d s H locs) : W p l e room_1 s m #[Value.ref b] below meth c H locs cells slots (lw_Z below #[Value.ref b] s) (F0 m 488 ls []) := by
  have hx := X.1; have hb := X.2.1; have hml := X.2.2.1; have hown := X.2.2.2.1
  have hbA : ¬ (fun q => s.heap.size ≤ q) b := Nat.not_le.mpr hbl
  unfold f_law_C4 at hf
  refine lv_aload_n hx hb dL_law_488 rfl (lv_at hl 1 rfl) ?_
  refine lv_aload_n hx hb dL_law_489 rfl (lv_at hl 0 rfl) ?_
  refine lv_iload hx hb dL_law_490 (lv_at hl 4 rfl) ?_
  refine lv_iconst (v := (1 : Int32)) hx hb dL_law_492 (by decide) ?_
  refine lv_iadd hx hb dL_law_493 ?_
  obtain ⟨hc_63, hf⟩ := aw_chk_some hf
  refine va_sld hx hb hX hbl hbA G.2.2.2.2 hc_63 dL_law_494 ?_
  refine lv_aload_n hx hb dL_law_495 rfl (lv_at hl 0 rfl) ?_
  refine lv_iload hx hb dL_law_496 (lv_at hl 4 rfl) ?_
  refine lv_iconst (v := (2 : Int32)) hx hb dL_law_498 (by decide) ?_
  refine lv_iadd hx hb dL_law_499 ?_
  obtain ⟨hc_64, hf⟩ := aw_chk_some hf
  refine va_sld hx hb hX hbl hbA G.2.2.2.2 hc_64 dL_law_500 ?_
  refine lv_aload_n hx hb dL_law_501 rfl (lv_at hl 3 rfl) ?_
  obtain ⟨hc_67, hf⟩ := aw_chk_some hf
  obtain ⟨hc_68, hf⟩ := aw_chk_some hf
  obtain ⟨hc_69, hf⟩ := aw_chk_some hf
  obtain ⟨z_65, hz_66, hf⟩ := aw_bind_some hf
  refine aw_WD (As := [.ref (ad x1), .int (xs (x4 + ((1 : Int32))).toNatClampNeg), .int (xs (x4 + ((2 : Int32))).toNatClampNeg), .ref (ad x3)]) (rest := []) X G E hl.1 cr_L_138 (c_L_design l hst hz_66) rfl rfl rfl ⟨Nat.le_of_ble_eq_true rfl, Nat.le_of_ble_eq_true rfl⟩ (Nat.le_of_ble_eq_true rfl) dL_law_502 ⟨by show cells + 4 ≤ 601024; omega, by show slots + 105 ≤ 7293033; omega⟩ (fun ad_70 H locs hext_72 E_71 G => ?_)
  refine W.widen (k := cells + 4) (n := slots + 105) (by show cells + 4 ≤ cells + 4; omega) (by show slots + 105 ≤ slots + 105; omega) ?_
  have ha_73 := (hext_72 _ hc_67).symm
  rw [ha_73] at hl
  have ha_74 := (hext_72 _ hc_68).symm
  rw [ha_74] at hl
  have ha_75 := (hext_72 _ hc_69).symm
  rw [ha_75] at hl
  refine lv_istore (lv' := [(5, .int z_65.1), (0, .ref b), (1, .ref (ad_70 x1)), (2, .ref (ad_70 x2)), (3, .ref (ad_70 x3)), (4, .int x4)]) hx hb dL_law_505 hl (by decide) rfl (fun ls hl => ?_)
  refine lv_aload_n hx hb dL_law_507 rfl (lv_at hl 3 rfl) ?_
  refine lv_aload_n hx hb dL_law_508 rfl (lv_at hl 1 rfl) ?_
  refine lv_iload hx hb dL_law_509 (lv_at hl 5 rfl) ?_
  refine lv_iconst (v := (1 : Int32)) hx hb dL_law_511 (by decide) ?_
  refine lv_iadd hx hb dL_law_512 ?_
  obtain ⟨hc_76, hf⟩ := aw_chk_some hf
  refine va_sld hx hb hX hbl hbA G.2.2.2.2 hc_76 dL_law_513 ?_
  refine lv_aload_n hx hb dL_law_514 rfl (lv_at hl 1 rfl) ?_
  refine lv_iload hx hb dL_law_515 (lv_at hl 5 rfl) ?_
  refine lv_iconst (v := (2 : Int32)) hx hb dL_law_517 (by decide) ?_
  refine lv_iadd hx hb dL_law_518 ?_
  obtain ⟨hc_77, hf⟩ := aw_chk_some hf
  refine va_sld hx hb hX hbl hbA G.2.2.2.2 hc_77 dL_law_519 ?_
  obtain ⟨hc_80, hf⟩ := aw_chk_some hf
  obtain ⟨z_78, hz_79, hf⟩ := aw_bind_some hf
  refine aw_VI (As := [.int (xs (x4 + ((1 : Int32))).toNatClampNeg), .int (xs (x4 + ((2 : Int32))).toNatClampNeg)]) (rest := []) X G hl.1 cr_L_141 (c_X11_design l hz_79) ⟨rfl, rfl⟩ rfl rfl rfl (by decide) hc_80 rfl ⟨Nat.le_of_ble_eq_true rfl, Nat.le_of_ble_eq_true rfl⟩ (Nat.le_of_ble_eq_true rfl) dL_law_520 ⟨by show cells + 4 ≤ 601024; omega, by show slots + 105 ≤ 7293033; omega⟩ (fun H locs G => ?_)
  refine lv_istore (lv' := [(6, .int z_78.1), (5, .int z_65.1), (0, .ref b), (1, .ref (ad_70 x1)), (2, .ref (ad_70 x2)), (3, .ref (ad_70 x3)), (4, .int x4)]) hx hb dL_law_523 hl (by decide) rfl (fun ls hl => ?_)
  refine lv_aload_n hx hb dL_law_525 rfl (lv_at hl 4 rfl) ?_
  obtain ⟨z_81, hz_82, hf⟩ := aw_bind_some hf
  refine aw_VI (As := []) (rest := []) X G hl.1 cr_L_124 (c_X11_thrown l hz_82) ⟨rfl, rfl⟩ rfl rfl rfl (by decide) hc_80 rfl ⟨Nat.le_of_ble_eq_true rfl, Nat.le_of_ble_eq_true rfl⟩ (Nat.le_of_ble_eq_true rfl) dL_law_526 ⟨by show cells + 4 ≤ 601024; omega, by show slots + 105 ≤ 7293033; omega⟩ (fun H locs G => ?_)
  refine lv_iload hx hb dL_law_529 (lv_at hl 1 rfl) ?_
  refine lv_icmp_eq (tgt := 536) hx hb dL_law_531 (by decide) (fun hc => ?_) (fun hc => ?_)
  · have hf := aw_ite_t hc hf
    refine lv_iload hx hb dL_law_536 (lv_at hl 1 rfl) ?_
    refine lv_if_ne (tgt := 553) hx hb dL_law_538 (by decide) (fun hc => ?_) (fun hc => ?_)
    · have hf := aw_ite_f hc hf
      refine lv_goto (tgt := 2257) hx hb dL_law_553 (by decide) ?_
      refine W.widen (k := cells + 4) (n := slots + 105) (by omega) (by omega) ?_
      exact hkb _ _ hf _ E_71 _ _ _ (lv_sub hl [2, 3, 4, 5, 6] rfl) G
    · have hf := aw_ite_t hc hf
      refine lv_aload_n hx hb dL_law_541 rfl (lv_at hl 5 rfl) ?_
      refine lv_iconst (v := (0 : Int32)) hx hb dL_law_542 (by decide) ?_
      obtain ⟨hc_83, hf⟩ := aw_chk_some hf
      refine aw_lal hx hb G hc_83 dL_law_543 ?_
      refine lv_iload hx hb dL_law_544 (lv_at hl 0 rfl) ?_
      refine lv_i2l hx hb dL_law_546 rfl ?_
      refine W.lcmp hx hb dL_law_547 ?_
      refine lv_if_eq (tgt := 553) hx hb dL_law_548 (by decide) (fun hc => ?_) (fun hc => ?_)
      · have hf := aw_ite_t hc hf
        refine lv_goto (tgt := 2257) hx hb dL_law_553 (by decide) ?_
        refine W.widen (k := cells + 4) (n := slots + 105) (by omega) (by omega) ?_
        exact hkb _ _ hf _ E_71 _ _ _ (lv_sub hl [2, 3, 4, 5, 6] rfl) G
      · have hf := aw_ite_f hc hf
        refine lv_iconst (v := (0 : Int32)) hx hb dL_law_551 (by decide) ?_
        exact absurd (Option.some.inj hf) (by decide)
  · have hf := aw_ite_f hc hf
    refine lv_iconst (v := (0 : Int32)) hx hb dL_law_534 (by decide) ?_
    exact absurd (Option.some.inj hf) (by decide)
set_option maxHeartbeats 4000000 in
set_option maxRecDepth 100000 in
theorem w_law_C5 (hst : l.stackTraces = false) (X : aw_X p c cL_law 8 s RL m meth ret) {b L : Nat} {xs : Nat → Int32} (hX : va_X b L xs s s.heap) (hbl : b < s.heap.size) {kb : Sg → Dt → Option Int32} {x1 x2 x3 : Nat} {x4 : Int32} {σ : Sg} {d : Dt} {ad : Nat → Nat} (hf : f_law_C5 xs L kb x1 x2 x3 x4 σ d = some 1) {cells slots : Nat} (hrc : cells + 4 ≤ 601024) (hrs : slots + 105 ≤ 7293033) (hkb : ∀ (σ : Sg) (d : Dt), kb σ d = some 1 → ∀ (ad : Nat → Nat), aw_ext σ0 ad0 σ ad → ∀ (H : Heap) (locs : List Loc) (ls : Array Slot), lv_has ls 8 [(0, .ref b), (1, .ref (ad x1)), (2, .ref (ad x2)), (3, .ref (ad x3)), (4, .int x4)] → aw_G D cA s.heap.size ad σ d s H locs → W p l e room_1 s m #[Value.ref b] below meth c H locs (cells + 4) (slots + 105) (lw_Z below #[Value.ref b] s) (F0 m 2257 ls [])) (E : aw_ext σ0 ad0 σ ad) {H : Heap} {locs : List Loc} {ls : Array Slot} (hl : lv_has ls 8 [(0, .ref b), (1, .ref (ad x1)), (2, .ref (ad x2)), (3, .ref (ad x3)), (4, .int x4)]) (G : aw_G D cA s.heap.size ad σ d s H locs) : W p l e room_1 s m #[Value.ref b] below meth c H locs cells slots (lw_Z below #[Value.ref b] s) (F0 m 556 ls []) := by
  have hx := X.1; have hb := X.2.1; have hml := X.2.2.1; have hown := X.2.2.2.1
  have hbA : ¬ (fun q => s.heap.size ≤ q) b := Nat.not_le.mpr hbl
  unfold f_law_C5 at hf
  refine lv_aload_n hx hb dL_law_556 rfl (lv_at hl 1 rfl) ?_
  refine lv_aload_n hx hb dL_law_557 rfl (lv_at hl 0 rfl) ?_
  refine lv_iload hx hb dL_law_558 (lv_at hl 4 rfl) ?_
  refine lv_iconst (v := (1 : Int32)) hx hb dL_law_560 (by decide) ?_
  refine lv_iadd hx hb dL_law_561 ?_
  obtain ⟨hc_84, hf⟩ := aw_chk_some hf
  refine va_sld hx hb hX hbl hbA G.2.2.2.2 hc_84 dL_law_562 ?_
  refine lv_aload_n hx hb dL_law_563 rfl (lv_at hl 0 rfl) ?_
  refine lv_iload hx hb dL_law_564 (lv_at hl 4 rfl) ?_
  refine lv_iconst (v := (2 : Int32)) hx hb dL_law_566 (by decide) ?_
  refine lv_iadd hx hb dL_law_567 ?_
  obtain ⟨hc_85, hf⟩ := aw_chk_some hf
  refine va_sld hx hb hX hbl hbA G.2.2.2.2 hc_85 dL_law_568 ?_
  refine lv_aload_n hx hb dL_law_569 rfl (lv_at hl 0 rfl) ?_
  refine lv_iload hx hb dL_law_570 (lv_at hl 4 rfl) ?_
  refine lv_iconst (v := (3 : Int32)) hx hb dL_law_572 (by decide) ?_
  refine lv_iadd hx hb dL_law_573 ?_
  obtain ⟨hc_86, hf⟩ := aw_chk_some hf
  refine va_sld hx hb hX hbl hbA G.2.2.2.2 hc_86 dL_law_574 ?_
  refine lv_aload_n hx hb dL_law_575 rfl (lv_at hl 0 rfl) ?_
  refine lv_iload hx hb dL_law_576 (lv_at hl 4 rfl) ?_
  refine lv_iconst (v := (4 : Int32)) hx hb dL_law_578 (by decide) ?_
  refine lv_iadd hx hb dL_law_579 ?_
  obtain ⟨hc_87, hf⟩ := aw_chk_some hf
  refine va_sld hx hb hX hbl hbA G.2.2.2.2 hc_87 dL_law_580 ?_
  refine lv_if_eq (tgt := 588) hx hb dL_law_581 (by decide) (fun hc => ?_) (fun hc => ?_)
  · have hf := aw_ite_t hc hf
    refine lv_iconst (v := (0 : Int32)) hx hb dL_law_588 (by decide) ?_
    refine lv_aload_n hx hb dL_law_589 rfl (lv_at hl 3 rfl) ?_
    obtain ⟨z_88, hz_89, hf⟩ := aw_bind_some hf
    refine aw_WI (As := [.ref (ad x1), .int (xs (x4 + ((1 : Int32))).toNatClampNeg), .int (xs (x4 + ((2 : Int32))).toNatClampNeg), .int (xs (x4 + ((3 : Int32))).toNatClampNeg), .int ((0 : Int32)), .ref (ad x3)]) (rest := []) X G hl.1 cr_L_142 (c_L_assign l hst hz_89) rfl rfl rfl ⟨Nat.le_of_ble_eq_true rfl, Nat.le_of_ble_eq_true rfl⟩ (Nat.le_of_ble_eq_true rfl) dL_law_590 ⟨by show cells + 2 ≤ 601024; omega, by show slots + 12 ≤ 7293033; omega⟩ (fun H locs G => ?_)
    refine W.widen (k := cells + 4) (n := slots + 105) (by show cells + 2 ≤ cells + 4; omega) (by show slots + 12 ≤ slots + 105; omega) ?_
    refine lv_istore (lv' := [(5, .int z_88.1), (0, .ref b), (1, .ref (ad x1)), (2, .ref (ad x2)), (3, .ref (ad x3)), (4, .int x4)]) hx hb dL_law_593 hl (by decide) rfl (fun ls hl => ?_)
    refine lv_aload_n hx hb dL_law_595 rfl (lv_at hl 3 rfl) ?_
    refine lv_aload_n hx hb dL_law_596 rfl (lv_at hl 1 rfl) ?_
    refine lv_iload hx hb dL_law_597 (lv_at hl 5 rfl) ?_
    refine lv_iconst (v := (1 : Int32)) hx hb dL_law_599 (by decide) ?_
    refine lv_iadd hx hb dL_law_600 ?_
    refine va_sld hx hb hX hbl hbA G.2.2.2.2 hc_84 dL_law_601 ?_
    refine lv_aload_n hx hb dL_law_602 rfl (lv_at hl 1 rfl) ?_
    refine lv_iload hx hb dL_law_603 (lv_at hl 5 rfl) ?_
    refine lv_iconst (v := (2 : Int32)) hx hb dL_law_605 (by decide) ?_
    refine lv_iadd hx hb dL_law_606 ?_
    refine va_sld hx hb hX hbl hbA G.2.2.2.2 hc_85 dL_law_607 ?_
    refine lv_aload_n hx hb dL_law_608 rfl (lv_at hl 1 rfl) ?_
    refine lv_iload hx hb dL_law_609 (lv_at hl 5 rfl) ?_
    refine lv_iconst (v := (3 : Int32)) hx hb dL_law_611 (by decide) ?_
    refine lv_iadd hx hb dL_law_612 ?_
    refine va_sld hx hb hX hbl hbA G.2.2.2.2 hc_86 dL_law_613 ?_
    refine lv_aload_n hx hb dL_law_614 rfl (lv_at hl 1 rfl) ?_
    refine lv_iload hx hb dL_law_615 (lv_at hl 5 rfl) ?_
    refine lv_iconst (v := (4 : Int32)) hx hb dL_law_617 (by decide) ?_
    refine lv_iadd hx hb dL_law_618 ?_
    refine va_sld hx hb hX hbl hbA G.2.2.2.2 hc_87 dL_law_619 ?_
    refine lv_if_eq (tgt := 627) hx hb dL_law_620 (by decide) (fun hc => ?_) (fun hc => ?_)
    · have hf := aw_ite_t hc hf
      refine lv_iconst (v := (0 : Int32)) hx hb dL_law_627 (by decide) ?_
      obtain ⟨hc_92, hf⟩ := aw_chk_some hf
      obtain ⟨z_90, hz_91, hf⟩ := aw_bind_some hf
      refine aw_VI (As := [.int (xs (x4 + ((1 : Int32))).toNatClampNeg), .int (xs (x4 + ((2 : Int32))).toNatClampNeg), .int (xs (x4 + ((3 : Int32))).toNatClampNeg), .int ((0 : Int32))]) (rest := []) X G hl.1 cr_L_145 (c_X11_assign l hz_91) ⟨rfl, rfl⟩ rfl rfl rfl (by decide) hc_92 rfl ⟨Nat.le_of_ble_eq_true rfl, Nat.le_of_ble_eq_true rfl⟩ (Nat.le_of_ble_eq_true rfl) dL_law_628 ⟨by show cells + 4 ≤ 601024; omega, by show slots + 105 ≤ 7293033; omega⟩ (fun H locs G => ?_)
      refine lv_istore (lv' := [(6, .int z_90.1), (5, .int z_88.1), (0, .ref b), (1, .ref (ad x1)), (2, .ref (ad x2)), (3, .ref (ad x3)), (4, .int x4)]) hx hb dL_law_631 hl (by decide) rfl (fun ls hl => ?_)
      refine lv_aload_n hx hb dL_law_633 rfl (lv_at hl 4 rfl) ?_
      obtain ⟨z_93, hz_94, hf⟩ := aw_bind_some hf
      refine aw_VI (As := []) (rest := []) X G hl.1 cr_L_124 (c_X11_thrown l hz_94) ⟨rfl, rfl⟩ rfl rfl rfl (by decide) hc_92 rfl ⟨Nat.le_of_ble_eq_true rfl, Nat.le_of_ble_eq_true rfl⟩ (Nat.le_of_ble_eq_true rfl) dL_law_634 ⟨by show cells + 4 ≤ 601024; omega, by show slots + 105 ≤ 7293033; omega⟩ (fun H locs G => ?_)
      refine lv_iload hx hb dL_law_637 (lv_at hl 1 rfl) ?_
      refine lv_icmp_eq (tgt := 644) hx hb dL_law_639 (by decide) (fun hc => ?_) (fun hc => ?_)
      · have hf := aw_ite_t hc hf
        refine lv_iload hx hb dL_law_644 (lv_at hl 1 rfl) ?_
        refine lv_if_ne (tgt := 661) hx hb dL_law_646 (by decide) (fun hc => ?_) (fun hc => ?_)
        · have hf := aw_ite_f hc hf
          refine lv_goto (tgt := 2257) hx hb dL_law_661 (by decide) ?_
          refine W.widen (k := cells + 4) (n := slots + 105) (by omega) (by omega) ?_
          exact hkb _ _ hf _ E _ _ _ (lv_sub hl [2, 3, 4, 5, 6] rfl) G
        · have hf := aw_ite_t hc hf
          refine lv_aload_n hx hb dL_law_649 rfl (lv_at hl 5 rfl) ?_
          refine lv_iconst (v := (0 : Int32)) hx hb dL_law_650 (by decide) ?_
          obtain ⟨hc_95, hf⟩ := aw_chk_some hf
          refine aw_lal hx hb G hc_95 dL_law_651 ?_
          refine lv_iload hx hb dL_law_652 (lv_at hl 0 rfl) ?_
          refine lv_i2l hx hb dL_law_654 rfl ?_
          refine W.lcmp hx hb dL_law_655 ?_
          refine lv_if_eq (tgt := 661) hx hb dL_law_656 (by decide) (fun hc => ?_) (fun hc => ?_)
          · have hf := aw_ite_t hc hf
            refine lv_goto (tgt := 2257) hx hb dL_law_661 (by decide) ?_
            refine W.widen (k := cells + 4) (n := slots + 105) (by omega) (by omega) ?_
            exact hkb _ _ hf _ E _ _ _ (lv_sub hl [2, 3, 4, 5, 6] rfl) G
          · have hf := aw_ite_f hc hf
            refine lv_iconst (v := (0 : Int32)) hx hb dL_law_659 (by decide) ?_
            exact absurd (Option.some.inj hf) (by decide)
      · have hf := aw_ite_f hc hf
        refine lv_iconst (v := (0 : Int32)) hx hb dL_law_642 (by decide) ?_
        exact absurd (Option.some.inj hf) (by decide)
    · have hf := aw_ite_f hc hf
      refine lv_iconst (v := (1 : Int32)) hx hb dL_law_623 (by decide) ?_
      refine lv_goto (tgt := 628) hx hb dL_law_624 (by decide) ?_
      obtain ⟨hc_98, hf⟩ := aw_chk_some hf
      obtain ⟨z_96, hz_97, hf⟩ := aw_bind_some hf
      refine aw_VI (As := [.int (xs (x4 + ((1 : Int32))).toNatClampNeg), .int (xs (x4 + ((2 : Int32))).toNatClampNeg), .int (xs (x4 + ((3 : Int32))).toNatClampNeg), .int ((1 : Int32))]) (rest := []) X G hl.1 cr_L_145 (c_X11_assign l hz_97) ⟨rfl, rfl⟩ rfl rfl rfl (by decide) hc_98 rfl ⟨Nat.le_of_ble_eq_true rfl, Nat.le_of_ble_eq_true rfl⟩ (Nat.le_of_ble_eq_true rfl) dL_law_628 ⟨by show cells + 4 ≤ 601024; omega, by show slots + 105 ≤ 7293033; omega⟩ (fun H locs G => ?_)
      refine lv_istore (lv' := [(6, .int z_96.1), (5, .int z_88.1), (0, .ref b), (1, .ref (ad x1)), (2, .ref (ad x2)), (3, .ref (ad x3)), (4, .int x4)]) hx hb dL_law_631 hl (by decide) rfl (fun ls hl => ?_)
      refine lv_aload_n hx hb dL_law_633 rfl (lv_at hl 4 rfl) ?_
      obtain ⟨z_99, hz_100, hf⟩ := aw_bind_some hf
      refine aw_VI (As := []) (rest := []) X G hl.1 cr_L_124 (c_X11_thrown l hz_100) ⟨rfl, rfl⟩ rfl rfl rfl (by decide) hc_98 rfl ⟨Nat.le_of_ble_eq_true rfl, Nat.le_of_ble_eq_true rfl⟩ (Nat.le_of_ble_eq_true rfl) dL_law_634 ⟨by show cells + 4 ≤ 601024; omega, by show slots + 105 ≤ 7293033; omega⟩ (fun H locs G => ?_)
      refine lv_iload hx hb dL_law_637 (lv_at hl 1 rfl) ?_
      refine lv_icmp_eq (tgt := 644) hx hb dL_law_639 (by decide) (fun hc => ?_) (fun hc => ?_)
      · have hf := aw_ite_t hc hf
        refine lv_iload hx hb dL_law_644 (lv_at hl 1 rfl) ?_
        refine lv_if_ne (tgt := 661) hx hb dL_law_646 (by decide) (fun hc => ?_) (fun hc => ?_)
        · have hf := aw_ite_f hc hf
          refine lv_goto (tgt := 2257) hx hb dL_law_661 (by decide) ?_
          refine W.widen (k := cells + 4) (n := slots + 105) (by omega) (by omega) ?_
          exact hkb _ _ hf _ E _ _ _ (lv_sub hl [2, 3, 4, 5, 6] rfl) G
        · have hf := aw_ite_t hc hf
          refine lv_aload_n hx hb dL_law_649 rfl (lv_at hl 5 rfl) ?_
          refine lv_iconst (v := (0 : Int32)) hx hb dL_law_650 (by decide) ?_
          obtain ⟨hc_101, hf⟩ := aw_chk_some hf
          refine aw_lal hx hb G hc_101 dL_law_651 ?_
          refine lv_iload hx hb dL_law_652 (lv_at hl 0 rfl) ?_
          refine lv_i2l hx hb dL_law_654 rfl ?_
          refine W.lcmp hx hb dL_law_655 ?_
          refine lv_if_eq (tgt := 661) hx hb dL_law_656 (by decide) (fun hc => ?_) (fun hc => ?_)
          · have hf := aw_ite_t hc hf
            refine lv_goto (tgt := 2257) hx hb dL_law_661 (by decide) ?_
            refine W.widen (k := cells + 4) (n := slots + 105) (by omega) (by omega) ?_
            exact hkb _ _ hf _ E _ _ _ (lv_sub hl [2, 3, 4, 5, 6] rfl) G
          · have hf := aw_ite_f hc hf
            refine lv_iconst (v := (0 : Int32)) hx hb dL_law_659 (by decide) ?_
            exact absurd (Option.some.inj hf) (by decide)
      · have hf := aw_ite_f hc hf
        refine lv_iconst (v := (0 : Int32)) hx hb dL_law_642 (by decide) ?_
        exact absurd (Option.some.inj hf) (by decide)
  · have hf := aw_ite_f hc hf
    refine lv_iconst (v := (1 : Int32)) hx hb dL_law_584 (by decide) ?_
    refine lv_goto (tgt := 589) hx hb dL_law_585 (by decide) ?_
    refine lv_aload_n hx hb dL_law_589 rfl (lv_at hl 3 rfl) ?_
    obtain ⟨z_102, hz_103, hf⟩ := aw_bind_some hf
    refine aw_WI (As := [.ref (ad x1), .int (xs (x4 + ((1 : Int32))).toNatClampNeg), .int (xs (x4 + ((2 : Int32))).toNatClampNeg), .int (xs (x4 + ((3 : Int32))).toNatClampNeg), .int ((1 : Int32)), .ref (ad x3)]) (rest := []) X G hl.1 cr_L_142 (c_L_assign l hst hz_103) rfl rfl rfl ⟨Nat.le_of_ble_eq_true rfl, Nat.le_of_ble_eq_true rfl⟩ (Nat.le_of_ble_eq_true rfl) dL_law_590 ⟨by show cells + 2 ≤ 601024; omega, by show slots + 12 ≤ 7293033; omega⟩ (fun H locs G => ?_)
    refine W.widen (k := cells + 4) (n := slots + 105) (by show cells + 2 ≤ cells + 4; omega) (by show slots + 12 ≤ slots + 105; omega) ?_
    refine lv_istore (lv' := [(5, .int z_102.1), (0, .ref b), (1, .ref (ad x1)), (2, .ref (ad x2)), (3, .ref (ad x3)), (4, .int x4)]) hx hb dL_law_593 hl (by decide) rfl (fun ls hl => ?_)
    refine lv_aload_n hx hb dL_law_595 rfl (lv_at hl 3 rfl) ?_
    refine lv_aload_n hx hb dL_law_596 rfl (lv_at hl 1 rfl) ?_
    refine lv_iload hx hb dL_law_597 (lv_at hl 5 rfl) ?_
    refine lv_iconst (v := (1 : Int32)) hx hb dL_law_599 (by decide) ?_
    refine lv_iadd hx hb dL_law_600 ?_
    refine va_sld hx hb hX hbl hbA G.2.2.2.2 hc_84 dL_law_601 ?_
    refine lv_aload_n hx hb dL_law_602 rfl (lv_at hl 1 rfl) ?_
    refine lv_iload hx hb dL_law_603 (lv_at hl 5 rfl) ?_
    refine lv_iconst (v := (2 : Int32)) hx hb dL_law_605 (by decide) ?_
    refine lv_iadd hx hb dL_law_606 ?_
    refine va_sld hx hb hX hbl hbA G.2.2.2.2 hc_85 dL_law_607 ?_
    refine lv_aload_n hx hb dL_law_608 rfl (lv_at hl 1 rfl) ?_
    refine lv_iload hx hb dL_law_609 (lv_at hl 5 rfl) ?_
    refine lv_iconst (v := (3 : Int32)) hx hb dL_law_611 (by decide) ?_
    refine lv_iadd hx hb dL_law_612 ?_
    refine va_sld hx hb hX hbl hbA G.2.2.2.2 hc_86 dL_law_613 ?_
    refine lv_aload_n hx hb dL_law_614 rfl (lv_at hl 1 rfl) ?_
    refine lv_iload hx hb dL_law_615 (lv_at hl 5 rfl) ?_
    refine lv_iconst (v := (4 : Int32)) hx hb dL_law_617 (by decide) ?_
    refine lv_iadd hx hb dL_law_618 ?_
    refine va_sld hx hb hX hbl hbA G.2.2.2.2 hc_87 dL_law_619 ?_
    refine lv_if_eq (tgt := 627) hx hb dL_law_620 (by decide) (fun hc => ?_) (fun hc => ?_)
    · have hf := aw_ite_t hc hf
      refine lv_iconst (v := (0 : Int32)) hx hb dL_law_627 (by decide) ?_
      obtain ⟨hc_106, hf⟩ := aw_chk_some hf
      obtain ⟨z_104, hz_105, hf⟩ := aw_bind_some hf
      refine aw_VI (As := [.int (xs (x4 + ((1 : Int32))).toNatClampNeg), .int (xs (x4 + ((2 : Int32))).toNatClampNeg), .int (xs (x4 + ((3 : Int32))).toNatClampNeg), .int ((0 : Int32))]) (rest := []) X G hl.1 cr_L_145 (c_X11_assign l hz_105) ⟨rfl, rfl⟩ rfl rfl rfl (by decide) hc_106 rfl ⟨Nat.le_of_ble_eq_true rfl, Nat.le_of_ble_eq_true rfl⟩ (Nat.le_of_ble_eq_true rfl) dL_law_628 ⟨by show cells + 4 ≤ 601024; omega, by show slots + 105 ≤ 7293033; omega⟩ (fun H locs G => ?_)
      refine lv_istore (lv' := [(6, .int z_104.1), (5, .int z_102.1), (0, .ref b), (1, .ref (ad x1)), (2, .ref (ad x2)), (3, .ref (ad x3)), (4, .int x4)]) hx hb dL_law_631 hl (by decide) rfl (fun ls hl => ?_)
      refine lv_aload_n hx hb dL_law_633 rfl (lv_at hl 4 rfl) ?_
      obtain ⟨z_107, hz_108, hf⟩ := aw_bind_some hf
      refine aw_VI (As := []) (rest := []) X G hl.1 cr_L_124 (c_X11_thrown l hz_108) ⟨rfl, rfl⟩ rfl rfl rfl (by decide) hc_106 rfl ⟨Nat.le_of_ble_eq_true rfl, Nat.le_of_ble_eq_true rfl⟩ (Nat.le_of_ble_eq_true rfl) dL_law_634 ⟨by show cells + 4 ≤ 601024; omega, by show slots + 105 ≤ 7293033; omega⟩ (fun H locs G => ?_)
      refine lv_iload hx hb dL_law_637 (lv_at hl 1 rfl) ?_
      refine lv_icmp_eq (tgt := 644) hx hb dL_law_639 (by decide) (fun hc => ?_) (fun hc => ?_)
      · have hf := aw_ite_t hc hf
        refine lv_iload hx hb dL_law_644 (lv_at hl 1 rfl) ?_
        refine lv_if_ne (tgt := 661) hx hb dL_law_646 (by decide) (fun hc => ?_) (fun hc => ?_)
        · have hf := aw_ite_f hc hf
          refine lv_goto (tgt := 2257) hx hb dL_law_661 (by decide) ?_
          refine W.widen (k := cells + 4) (n := slots + 105) (by omega) (by omega) ?_
          exact hkb _ _ hf _ E _ _ _ (lv_sub hl [2, 3, 4, 5, 6] rfl) G
        · have hf := aw_ite_t hc hf
          refine lv_aload_n hx hb dL_law_649 rfl (lv_at hl 5 rfl) ?_
          refine lv_iconst (v := (0 : Int32)) hx hb dL_law_650 (by decide) ?_
          obtain ⟨hc_109, hf⟩ := aw_chk_some hf
          refine aw_lal hx hb G hc_109 dL_law_651 ?_
          refine lv_iload hx hb dL_law_652 (lv_at hl 0 rfl) ?_
          refine lv_i2l hx hb dL_law_654 rfl ?_
          refine W.lcmp hx hb dL_law_655 ?_
          refine lv_if_eq (tgt := 661) hx hb dL_law_656 (by decide) (fun hc => ?_) (fun hc => ?_)
          · have hf := aw_ite_t hc hf
            refine lv_goto (tgt := 2257) hx hb dL_law_661 (by decide) ?_
            refine W.widen (k := cells + 4) (n := slots + 105) (by omega) (by omega) ?_
            exact hkb _ _ hf _ E _ _ _ (lv_sub hl [2, 3, 4, 5, 6] rfl) G
          · have hf := aw_ite_f hc hf
            refine lv_iconst (v := (0 : Int32)) hx hb dL_law_659 (by decide) ?_
            exact absurd (Option.some.inj hf) (by decide)
      · have hf := aw_ite_f hc hf
        refine lv_iconst (v := (0 : Int32)) hx hb dL_law_642 (by decide) ?_
        exact absurd (Option.some.inj hf) (by decide)
    · have hf := aw_ite_f hc hf
      refine lv_iconst (v := (1 : Int32)) hx hb dL_law_623 (by decide) ?_
      refine lv_goto (tgt := 628) hx hb dL_law_624 (by decide) ?_
      obtain ⟨hc_112, hf⟩ := aw_chk_some hf
      obtain ⟨z_110, hz_111, hf⟩ := aw_bind_some hf
      refine aw_VI (As := [.int (xs (x4 + ((1 : Int32))).toNatClampNeg), .int (xs (x4 + ((2 : Int32))).toNatClampNeg), .int (xs (x4 + ((3 : Int32))).toNatClampNeg), .int ((1 : Int32))]) (rest := []) X G hl.1 cr_L_145 (c_X11_assign l hz_111) ⟨rfl, rfl⟩ rfl rfl rfl (by decide) hc_112 rfl ⟨Nat.le_of_ble_eq_true rfl, Nat.le_of_ble_eq_true rfl⟩ (Nat.le_of_ble_eq_true rfl) dL_law_628 ⟨by show cells + 4 ≤ 601024; omega, by show slots + 105 ≤ 7293033; omega⟩ (fun H locs G => ?_)
      refine lv_istore (lv' := [(6, .int z_110.1), (5, .int z_102.1), (0, .ref b), (1, .ref (ad x1)), (2, .ref (ad x2)), (3, .ref (ad x3)), (4, .int x4)]) hx hb dL_law_631 hl (by decide) rfl (fun ls hl => ?_)
      refine lv_aload_n hx hb dL_law_633 rfl (lv_at hl 4 rfl) ?_
      obtain ⟨z_113, hz_114, hf⟩ := aw_bind_some hf
      refine aw_VI (As := []) (rest := []) X G hl.1 cr_L_124 (c_X11_thrown l hz_114) ⟨rfl, rfl⟩ rfl rfl rfl (by decide) hc_112 rfl ⟨Nat.le_of_ble_eq_true rfl, Nat.le_of_ble_eq_true rfl⟩ (Nat.le_of_ble_eq_true rfl) dL_law_634 ⟨by show cells + 4 ≤ 601024; omega, by show slots + 105 ≤ 7293033; omega⟩ (fun H locs G => ?_)
      refine lv_iload hx hb dL_law_637 (lv_at hl 1 rfl) ?_
      refine lv_icmp_eq (tgt := 644) hx hb dL_law_639 (by decide) (fun hc => ?_) (fun hc => ?_)
      · have hf := aw_ite_t hc hf
        refine lv_iload hx hb dL_law_644 (lv_at hl 1 rfl) ?_
        refine lv_if_ne (tgt := 661) hx hb dL_law_646 (by decide) (fun hc => ?_) (fun hc => ?_)
        · have hf := aw_ite_f hc hf
          refine lv_goto (tgt := 2257) hx hb dL_law_661 (by decide) ?_
          refine W.widen (k := cells + 4) (n := slots + 105) (by omega) (by omega) ?_
          exact hkb _ _ hf _ E _ _ _ (lv_sub hl [2, 3, 4, 5, 6] rfl) G
        · have hf := aw_ite_t hc hf
          refine lv_aload_n hx hb dL_law_649 rfl (lv_at hl 5 rfl) ?_
          refine lv_iconst (v := (0 : Int32)) hx hb dL_law_650 (by decide) ?_
          obtain ⟨hc_115, hf⟩ := aw_chk_some hf
          refine aw_lal hx hb G hc_115 dL_law_651 ?_
          refine lv_iload hx hb dL_law_652 (lv_at hl 0 rfl) ?_
          refine lv_i2l hx hb dL_law_654 rfl ?_
          refine W.lcmp hx hb dL_law_655 ?_
          refine lv_if_eq (tgt := 661) hx hb dL_law_656 (by decide) (fun hc => ?_) (fun hc => ?_)
          · have hf := aw_ite_t hc hf
            refine lv_goto (tgt := 2257) hx hb dL_law_661 (by decide) ?_
            refine W.widen (k := cells + 4) (n := slots + 105) (by omega) (by omega) ?_
            exact hkb _ _ hf _ E _ _ _ (lv_sub hl [2, 3, 4, 5, 6] rfl) G
          · have hf := aw_ite_f hc hf
            refine lv_iconst (v := (0 : Int32)) hx hb dL_law_659 (by decide) ?_
            exact absurd (Option.some.inj hf) (by decide)
      · have hf := aw_ite_f hc hf
        refine lv_iconst (v := (0 : Int32)) hx hb dL_law_642 (by decide) ?_
        exact absurd (Option.some.inj hf) (by decide)
set_option maxHeartbeats 4000000 in
set_option maxRecDepth 100000 in
theorem w_law_C6 (hst : l.stackTraces = false) (X : aw_X p c cL_law 8 s RL m meth ret) {b L : Nat} {xs : Nat → Int32} (hX : va_X b L xs s s.heap) (hbl : b < s.heap.size) {kb : Sg → Dt → Option Int32} {x1 x2 x3 : Nat} {x4 : Int32} {σ : Sg} {d : Dt} {ad : Nat → Nat} (hf : f_law_C6 xs L kb x1 x2 x3 x4 σ d = some 1) {cells slots : Nat} (hrc : cells + 4 ≤ 601024) (hrs : slots + 105 ≤ 7293033) (hkb : ∀ (σ : Sg) (d : Dt), kb σ d = some 1 → ∀ (ad : Nat → Nat), aw_ext σ0 ad0 σ ad → ∀ (H : Heap) (locs : List Loc) (ls : Array Slot), lv_has ls 8 [(0, .ref b), (1, .ref (ad x1)), (2, .ref (ad x2)), (3, .ref (ad x3)), (4, .int x4)] → aw_G D cA s.heap.size ad σ d s H locs → W p l e room_1 s m #[Value.ref b] below meth c H locs (cells + 4) (slots + 105) (lw_Z below #[Value.ref b] s) (F0 m 2257 ls [])) (E : aw_ext σ0 ad0 σ ad) {H : Heap} {locs : List Loc} {ls : Array Slot} (hl : lv_has ls 8 [(0, .ref b), (1, .ref (ad x1)), (2, .ref (ad x2)), (3, .ref (ad x3)), (4, .int x4)]) (G : aw_G D cA s.heap.size ad σ d s H locs) : W p l e room_1 s m #[Value.ref b] below meth c H locs cells slots (lw_Z below #[Value.ref b] s) (F0 m 664 ls []) := by
  have hx := X.1; have hb := X.2.1; have hml := X.2.2.1; have hown := X.2.2.2.1
  have hbA : ¬ (fun q => s.heap.size ≤ q) b := Nat.not_le.mpr hbl
  unfold f_law_C6 at hf
  refine lv_aload_n hx hb dL_law_664 rfl (lv_at hl 1 rfl) ?_
  refine lv_aload_n hx hb dL_law_665 rfl (lv_at hl 0 rfl) ?_
  refine lv_iload hx hb dL_law_666 (lv_at hl 4 rfl) ?_
  refine lv_iconst (v := (1 : Int32)) hx hb dL_law_668 (by decide) ?_
  refine lv_iadd hx hb dL_law_669 ?_
  obtain ⟨hc_116, hf⟩ := aw_chk_some hf
  refine va_sld hx hb hX hbl hbA G.2.2.2.2 hc_116 dL_law_670 ?_
  refine lv_aload_n hx hb dL_law_671 rfl (lv_at hl 0 rfl) ?_
  refine lv_iload hx hb dL_law_672 (lv_at hl 4 rfl) ?_
  refine lv_iconst (v := (2 : Int32)) hx hb dL_law_674 (by decide) ?_
  refine lv_iadd hx hb dL_law_675 ?_
  obtain ⟨hc_117, hf⟩ := aw_chk_some hf
  refine va_sld hx hb hX hbl hbA G.2.2.2.2 hc_117 dL_law_676 ?_
  refine lv_aload_n hx hb dL_law_677 rfl (lv_at hl 0 rfl) ?_
  refine lv_iload hx hb dL_law_678 (lv_at hl 4 rfl) ?_
  refine lv_iconst (v := (3 : Int32)) hx hb dL_law_680 (by decide) ?_
  refine lv_iadd hx hb dL_law_681 ?_
  obtain ⟨hc_118, hf⟩ := aw_chk_some hf
  refine va_sld hx hb hX hbl hbA G.2.2.2.2 hc_118 dL_law_682 ?_
  refine lv_if_eq (tgt := 690) hx hb dL_law_683 (by decide) (fun hc => ?_) (fun hc => ?_)
  · have hf := aw_ite_t hc hf
    refine lv_iconst (v := (0 : Int32)) hx hb dL_law_690 (by decide) ?_
    refine lv_aload_n hx hb dL_law_691 rfl (lv_at hl 3 rfl) ?_
    obtain ⟨z_119, hz_120, hf⟩ := aw_bind_some hf
    refine aw_WI (As := [.ref (ad x1), .int (xs (x4 + ((1 : Int32))).toNatClampNeg), .int (xs (x4 + ((2 : Int32))).toNatClampNeg), .int ((0 : Int32)), .ref (ad x3)]) (rest := []) X G hl.1 cr_L_146 (c_L_mark l hst hz_120) rfl rfl rfl ⟨Nat.le_of_ble_eq_true rfl, Nat.le_of_ble_eq_true rfl⟩ (Nat.le_of_ble_eq_true rfl) dL_law_692 ⟨by show cells + 2 ≤ 601024; omega, by show slots + 12 ≤ 7293033; omega⟩ (fun H locs G => ?_)
    refine W.widen (k := cells + 4) (n := slots + 105) (by show cells + 2 ≤ cells + 4; omega) (by show slots + 12 ≤ slots + 105; omega) ?_
    refine lv_istore (lv' := [(5, .int z_119.1), (0, .ref b), (1, .ref (ad x1)), (2, .ref (ad x2)), (3, .ref (ad x3)), (4, .int x4)]) hx hb dL_law_695 hl (by decide) rfl (fun ls hl => ?_)
    refine lv_aload_n hx hb dL_law_697 rfl (lv_at hl 3 rfl) ?_
    refine lv_aload_n hx hb dL_law_698 rfl (lv_at hl 1 rfl) ?_
    refine lv_iload hx hb dL_law_699 (lv_at hl 5 rfl) ?_
    refine lv_iconst (v := (1 : Int32)) hx hb dL_law_701 (by decide) ?_
    refine lv_iadd hx hb dL_law_702 ?_
    refine va_sld hx hb hX hbl hbA G.2.2.2.2 hc_116 dL_law_703 ?_
    refine lv_aload_n hx hb dL_law_704 rfl (lv_at hl 1 rfl) ?_
    refine lv_iload hx hb dL_law_705 (lv_at hl 5 rfl) ?_
    refine lv_iconst (v := (2 : Int32)) hx hb dL_law_707 (by decide) ?_
    refine lv_iadd hx hb dL_law_708 ?_
    refine va_sld hx hb hX hbl hbA G.2.2.2.2 hc_117 dL_law_709 ?_
    refine lv_aload_n hx hb dL_law_710 rfl (lv_at hl 1 rfl) ?_
    refine lv_iload hx hb dL_law_711 (lv_at hl 5 rfl) ?_
    refine lv_iconst (v := (3 : Int32)) hx hb dL_law_713 (by decide) ?_
    refine lv_iadd hx hb dL_law_714 ?_
    refine va_sld hx hb hX hbl hbA G.2.2.2.2 hc_118 dL_law_715 ?_
    refine lv_if_eq (tgt := 723) hx hb dL_law_716 (by decide) (fun hc => ?_) (fun hc => ?_)
    · have hf := aw_ite_t hc hf
      refine lv_iconst (v := (0 : Int32)) hx hb dL_law_723 (by decide) ?_
      obtain ⟨hc_123, hf⟩ := aw_chk_some hf
      obtain ⟨z_121, hz_122, hf⟩ := aw_bind_some hf
      refine aw_VI (As := [.int (xs (x4 + ((1 : Int32))).toNatClampNeg), .int (xs (x4 + ((2 : Int32))).toNatClampNeg), .int ((0 : Int32))]) (rest := []) X G hl.1 cr_L_149 (c_X11_mark l hz_122) ⟨rfl, rfl⟩ rfl rfl rfl (by decide) hc_123 rfl ⟨Nat.le_of_ble_eq_true rfl, Nat.le_of_ble_eq_true rfl⟩ (Nat.le_of_ble_eq_true rfl) dL_law_724 ⟨by show cells + 4 ≤ 601024; omega, by show slots + 105 ≤ 7293033; omega⟩ (fun H locs G => ?_)
      refine lv_istore (lv' := [(6, .int z_121.1), (5, .int z_119.1), (0, .ref b), (1, .ref (ad x1)), (2, .ref (ad x2)), (3, .ref (ad x3)), (4, .int x4)]) hx hb dL_law_727 hl (by decide) rfl (fun ls hl => ?_)
      refine lv_aload_n hx hb dL_law_729 rfl (lv_at hl 4 rfl) ?_
      obtain ⟨z_124, hz_125, hf⟩ := aw_bind_some hf
      refine aw_VI (As := []) (rest := []) X G hl.1 cr_L_124 (c_X11_thrown l hz_125) ⟨rfl, rfl⟩ rfl rfl rfl (by decide) hc_123 rfl ⟨Nat.le_of_ble_eq_true rfl, Nat.le_of_ble_eq_true rfl⟩ (Nat.le_of_ble_eq_true rfl) dL_law_730 ⟨by show cells + 4 ≤ 601024; omega, by show slots + 105 ≤ 7293033; omega⟩ (fun H locs G => ?_)
      refine lv_iload hx hb dL_law_733 (lv_at hl 1 rfl) ?_
      refine lv_icmp_eq (tgt := 740) hx hb dL_law_735 (by decide) (fun hc => ?_) (fun hc => ?_)
      · have hf := aw_ite_t hc hf
        refine lv_iload hx hb dL_law_740 (lv_at hl 1 rfl) ?_
        refine lv_if_ne (tgt := 764) hx hb dL_law_742 (by decide) (fun hc => ?_) (fun hc => ?_)
        · have hf := aw_ite_f hc hf
          refine lv_goto (tgt := 2257) hx hb dL_law_764 (by decide) ?_
          refine W.widen (k := cells + 4) (n := slots + 105) (by omega) (by omega) ?_
          exact hkb _ _ hf _ E _ _ _ (lv_sub hl [2, 3, 4, 5, 6] rfl) G
        · have hf := aw_ite_t hc hf
          refine lv_aload_n hx hb dL_law_745 rfl (lv_at hl 5 rfl) ?_
          refine lv_iconst (v := (0 : Int32)) hx hb dL_law_746 (by decide) ?_
          obtain ⟨hc_126, hf⟩ := aw_chk_some hf
          refine aw_lal hx hb G hc_126 dL_law_747 ?_
          refine lv_iload hx hb dL_law_748 (lv_at hl 0 rfl) ?_
          refine lv_if_eq (tgt := 757) hx hb dL_law_750 (by decide) (fun hc => ?_) (fun hc => ?_)
          · have hf := aw_ite_t hc hf
            refine lv_lconst (v := (0 : Int64)) hx hb dL_law_757 (by decide) ?_
            refine W.lcmp hx hb dL_law_758 ?_
            refine lv_if_eq (tgt := 764) hx hb dL_law_759 (by decide) (fun hc => ?_) (fun hc => ?_)
            · have hf := aw_ite_t hc hf
              refine lv_goto (tgt := 2257) hx hb dL_law_764 (by decide) ?_
              refine W.widen (k := cells + 4) (n := slots + 105) (by omega) (by omega) ?_
              exact hkb _ _ hf _ E _ _ _ (lv_sub hl [2, 3, 4, 5, 6] rfl) G
            · have hf := aw_ite_f hc hf
              refine lv_iconst (v := (0 : Int32)) hx hb dL_law_762 (by decide) ?_
              exact absurd (Option.some.inj hf) (by decide)
          · have hf := aw_ite_f hc hf
            refine lv_lconst (v := (1 : Int64)) hx hb dL_law_753 (by decide) ?_
            refine lv_goto (tgt := 758) hx hb dL_law_754 (by decide) ?_
            refine W.lcmp hx hb dL_law_758 ?_
            refine lv_if_eq (tgt := 764) hx hb dL_law_759 (by decide) (fun hc => ?_) (fun hc => ?_)
            · have hf := aw_ite_t hc hf
              refine lv_goto (tgt := 2257) hx hb dL_law_764 (by decide) ?_
              refine W.widen (k := cells + 4) (n := slots + 105) (by omega) (by omega) ?_
              exact hkb _ _ hf _ E _ _ _ (lv_sub hl [2, 3, 4, 5, 6] rfl) G
            · have hf := aw_ite_f hc hf
              refine lv_iconst (v := (0 : Int32)) hx hb dL_law_762 (by decide) ?_
              exact absurd (Option.some.inj hf) (by decide)
      · have hf := aw_ite_f hc hf
        refine lv_iconst (v := (0 : Int32)) hx hb dL_law_738 (by decide) ?_
        exact absurd (Option.some.inj hf) (by decide)
    · have hf := aw_ite_f hc hf
      refine lv_iconst (v := (1 : Int32)) hx hb dL_law_719 (by decide) ?_
      refine lv_goto (tgt := 724) hx hb dL_law_720 (by decide) ?_
      obtain ⟨hc_129, hf⟩ := aw_chk_some hf
      obtain ⟨z_127, hz_128, hf⟩ := aw_bind_some hf
      refine aw_VI (As := [.int (xs (x4 + ((1 : Int32))).toNatClampNeg), .int (xs (x4 + ((2 : Int32))).toNatClampNeg), .int ((1 : Int32))]) (rest := []) X G hl.1 cr_L_149 (c_X11_mark l hz_128) ⟨rfl, rfl⟩ rfl rfl rfl (by decide) hc_129 rfl ⟨Nat.le_of_ble_eq_true rfl, Nat.le_of_ble_eq_true rfl⟩ (Nat.le_of_ble_eq_true rfl) dL_law_724 ⟨by show cells + 4 ≤ 601024; omega, by show slots + 105 ≤ 7293033; omega⟩ (fun H locs G => ?_)
      refine lv_istore (lv' := [(6, .int z_127.1), (5, .int z_119.1), (0, .ref b), (1, .ref (ad x1)), (2, .ref (ad x2)), (3, .ref (ad x3)), (4, .int x4)]) hx hb dL_law_727 hl (by decide) rfl (fun ls hl => ?_)
      refine lv_aload_n hx hb dL_law_729 rfl (lv_at hl 4 rfl) ?_
      obtain ⟨z_130, hz_131, hf⟩ := aw_bind_some hf
      refine aw_VI (As := []) (rest := []) X G hl.1 cr_L_124 (c_X11_thrown l hz_131) ⟨rfl, rfl⟩ rfl rfl rfl (by decide) hc_129 rfl ⟨Nat.le_of_ble_eq_true rfl, Nat.le_of_ble_eq_true rfl⟩ (Nat.le_of_ble_eq_true rfl) dL_law_730 ⟨by show cells + 4 ≤ 601024; omega, by show slots + 105 ≤ 7293033; omega⟩ (fun H locs G => ?_)
      refine lv_iload hx hb dL_law_733 (lv_at hl 1 rfl) ?_
      refine lv_icmp_eq (tgt := 740) hx hb dL_law_735 (by decide) (fun hc => ?_) (fun hc => ?_)
      · have hf := aw_ite_t hc hf
        refine lv_iload hx hb dL_law_740 (lv_at hl 1 rfl) ?_
        refine lv_if_ne (tgt := 764) hx hb dL_law_742 (by decide) (fun hc => ?_) (fun hc => ?_)
        · have hf := aw_ite_f hc hf
          refine lv_goto (tgt := 2257) hx hb dL_law_764 (by decide) ?_
          refine W.widen (k := cells + 4) (n := slots + 105) (by omega) (by omega) ?_
          exact hkb _ _ hf _ E _ _ _ (lv_sub hl [2, 3, 4, 5, 6] rfl) G
        · have hf := aw_ite_t hc hf
          refine lv_aload_n hx hb dL_law_745 rfl (lv_at hl 5 rfl) ?_
          refine lv_iconst (v := (0 : Int32)) hx hb dL_law_746 (by decide) ?_
          obtain ⟨hc_132, hf⟩ := aw_chk_some hf
          refine aw_lal hx hb G hc_132 dL_law_747 ?_
          refine lv_iload hx hb dL_law_748 (lv_at hl 0 rfl) ?_
          refine lv_if_eq (tgt := 757) hx hb dL_law_750 (by decide) (fun hc => ?_) (fun hc => ?_)
          · have hf := aw_ite_t hc hf
            refine lv_lconst (v := (0 : Int64)) hx hb dL_law_757 (by decide) ?_
            refine W.lcmp hx hb dL_law_758 ?_
            refine lv_if_eq (tgt := 764) hx hb dL_law_759 (by decide) (fun hc => ?_) (fun hc => ?_)
            · have hf := aw_ite_t hc hf
              refine lv_goto (tgt := 2257) hx hb dL_law_764 (by decide) ?_
              refine W.widen (k := cells + 4) (n := slots + 105) (by omega) (by omega) ?_
              exact hkb _ _ hf _ E _ _ _ (lv_sub hl [2, 3, 4, 5, 6] rfl) G
            · have hf := aw_ite_f hc hf
              refine lv_iconst (v := (0 : Int32)) hx hb dL_law_762 (by decide) ?_
              exact absurd (Option.some.inj hf) (by decide)
          · have hf := aw_ite_f hc hf
            refine lv_lconst (v := (1 : Int64)) hx hb dL_law_753 (by decide) ?_
            refine lv_goto (tgt := 758) hx hb dL_law_754 (by decide) ?_
            refine W.lcmp hx hb dL_law_758 ?_
            refine lv_if_eq (tgt := 764) hx hb dL_law_759 (by decide) (fun hc => ?_) (fun hc => ?_)
            · have hf := aw_ite_t hc hf
              refine lv_goto (tgt := 2257) hx hb dL_law_764 (by decide) ?_
              refine W.widen (k := cells + 4) (n := slots + 105) (by omega) (by omega) ?_
              exact hkb _ _ hf _ E _ _ _ (lv_sub hl [2, 3, 4, 5, 6] rfl) G
            · have hf := aw_ite_f hc hf
              refine lv_iconst (v := (0 : Int32)) hx hb dL_law_762 (by decide) ?_
              exact absurd (Option.some.inj hf) (by decide)
      · have hf := aw_ite_f hc hf
        refine lv_iconst (v := (0 : Int32)) hx hb dL_law_738 (by decide) ?_
        exact absurd (Option.some.inj hf) (by decide)
  · have hf := aw_ite_f hc hf
    refine lv_iconst (v := (1 : Int32)) hx hb dL_law_686 (by decide) ?_
    refine lv_goto (tgt := 691) hx hb dL_law_687 (by decide) ?_
    refine lv_aload_n hx hb dL_law_691 rfl (lv_at hl 3 rfl) ?_
    obtain ⟨z_133, hz_134, hf⟩ := aw_bind_some hf
    refine aw_WI (As := [.ref (ad x1), .int (xs (x4 + ((1 : Int32))).toNatClampNeg), .int (xs (x4 + ((2 : Int32))).toNatClampNeg), .int ((1 : Int32)), .ref (ad x3)]) (rest := []) X G hl.1 cr_L_146 (c_L_mark l hst hz_134) rfl rfl rfl ⟨Nat.le_of_ble_eq_true rfl, Nat.le_of_ble_eq_true rfl⟩ (Nat.le_of_ble_eq_true rfl) dL_law_692 ⟨by show cells + 2 ≤ 601024; omega, by show slots + 12 ≤ 7293033; omega⟩ (fun H locs G => ?_)
    refine W.widen (k := cells + 4) (n := slots + 105) (by show cells + 2 ≤ cells + 4; omega) (by show slots + 12 ≤ slots + 105; omega) ?_
    refine lv_istore (lv' := [(5, .int z_133.1), (0, .ref b), (1, .ref (ad x1)), (2, .ref (ad x2)), (3, .ref (ad x3)), (4, .int x4)]) hx hb dL_law_695 hl (by decide) rfl (fun ls hl => ?_)
    refine lv_aload_n hx hb dL_law_697 rfl (lv_at hl 3 rfl) ?_
    refine lv_aload_n hx hb dL_law_698 rfl (lv_at hl 1 rfl) ?_
    refine lv_iload hx hb dL_law_699 (lv_at hl 5 rfl) ?_
    refine lv_iconst (v := (1 : Int32)) hx hb dL_law_701 (by decide) ?_
    refine lv_iadd hx hb dL_law_702 ?_
    refine va_sld hx hb hX hbl hbA G.2.2.2.2 hc_116 dL_law_703 ?_
    refine lv_aload_n hx hb dL_law_704 rfl (lv_at hl 1 rfl) ?_
    refine lv_iload hx hb dL_law_705 (lv_at hl 5 rfl) ?_
    refine lv_iconst (v := (2 : Int32)) hx hb dL_law_707 (by decide) ?_
    refine lv_iadd hx hb dL_law_708 ?_
    refine va_sld hx hb hX hbl hbA G.2.2.2.2 hc_117 dL_law_709 ?_
    refine lv_aload_n hx hb dL_law_710 rfl (lv_at hl 1 rfl) ?_
    refine lv_iload hx hb dL_law_711 (lv_at hl 5 rfl) ?_
    refine lv_iconst (v := (3 : Int32)) hx hb dL_law_713 (by decide) ?_
    refine lv_iadd hx hb dL_law_714 ?_
    refine va_sld hx hb hX hbl hbA G.2.2.2.2 hc_118 dL_law_715 ?_
    refine lv_if_eq (tgt := 723) hx hb dL_law_716 (by decide) (fun hc => ?_) (fun hc => ?_)
    · have hf := aw_ite_t hc hf
      refine lv_iconst (v := (0 : Int32)) hx hb dL_law_723 (by decide) ?_
      obtain ⟨hc_137, hf⟩ := aw_chk_some hf
      obtain ⟨z_135, hz_136, hf⟩ := aw_bind_some hf
      refine aw_VI (As := [.int (xs (x4 + ((1 : Int32))).toNatClampNeg), .int (xs (x4 + ((2 : Int32))).toNatClampNeg), .int ((0 : Int32))]) (rest := []) X G hl.1 cr_L_149 (c_X11_mark l hz_136) ⟨rfl, rfl⟩ rfl rfl rfl (by decide) hc_137 rfl ⟨Nat.le_of_ble_eq_true rfl, Nat.le_of_ble_eq_true rfl⟩ (Nat.le_of_ble_eq_true rfl) dL_law_724 ⟨by show cells + 4 ≤ 601024; omega, by show slots + 105 ≤ 7293033; omega⟩ (fun H locs G => ?_)
      refine lv_istore (lv' := [(6, .int z_135.1), (5, .int z_133.1), (0, .ref b), (1, .ref (ad x1)), (2, .ref (ad x2)), (3, .ref (ad x3)), (4, .int x4)]) hx hb dL_law_727 hl (by decide) rfl (fun ls hl => ?_)
      refine lv_aload_n hx hb dL_law_729 rfl (lv_at hl 4 rfl) ?_
      obtain ⟨z_138, hz_139, hf⟩ := aw_bind_some hf
      refine aw_VI (As := []) (rest := []) X G hl.1 cr_L_124 (c_X11_thrown l hz_139) ⟨rfl, rfl⟩ rfl rfl rfl (by decide) hc_137 rfl ⟨Nat.le_of_ble_eq_true rfl, Nat.le_of_ble_eq_true rfl⟩ (Nat.le_of_ble_eq_true rfl) dL_law_730 ⟨by show cells + 4 ≤ 601024; omega, by show slots + 105 ≤ 7293033; omega⟩ (fun H locs G => ?_)
      refine lv_iload hx hb dL_law_733 (lv_at hl 1 rfl) ?_
      refine lv_icmp_eq (tgt := 740) hx hb dL_law_735 (by decide) (fun hc => ?_) (fun hc => ?_)
      · have hf := aw_ite_t hc hf
        refine lv_iload hx hb dL_law_740 (lv_at hl 1 rfl) ?_
        refine lv_if_ne (tgt := 764) hx hb dL_law_742 (by decide) (fun hc => ?_) (fun hc => ?_)
        · have hf := aw_ite_f hc hf
          refine lv_goto (tgt := 2257) hx hb dL_law_764 (by decide) ?_
          refine W.widen (k := cells + 4) (n := slots + 105) (by omega) (by omega) ?_
          exact hkb _ _ hf _ E _ _ _ (lv_sub hl [2, 3, 4, 5, 6] rfl) G
        · have hf := aw_ite_t hc hf
          refine lv_aload_n hx hb dL_law_745 rfl (lv_at hl 5 rfl) ?_
          refine lv_iconst (v := (0 : Int32)) hx hb dL_law_746 (by decide) ?_
          obtain ⟨hc_140, hf⟩ := aw_chk_some hf
          refine aw_lal hx hb G hc_140 dL_law_747 ?_
          refine lv_iload hx hb dL_law_748 (lv_at hl 0 rfl) ?_
          refine lv_if_eq (tgt := 757) hx hb dL_law_750 (by decide) (fun hc => ?_) (fun hc => ?_)
          · have hf := aw_ite_t hc hf
            refine lv_lconst (v := (0 : Int64)) hx hb dL_law_757 (by decide) ?_
            refine W.lcmp hx hb dL_law_758 ?_
            refine lv_if_eq (tgt := 764) hx hb dL_law_759 (by decide) (fun hc => ?_) (fun hc => ?_)
            · have hf := aw_ite_t hc hf
              refine lv_goto (tgt := 2257) hx hb dL_law_764 (by decide) ?_
              refine W.widen (k := cells + 4) (n := slots + 105) (by omega) (by omega) ?_
              exact hkb _ _ hf _ E _ _ _ (lv_sub hl [2, 3, 4, 5, 6] rfl) G
            · have hf := aw_ite_f hc hf
              refine lv_iconst (v := (0 : Int32)) hx hb dL_law_762 (by decide) ?_
              exact absurd (Option.some.inj hf) (by decide)
          · have hf := aw_ite_f hc hf
            refine lv_lconst (v := (1 : Int64)) hx hb dL_law_753 (by decide) ?_
            refine lv_goto (tgt := 758) hx hb dL_law_754 (by decide) ?_
            refine W.lcmp hx hb dL_law_758 ?_
            refine lv_if_eq (tgt := 764) hx hb dL_law_759 (by decide) (fun hc => ?_) (fun hc => ?_)
            · have hf := aw_ite_t hc hf
              refine lv_goto (tgt := 2257) hx hb dL_law_764 (by decide) ?_
              refine W.widen (k := cells + 4) (n := slots + 105) (by omega) (by omega) ?_
              exact hkb _ _ hf _ E _ _ _ (lv_sub hl [2, 3, 4, 5, 6] rfl) G
            · have hf := aw_ite_f hc hf
              refine lv_iconst (v := (0 : Int32)) hx hb dL_law_762 (by decide) ?_
              exact absurd (Option.some.inj hf) (by decide)
      · have hf := aw_ite_f hc hf
        refine lv_iconst (v := (0 : Int32)) hx hb dL_law_738 (by decide) ?_
        exact absurd (Option.some.inj hf) (by decide)
    · have hf := aw_ite_f hc hf
      refine lv_iconst (v := (1 : Int32)) hx hb dL_law_719 (by decide) ?_
      refine lv_goto (tgt := 724) hx hb dL_law_720 (by decide) ?_
      obtain ⟨hc_143, hf⟩ := aw_chk_some hf
      obtain ⟨z_141, hz_142, hf⟩ := aw_bind_some hf
      refine aw_VI (As := [.int (xs (x4 + ((1 : Int32))).toNatClampNeg), .int (xs (x4 + ((2 : Int32))).toNatClampNeg), .int ((1 : Int32))]) (rest := []) X G hl.1 cr_L_149 (c_X11_mark l hz_142) ⟨rfl, rfl⟩ rfl rfl rfl (by decide) hc_143 rfl ⟨Nat.le_of_ble_eq_true rfl, Nat.le_of_ble_eq_true rfl⟩ (Nat.le_of_ble_eq_true rfl) dL_law_724 ⟨by show cells + 4 ≤ 601024; omega, by show slots + 105 ≤ 7293033; omega⟩ (fun H locs G => ?_)
      refine lv_istore (lv' := [(6, .int z_141.1), (5, .int z_133.1), (0, .ref b), (1, .ref (ad x1)), (2, .ref (ad x2)), (3, .ref (ad x3)), (4, .int x4)]) hx hb dL_law_727 hl (by decide) rfl (fun ls hl => ?_)
      refine lv_aload_n hx hb dL_law_729 rfl (lv_at hl 4 rfl) ?_
      obtain ⟨z_144, hz_145, hf⟩ := aw_bind_some hf
      refine aw_VI (As := []) (rest := []) X G hl.1 cr_L_124 (c_X11_thrown l hz_145) ⟨rfl, rfl⟩ rfl rfl rfl (by decide) hc_143 rfl ⟨Nat.le_of_ble_eq_true rfl, Nat.le_of_ble_eq_true rfl⟩ (Nat.le_of_ble_eq_true rfl) dL_law_730 ⟨by show cells + 4 ≤ 601024; omega, by show slots + 105 ≤ 7293033; omega⟩ (fun H locs G => ?_)
      refine lv_iload hx hb dL_law_733 (lv_at hl 1 rfl) ?_
      refine lv_icmp_eq (tgt := 740) hx hb dL_law_735 (by decide) (fun hc => ?_) (fun hc => ?_)
      · have hf := aw_ite_t hc hf
        refine lv_iload hx hb dL_law_740 (lv_at hl 1 rfl) ?_
        refine lv_if_ne (tgt := 764) hx hb dL_law_742 (by decide) (fun hc => ?_) (fun hc => ?_)
        · have hf := aw_ite_f hc hf
          refine lv_goto (tgt := 2257) hx hb dL_law_764 (by decide) ?_
          refine W.widen (k := cells + 4) (n := slots + 105) (by omega) (by omega) ?_
          exact hkb _ _ hf _ E _ _ _ (lv_sub hl [2, 3, 4, 5, 6] rfl) G
        · have hf := aw_ite_t hc hf
          refine lv_aload_n hx hb dL_law_745 rfl (lv_at hl 5 rfl) ?_
          refine lv_iconst (v := (0 : Int32)) hx hb dL_law_746 (by decide) ?_
          obtain ⟨hc_146, hf⟩ := aw_chk_some hf
          refine aw_lal hx hb G hc_146 dL_law_747 ?_
          refine lv_iload hx hb dL_law_748 (lv_at hl 0 rfl) ?_
          refine lv_if_eq (tgt := 757) hx hb dL_law_750 (by decide) (fun hc => ?_) (fun hc => ?_)
          · have hf := aw_ite_t hc hf
            refine lv_lconst (v := (0 : Int64)) hx hb dL_law_757 (by decide) ?_
            refine W.lcmp hx hb dL_law_758 ?_
            refine lv_if_eq (tgt := 764) hx hb dL_law_759 (by decide) (fun hc => ?_) (fun hc => ?_)
            · have hf := aw_ite_t hc hf
              refine lv_goto (tgt := 2257) hx hb dL_law_764 (by decide) ?_
              refine W.widen (k := cells + 4) (n := slots + 105) (by omega) (by omega) ?_
              exact hkb _ _ hf _ E _ _ _ (lv_sub hl [2, 3, 4, 5, 6] rfl) G
            · have hf := aw_ite_f hc hf
              refine lv_iconst (v := (0 : Int32)) hx hb dL_law_762 (by decide) ?_
              exact absurd (Option.some.inj hf) (by decide)
          · have hf := aw_ite_f hc hf
            refine lv_lconst (v := (1 : Int64)) hx hb dL_law_753 (by decide) ?_
            refine lv_goto (tgt := 758) hx hb dL_law_754 (by decide) ?_
            refine W.lcmp hx hb dL_law_758 ?_
            refine lv_if_eq (tgt := 764) hx hb dL_law_759 (by decide) (fun hc => ?_) (fun hc => ?_)
            · have hf := aw_ite_t hc hf
              refine lv_goto (tgt := 2257) hx hb dL_law_764 (by decide) ?_
              refine W.widen (k := cells + 4) (n := slots + 105) (by omega) (by omega) ?_
              exact hkb _ _ hf _ E _ _ _ (lv_sub hl [2, 3, 4, 5, 6] rfl) G
            · have hf := aw_ite_f hc hf
              refine lv_iconst (v := (0 : Int32)) hx hb dL_law_762 (by decide) ?_
              exact absurd (Option.some.inj hf) (by decide)
      · have hf := aw_ite_f hc hf
        refine lv_iconst (v := (0 : Int32)) hx hb dL_law_738 (by decide) ?_
        exact absurd (Option.some.inj hf) (by decide)
set_option maxHeartbeats 4000000 in
set_option maxRecDepth 100000 in
theorem w_law_C7 (hst : l.stackTraces = false) (X : aw_X p c cL_law 8 s RL m meth ret) {b L : Nat} {xs : Nat → Int32} (hX : va_X b L xs s s.heap) (hbl : b < s.heap.size) {kb : Sg → Dt → Option Int32} {x1 x2 x3 : Nat} {x4 : Int32} {σ : Sg} {d : Dt} {ad : Nat → Nat} (hf : f_law_C7 xs L kb x1 x2 x3 x4 σ d = some 1) {cells slots : Nat} (hrc : cells + 4 ≤ 601024) (hrs : slots + 105 ≤ 7293033) (hkb : ∀ (σ : Sg) (d : Dt), kb σ d = some 1 → ∀ (ad : Nat → Nat), aw_ext σ0 ad0 σ ad → ∀ (H : Heap) (locs : List Loc) (ls : Array Slot), lv_has ls 8 [(0, .ref b), (1, .ref (ad x1)), (2, .ref (ad x2)), (3, .ref (ad x3)), (4, .int x4)] → aw_G D cA s.heap.size ad σ d s H locs → W p l e room_1 s m #[Value.ref b] below meth c H locs (cells + 4) (slots + 105) (lw_Z below #[Value.ref b] s) (F0 m 2257 ls [])) (E : aw_ext σ0 ad0 σ ad) {H : Heap} {locs : List Loc} {ls : Array Slot} (hl : lv_has ls 8 [(0, .ref b), (1, .ref (ad x1)), (2, .ref (ad x2)), (3, .ref (ad x3)), (4, .int x4)]) (G : aw_G D cA s.heap.size ad σ d s H locs) : W p l e room_1 s m #[Value.ref b] below meth c H locs cells slots (lw_Z below #[Value.ref b] s) (F0 m 767 ls []) := by
  have hx := X.1; have hb := X.2.1; have hml := X.2.2.1; have hown := X.2.2.2.1
  have hbA : ¬ (fun q => s.heap.size ≤ q) b := Nat.not_le.mpr hbl
  unfold f_law_C7 at hf
  refine lv_aload_n hx hb dL_law_767 rfl (lv_at hl 1 rfl) ?_
  refine lv_aload_n hx hb dL_law_768 rfl (lv_at hl 0 rfl) ?_
  refine lv_iload hx hb dL_law_769 (lv_at hl 4 rfl) ?_
  refine lv_iconst (v := (1 : Int32)) hx hb dL_law_771 (by decide) ?_
  refine lv_iadd hx hb dL_law_772 ?_
  obtain ⟨hc_147, hf⟩ := aw_chk_some hf
  refine va_sld hx hb hX hbl hbA G.2.2.2.2 hc_147 dL_law_773 ?_
  refine lv_aload_n hx hb dL_law_774 rfl (lv_at hl 0 rfl) ?_
  refine lv_iload hx hb dL_law_775 (lv_at hl 4 rfl) ?_
  refine lv_iconst (v := (2 : Int32)) hx hb dL_law_777 (by decide) ?_
  refine lv_iadd hx hb dL_law_778 ?_
  obtain ⟨hc_148, hf⟩ := aw_chk_some hf
  refine va_sld hx hb hX hbl hbA G.2.2.2.2 hc_148 dL_law_779 ?_
  refine lv_aload_n hx hb dL_law_780 rfl (lv_at hl 0 rfl) ?_
  refine lv_iload hx hb dL_law_781 (lv_at hl 4 rfl) ?_
  refine lv_iconst (v := (3 : Int32)) hx hb dL_law_783 (by decide) ?_
  refine lv_iadd hx hb dL_law_784 ?_
  obtain ⟨hc_149, hf⟩ := aw_chk_some hf
  refine va_sld hx hb hX hbl hbA G.2.2.2.2 hc_149 dL_law_785 ?_
  refine lv_aload_n hx hb dL_law_786 rfl (lv_at hl 3 rfl) ?_
  obtain ⟨z_150, hz_151, hf⟩ := aw_bind_some hf
  refine aw_WI (As := [.ref (ad x1), .int (xs (x4 + ((1 : Int32))).toNatClampNeg), .int (xs (x4 + ((2 : Int32))).toNatClampNeg), .int (xs (x4 + ((3 : Int32))).toNatClampNeg), .ref (ad x3)]) (rest := []) X G hl.1 cr_L_150 (c_L_spelled l hst hz_151) rfl rfl rfl ⟨Nat.le_of_ble_eq_true rfl, Nat.le_of_ble_eq_true rfl⟩ (Nat.le_of_ble_eq_true rfl) dL_law_787 ⟨by show cells + 3 ≤ 601024; omega, by show slots + 18 ≤ 7293033; omega⟩ (fun H locs G => ?_)
  refine W.widen (k := cells + 4) (n := slots + 105) (by show cells + 3 ≤ cells + 4; omega) (by show slots + 18 ≤ slots + 105; omega) ?_
  refine lv_istore (lv' := [(5, .int z_150.1), (0, .ref b), (1, .ref (ad x1)), (2, .ref (ad x2)), (3, .ref (ad x3)), (4, .int x4)]) hx hb dL_law_790 hl (by decide) rfl (fun ls hl => ?_)
  refine lv_aload_n hx hb dL_law_792 rfl (lv_at hl 3 rfl) ?_
  refine lv_aload_n hx hb dL_law_793 rfl (lv_at hl 1 rfl) ?_
  refine lv_iload hx hb dL_law_794 (lv_at hl 5 rfl) ?_
  refine lv_iconst (v := (1 : Int32)) hx hb dL_law_796 (by decide) ?_
  refine lv_iadd hx hb dL_law_797 ?_
  refine va_sld hx hb hX hbl hbA G.2.2.2.2 hc_147 dL_law_798 ?_
  refine lv_aload_n hx hb dL_law_799 rfl (lv_at hl 1 rfl) ?_
  refine lv_iload hx hb dL_law_800 (lv_at hl 5 rfl) ?_
  refine lv_iconst (v := (2 : Int32)) hx hb dL_law_802 (by decide) ?_
  refine lv_iadd hx hb dL_law_803 ?_
  refine va_sld hx hb hX hbl hbA G.2.2.2.2 hc_148 dL_law_804 ?_
  refine lv_aload_n hx hb dL_law_805 rfl (lv_at hl 1 rfl) ?_
  refine lv_iload hx hb dL_law_806 (lv_at hl 5 rfl) ?_
  refine lv_iconst (v := (3 : Int32)) hx hb dL_law_808 (by decide) ?_
  refine lv_iadd hx hb dL_law_809 ?_
  refine va_sld hx hb hX hbl hbA G.2.2.2.2 hc_149 dL_law_810 ?_
  obtain ⟨hc_154, hf⟩ := aw_chk_some hf
  obtain ⟨z_152, hz_153, hf⟩ := aw_bind_some hf
  refine aw_VI (As := [.int (xs (x4 + ((1 : Int32))).toNatClampNeg), .int (xs (x4 + ((2 : Int32))).toNatClampNeg), .int (xs (x4 + ((3 : Int32))).toNatClampNeg)]) (rest := []) X G hl.1 cr_L_152 (c_X11_spelled l hz_153) ⟨rfl, rfl⟩ rfl rfl rfl (by decide) hc_154 rfl ⟨Nat.le_of_ble_eq_true rfl, Nat.le_of_ble_eq_true rfl⟩ (Nat.le_of_ble_eq_true rfl) dL_law_811 ⟨by show cells + 4 ≤ 601024; omega, by show slots + 105 ≤ 7293033; omega⟩ (fun H locs G => ?_)
  refine lv_istore (lv' := [(6, .int z_152.1), (5, .int z_150.1), (0, .ref b), (1, .ref (ad x1)), (2, .ref (ad x2)), (3, .ref (ad x3)), (4, .int x4)]) hx hb dL_law_814 hl (by decide) rfl (fun ls hl => ?_)
  refine lv_aload_n hx hb dL_law_816 rfl (lv_at hl 4 rfl) ?_
  obtain ⟨z_155, hz_156, hf⟩ := aw_bind_some hf
  refine aw_VI (As := []) (rest := []) X G hl.1 cr_L_124 (c_X11_thrown l hz_156) ⟨rfl, rfl⟩ rfl rfl rfl (by decide) hc_154 rfl ⟨Nat.le_of_ble_eq_true rfl, Nat.le_of_ble_eq_true rfl⟩ (Nat.le_of_ble_eq_true rfl) dL_law_817 ⟨by show cells + 4 ≤ 601024; omega, by show slots + 105 ≤ 7293033; omega⟩ (fun H locs G => ?_)
  refine lv_iload hx hb dL_law_820 (lv_at hl 1 rfl) ?_
  refine lv_icmp_eq (tgt := 827) hx hb dL_law_822 (by decide) (fun hc => ?_) (fun hc => ?_)
  · have hf := aw_ite_t hc hf
    refine lv_iload hx hb dL_law_827 (lv_at hl 1 rfl) ?_
    refine lv_if_ne (tgt := 844) hx hb dL_law_829 (by decide) (fun hc => ?_) (fun hc => ?_)
    · have hf := aw_ite_f hc hf
      refine lv_goto (tgt := 2257) hx hb dL_law_844 (by decide) ?_
      refine W.widen (k := cells + 4) (n := slots + 105) (by omega) (by omega) ?_
      exact hkb _ _ hf _ E _ _ _ (lv_sub hl [2, 3, 4, 5, 6] rfl) G
    · have hf := aw_ite_t hc hf
      refine lv_aload_n hx hb dL_law_832 rfl (lv_at hl 5 rfl) ?_
      refine lv_iconst (v := (0 : Int32)) hx hb dL_law_833 (by decide) ?_
      obtain ⟨hc_157, hf⟩ := aw_chk_some hf
      refine aw_lal hx hb G hc_157 dL_law_834 ?_
      refine lv_iload hx hb dL_law_835 (lv_at hl 0 rfl) ?_
      refine lv_i2l hx hb dL_law_837 rfl ?_
      refine W.lcmp hx hb dL_law_838 ?_
      refine lv_if_eq (tgt := 844) hx hb dL_law_839 (by decide) (fun hc => ?_) (fun hc => ?_)
      · have hf := aw_ite_t hc hf
        refine lv_goto (tgt := 2257) hx hb dL_law_844 (by decide) ?_
        refine W.widen (k := cells + 4) (n := slots + 105) (by omega) (by omega) ?_
        exact hkb _ _ hf _ E _ _ _ (lv_sub hl [2, 3, 4, 5, 6] rfl) G
      · have hf := aw_ite_f hc hf
        refine lv_iconst (v := (0 : Int32)) hx hb dL_law_842 (by decide) ?_
        exact absurd (Option.some.inj hf) (by decide)
  · have hf := aw_ite_f hc hf
    refine lv_iconst (v := (0 : Int32)) hx hb dL_law_825 (by decide) ?_
    exact absurd (Option.some.inj hf) (by decide)
set_option maxHeartbeats 4000000 in
set_option maxRecDepth 100000 in
theorem w_law_C8 (hst : l.stackTraces = false) (X : aw_X p c cL_law 8 s RL m meth ret) {b L : Nat} {xs : Nat → Int32} (hX : va_X b L xs s s.heap) (hbl : b < s.heap.size) {kb : Sg → Dt → Option Int32} {x1 x2 x3 : Nat} {x4 : Int32} {σ : Sg} {d : Dt} {ad : Nat → Nat} (hf : f_law_C8 xs L kb x1 x2 x3 x4 σ d = some 1) {cells slots : Nat} (hrc : cells + 4 ≤ 601024) (hrs : slots + 105 ≤ 7293033) (hkb : ∀ (σ : Sg) (d : Dt), kb σ d = some 1 → ∀ (ad : Nat → Nat), aw_ext σ0 ad0 σ ad → ∀ (H : Heap) (locs : List Loc) (ls : Array Slot), lv_has ls 8 [(0, .ref b), (1, .ref (ad x1)), (2, .ref (ad x2)), (3, .ref (ad x3)), (4, .int x4)] → aw_G D cA s.heap.size ad σ d s H locs → W p l e room_1 s m #[Value.ref b] below meth c H locs (cells + 4) (slots + 105) (lw_Z below #[Value.ref b] s) (F0 m 2257 ls [])) (E : aw_ext σ0 ad0 σ ad) {H : Heap} {locs : List Loc} {ls : Array Slot} (hl : lv_has ls 8 [(0, .ref b), (1, .ref (ad x1)), (2, .ref (ad x2)), (3, .ref (ad x3)), (4, .int x4)]) (G : aw_G D cA s.heap.size ad σ d s H locs) : W p l e room_1 s m #[Value.ref b] below meth c H locs cells slots (lw_Z below #[Value.ref b] s) (F0 m 847 ls []) := by
  have hx := X.1; have hb := X.2.1; have hml := X.2.2.1; have hown := X.2.2.2.1
  have hbA : ¬ (fun q => s.heap.size ≤ q) b := Nat.not_le.mpr hbl
  unfold f_law_C8 at hf
  refine lv_aload_n hx hb dL_law_847 rfl (lv_at hl 1 rfl) ?_
  refine lv_aload_n hx hb dL_law_848 rfl (lv_at hl 0 rfl) ?_
  refine lv_iload hx hb dL_law_849 (lv_at hl 4 rfl) ?_
  refine lv_iconst (v := (1 : Int32)) hx hb dL_law_851 (by decide) ?_
  refine lv_iadd hx hb dL_law_852 ?_
  obtain ⟨hc_158, hf⟩ := aw_chk_some hf
  refine va_sld hx hb hX hbl hbA G.2.2.2.2 hc_158 dL_law_853 ?_
  refine lv_aload_n hx hb dL_law_854 rfl (lv_at hl 3 rfl) ?_
  obtain ⟨z_159, hz_160, hf⟩ := aw_bind_some hf
  refine aw_WI (As := [.ref (ad x1), .int (xs (x4 + ((1 : Int32))).toNatClampNeg), .ref (ad x3)]) (rest := []) X G hl.1 cr_L_153 (c_L_doubts l hst hz_160) rfl rfl rfl ⟨Nat.le_of_ble_eq_true rfl, Nat.le_of_ble_eq_true rfl⟩ (Nat.le_of_ble_eq_true rfl) dL_law_855 ⟨by show cells + 1 ≤ 601024; omega, by show slots + 6 ≤ 7293033; omega⟩ (fun H locs G => ?_)
  refine W.widen (k := cells + 4) (n := slots + 105) (by show cells + 1 ≤ cells + 4; omega) (by show slots + 6 ≤ slots + 105; omega) ?_
  refine lv_istore (lv' := [(5, .int z_159.1), (0, .ref b), (1, .ref (ad x1)), (2, .ref (ad x2)), (3, .ref (ad x3)), (4, .int x4)]) hx hb dL_law_858 hl (by decide) rfl (fun ls hl => ?_)
  refine lv_aload_n hx hb dL_law_860 rfl (lv_at hl 3 rfl) ?_
  refine lv_aload_n hx hb dL_law_861 rfl (lv_at hl 1 rfl) ?_
  refine lv_iload hx hb dL_law_862 (lv_at hl 5 rfl) ?_
  refine lv_iconst (v := (1 : Int32)) hx hb dL_law_864 (by decide) ?_
  refine lv_iadd hx hb dL_law_865 ?_
  refine va_sld hx hb hX hbl hbA G.2.2.2.2 hc_158 dL_law_866 ?_
  obtain ⟨hc_163, hf⟩ := aw_chk_some hf
  obtain ⟨z_161, hz_162, hf⟩ := aw_bind_some hf
  refine aw_VI (As := [.int (xs (x4 + ((1 : Int32))).toNatClampNeg)]) (rest := []) X G hl.1 cr_L_155 (c_X11_doubts l hz_162) ⟨rfl, rfl⟩ rfl rfl rfl (by decide) hc_163 rfl ⟨Nat.le_of_ble_eq_true rfl, Nat.le_of_ble_eq_true rfl⟩ (Nat.le_of_ble_eq_true rfl) dL_law_867 ⟨by show cells + 4 ≤ 601024; omega, by show slots + 105 ≤ 7293033; omega⟩ (fun H locs G => ?_)
  refine lv_istore (lv' := [(6, .int z_161.1), (5, .int z_159.1), (0, .ref b), (1, .ref (ad x1)), (2, .ref (ad x2)), (3, .ref (ad x3)), (4, .int x4)]) hx hb dL_law_870 hl (by decide) rfl (fun ls hl => ?_)
  refine lv_aload_n hx hb dL_law_872 rfl (lv_at hl 4 rfl) ?_
  obtain ⟨z_164, hz_165, hf⟩ := aw_bind_some hf
  refine aw_VI (As := []) (rest := []) X G hl.1 cr_L_124 (c_X11_thrown l hz_165) ⟨rfl, rfl⟩ rfl rfl rfl (by decide) hc_163 rfl ⟨Nat.le_of_ble_eq_true rfl, Nat.le_of_ble_eq_true rfl⟩ (Nat.le_of_ble_eq_true rfl) dL_law_873 ⟨by show cells + 4 ≤ 601024; omega, by show slots + 105 ≤ 7293033; omega⟩ (fun H locs G => ?_)
  refine lv_iload hx hb dL_law_876 (lv_at hl 1 rfl) ?_
  refine lv_icmp_eq (tgt := 883) hx hb dL_law_878 (by decide) (fun hc => ?_) (fun hc => ?_)
  · have hf := aw_ite_t hc hf
    refine lv_iload hx hb dL_law_883 (lv_at hl 1 rfl) ?_
    refine lv_if_ne (tgt := 900) hx hb dL_law_885 (by decide) (fun hc => ?_) (fun hc => ?_)
    · have hf := aw_ite_f hc hf
      refine lv_goto (tgt := 2257) hx hb dL_law_900 (by decide) ?_
      refine W.widen (k := cells + 4) (n := slots + 105) (by omega) (by omega) ?_
      exact hkb _ _ hf _ E _ _ _ (lv_sub hl [2, 3, 4, 5, 6] rfl) G
    · have hf := aw_ite_t hc hf
      refine lv_aload_n hx hb dL_law_888 rfl (lv_at hl 5 rfl) ?_
      refine lv_iconst (v := (0 : Int32)) hx hb dL_law_889 (by decide) ?_
      obtain ⟨hc_166, hf⟩ := aw_chk_some hf
      refine aw_lal hx hb G hc_166 dL_law_890 ?_
      refine lv_iload hx hb dL_law_891 (lv_at hl 0 rfl) ?_
      refine lv_i2l hx hb dL_law_893 rfl ?_
      refine W.lcmp hx hb dL_law_894 ?_
      refine lv_if_eq (tgt := 900) hx hb dL_law_895 (by decide) (fun hc => ?_) (fun hc => ?_)
      · have hf := aw_ite_t hc hf
        refine lv_goto (tgt := 2257) hx hb dL_law_900 (by decide) ?_
        refine W.widen (k := cells + 4) (n := slots + 105) (by omega) (by omega) ?_
        exact hkb _ _ hf _ E _ _ _ (lv_sub hl [2, 3, 4, 5, 6] rfl) G
      · have hf := aw_ite_f hc hf
        refine lv_iconst (v := (0 : Int32)) hx hb dL_law_898 (by decide) ?_
        exact absurd (Option.some.inj hf) (by decide)
  · have hf := aw_ite_f hc hf
    refine lv_iconst (v := (0 : Int32)) hx hb dL_law_881 (by decide) ?_
    exact absurd (Option.some.inj hf) (by decide)
set_option maxHeartbeats 4000000 in
set_option maxRecDepth 100000 in
theorem w_law_C9 (hst : l.stackTraces = false) (X : aw_X p c cL_law 8 s RL m meth ret) {b L : Nat} {xs : Nat → Int32} (hX : va_X b L xs s s.heap) (hbl : b < s.heap.size) {kb : Sg → Dt → Option Int32} {x1 x2 x3 : Nat} {x4 : Int32} {σ : Sg} {d : Dt} {ad : Nat → Nat} (hf : f_law_C9 xs L kb x1 x2 x3 x4 σ d = some 1) {cells slots : Nat} (hrc : cells + 4 ≤ 601024) (hrs : slots + 105 ≤ 7293033) (hkb : ∀ (σ : Sg) (d : Dt), kb σ d = some 1 → ∀ (ad : Nat → Nat), aw_ext σ0 ad0 σ ad → ∀ (H : Heap) (locs : List Loc) (ls : Array Slot), lv_has ls 8 [(0, .ref b), (1, .ref (ad x1)), (2, .ref (ad x2)), (3, .ref (ad x3)), (4, .int x4)] → aw_G D cA s.heap.size ad σ d s H locs → W p l e room_1 s m #[Value.ref b] below meth c H locs (cells + 4) (slots + 105) (lw_Z below #[Value.ref b] s) (F0 m 2257 ls [])) (E : aw_ext σ0 ad0 σ ad) {H : Heap} {locs : List Loc} {ls : Array Slot} (hl : lv_has ls 8 [(0, .ref b), (1, .ref (ad x1)), (2, .ref (ad x2)), (3, .ref (ad x3)), (4, .int x4)]) (G : aw_G D cA s.heap.size ad σ d s H locs) : W p l e room_1 s m #[Value.ref b] below meth c H locs cells slots (lw_Z below #[Value.ref b] s) (F0 m 903 ls []) := by
  have hx := X.1; have hb := X.2.1; have hml := X.2.2.1; have hown := X.2.2.2.1
  have hbA : ¬ (fun q => s.heap.size ≤ q) b := Nat.not_le.mpr hbl
  unfold f_law_C9 at hf
  refine lv_aload_n hx hb dL_law_903 rfl (lv_at hl 1 rfl) ?_
  refine lv_aload_n hx hb dL_law_904 rfl (lv_at hl 0 rfl) ?_
  refine lv_iload hx hb dL_law_905 (lv_at hl 4 rfl) ?_
  refine lv_iconst (v := (1 : Int32)) hx hb dL_law_907 (by decide) ?_
  refine lv_iadd hx hb dL_law_908 ?_
  obtain ⟨hc_167, hf⟩ := aw_chk_some hf
  refine va_sld hx hb hX hbl hbA G.2.2.2.2 hc_167 dL_law_909 ?_
  refine lv_aload_n hx hb dL_law_910 rfl (lv_at hl 3 rfl) ?_
  obtain ⟨z_168, hz_169, hf⟩ := aw_bind_some hf
  refine aw_WI (As := [.ref (ad x1), .int (xs (x4 + ((1 : Int32))).toNatClampNeg), .ref (ad x3)]) (rest := []) X G hl.1 cr_L_156 (c_L_load l hst hz_169) rfl rfl rfl ⟨Nat.le_of_ble_eq_true rfl, Nat.le_of_ble_eq_true rfl⟩ (Nat.le_of_ble_eq_true rfl) dL_law_911 ⟨by show cells + 1 ≤ 601024; omega, by show slots + 6 ≤ 7293033; omega⟩ (fun H locs G => ?_)
  refine W.widen (k := cells + 4) (n := slots + 105) (by show cells + 1 ≤ cells + 4; omega) (by show slots + 6 ≤ slots + 105; omega) ?_
  refine lv_istore (lv' := [(5, .int z_168.1), (0, .ref b), (1, .ref (ad x1)), (2, .ref (ad x2)), (3, .ref (ad x3)), (4, .int x4)]) hx hb dL_law_914 hl (by decide) rfl (fun ls hl => ?_)
  refine lv_aload_n hx hb dL_law_916 rfl (lv_at hl 3 rfl) ?_
  refine lv_aload_n hx hb dL_law_917 rfl (lv_at hl 1 rfl) ?_
  refine lv_iload hx hb dL_law_918 (lv_at hl 5 rfl) ?_
  refine lv_iconst (v := (1 : Int32)) hx hb dL_law_920 (by decide) ?_
  refine lv_iadd hx hb dL_law_921 ?_
  refine va_sld hx hb hX hbl hbA G.2.2.2.2 hc_167 dL_law_922 ?_
  obtain ⟨hc_172, hf⟩ := aw_chk_some hf
  obtain ⟨z_170, hz_171, hf⟩ := aw_bind_some hf
  refine aw_VI (As := [.int (xs (x4 + ((1 : Int32))).toNatClampNeg)]) (rest := []) X G hl.1 cr_L_158 (c_X11_load l hz_171) ⟨rfl, rfl⟩ rfl rfl rfl (by decide) hc_172 rfl ⟨Nat.le_of_ble_eq_true rfl, Nat.le_of_ble_eq_true rfl⟩ (Nat.le_of_ble_eq_true rfl) dL_law_923 ⟨by show cells + 4 ≤ 601024; omega, by show slots + 105 ≤ 7293033; omega⟩ (fun H locs G => ?_)
  refine lv_istore (lv' := [(6, .int z_170.1), (5, .int z_168.1), (0, .ref b), (1, .ref (ad x1)), (2, .ref (ad x2)), (3, .ref (ad x3)), (4, .int x4)]) hx hb dL_law_926 hl (by decide) rfl (fun ls hl => ?_)
  refine lv_aload_n hx hb dL_law_928 rfl (lv_at hl 4 rfl) ?_
  obtain ⟨z_173, hz_174, hf⟩ := aw_bind_some hf
  refine aw_VI (As := []) (rest := []) X G hl.1 cr_L_124 (c_X11_thrown l hz_174) ⟨rfl, rfl⟩ rfl rfl rfl (by decide) hc_172 rfl ⟨Nat.le_of_ble_eq_true rfl, Nat.le_of_ble_eq_true rfl⟩ (Nat.le_of_ble_eq_true rfl) dL_law_929 ⟨by show cells + 4 ≤ 601024; omega, by show slots + 105 ≤ 7293033; omega⟩ (fun H locs G => ?_)
  refine lv_iload hx hb dL_law_932 (lv_at hl 1 rfl) ?_
  refine lv_icmp_eq (tgt := 939) hx hb dL_law_934 (by decide) (fun hc => ?_) (fun hc => ?_)
  · have hf := aw_ite_t hc hf
    refine lv_iload hx hb dL_law_939 (lv_at hl 1 rfl) ?_
    refine lv_if_ne (tgt := 956) hx hb dL_law_941 (by decide) (fun hc => ?_) (fun hc => ?_)
    · have hf := aw_ite_f hc hf
      refine lv_goto (tgt := 2257) hx hb dL_law_956 (by decide) ?_
      refine W.widen (k := cells + 4) (n := slots + 105) (by omega) (by omega) ?_
      exact hkb _ _ hf _ E _ _ _ (lv_sub hl [2, 3, 4, 5, 6] rfl) G
    · have hf := aw_ite_t hc hf
      refine lv_aload_n hx hb dL_law_944 rfl (lv_at hl 5 rfl) ?_
      refine lv_iconst (v := (0 : Int32)) hx hb dL_law_945 (by decide) ?_
      obtain ⟨hc_175, hf⟩ := aw_chk_some hf
      refine aw_lal hx hb G hc_175 dL_law_946 ?_
      refine lv_iload hx hb dL_law_947 (lv_at hl 0 rfl) ?_
      refine lv_i2l hx hb dL_law_949 rfl ?_
      refine W.lcmp hx hb dL_law_950 ?_
      refine lv_if_eq (tgt := 956) hx hb dL_law_951 (by decide) (fun hc => ?_) (fun hc => ?_)
      · have hf := aw_ite_t hc hf
        refine lv_goto (tgt := 2257) hx hb dL_law_956 (by decide) ?_
        refine W.widen (k := cells + 4) (n := slots + 105) (by omega) (by omega) ?_
        exact hkb _ _ hf _ E _ _ _ (lv_sub hl [2, 3, 4, 5, 6] rfl) G
      · have hf := aw_ite_f hc hf
        refine lv_iconst (v := (0 : Int32)) hx hb dL_law_954 (by decide) ?_
        exact absurd (Option.some.inj hf) (by decide)
  · have hf := aw_ite_f hc hf
    refine lv_iconst (v := (0 : Int32)) hx hb dL_law_937 (by decide) ?_
    exact absurd (Option.some.inj hf) (by decide)
set_option maxHeartbeats 4000000 in
set_option maxRecDepth 100000 in
theorem w_law_C10 (hst : l.stackTraces = false) (X : aw_X p c cL_law 8 s RL m meth ret) {b L : Nat} {xs : Nat → Int32} (hX : va_X b L xs s s.heap) (hbl : b < s.heap.size) {kb : Sg → Dt → Option Int32} {x1 x2 x3 : Nat} {x4 : Int32} {σ : Sg} {d : Dt} {ad : Nat → Nat} (hf : f_law_C10 xs L kb x1 x2 x3 x4 σ d = some 1) {cells slots : Nat} (hrc : cells + 4 ≤ 601024) (hrs : slots + 105 ≤ 7293033) (hkb : ∀ (σ : Sg) (d : Dt), kb σ d = some 1 → ∀ (ad : Nat → Nat), aw_ext σ0 ad0 σ ad → ∀ (H : Heap) (locs : List Loc) (ls : Array Slot), lv_has ls 8 [(0, .ref b), (1, .ref (ad x1)), (2, .ref (ad x2)), (3, .ref (ad x3)), (4, .int x4)] → aw_G D cA s.heap.size ad σ d s H locs → W p l e room_1 s m #[Value.ref b] below meth c H locs (cells + 4) (slots + 105) (lw_Z below #[Value.ref b] s) (F0 m 2257 ls [])) (E : aw_ext σ0 ad0 σ ad) {H : Heap} {locs : List Loc} {ls : Array Slot} (hl : lv_has ls 8 [(0, .ref b), (1, .ref (ad x1)), (2, .ref (ad x2)), (3, .ref (ad x3)), (4, .int x4)]) (G : aw_G D cA s.heap.size ad σ d s H locs) : W p l e room_1 s m #[Value.ref b] below meth c H locs cells slots (lw_Z below #[Value.ref b] s) (F0 m 959 ls []) := by
  have hx := X.1; have hb := X.2.1; have hml := X.2.2.1; have hown := X.2.2.2.1
  have hbA : ¬ (fun q => s.heap.size ≤ q) b := Nat.not_le.mpr hbl
  unfold f_law_C10 at hf
  refine lv_aload_n hx hb dL_law_959 rfl (lv_at hl 1 rfl) ?_
  refine lv_aload_n hx hb dL_law_960 rfl (lv_at hl 0 rfl) ?_
  refine lv_iload hx hb dL_law_961 (lv_at hl 4 rfl) ?_
  refine lv_iconst (v := (1 : Int32)) hx hb dL_law_963 (by decide) ?_
  refine lv_iadd hx hb dL_law_964 ?_
  obtain ⟨hc_176, hf⟩ := aw_chk_some hf
  refine va_sld hx hb hX hbl hbA G.2.2.2.2 hc_176 dL_law_965 ?_
  refine lv_aload_n hx hb dL_law_966 rfl (lv_at hl 0 rfl) ?_
  refine lv_iload hx hb dL_law_967 (lv_at hl 4 rfl) ?_
  refine lv_iconst (v := (2 : Int32)) hx hb dL_law_969 (by decide) ?_
  refine lv_iadd hx hb dL_law_970 ?_
  obtain ⟨hc_177, hf⟩ := aw_chk_some hf
  refine va_sld hx hb hX hbl hbA G.2.2.2.2 hc_177 dL_law_971 ?_
  refine lv_aload_n hx hb dL_law_972 rfl (lv_at hl 3 rfl) ?_
  obtain ⟨z_178, hz_179, hf⟩ := aw_bind_some hf
  refine aw_WI (As := [.ref (ad x1), .int (xs (x4 + ((1 : Int32))).toNatClampNeg), .int (xs (x4 + ((2 : Int32))).toNatClampNeg), .ref (ad x3)]) (rest := []) X G hl.1 cr_L_159 (c_L_loadIf l hst hz_179) rfl rfl rfl ⟨Nat.le_of_ble_eq_true rfl, Nat.le_of_ble_eq_true rfl⟩ (Nat.le_of_ble_eq_true rfl) dL_law_973 ⟨by show cells + 2 ≤ 601024; omega, by show slots + 12 ≤ 7293033; omega⟩ (fun H locs G => ?_)
  refine W.widen (k := cells + 4) (n := slots + 105) (by show cells + 2 ≤ cells + 4; omega) (by show slots + 12 ≤ slots + 105; omega) ?_
  refine lv_istore (lv' := [(5, .int z_178.1), (0, .ref b), (1, .ref (ad x1)), (2, .ref (ad x2)), (3, .ref (ad x3)), (4, .int x4)]) hx hb dL_law_976 hl (by decide) rfl (fun ls hl => ?_)
  refine lv_aload_n hx hb dL_law_978 rfl (lv_at hl 3 rfl) ?_
  refine lv_aload_n hx hb dL_law_979 rfl (lv_at hl 1 rfl) ?_
  refine lv_iload hx hb dL_law_980 (lv_at hl 5 rfl) ?_
  refine lv_iconst (v := (1 : Int32)) hx hb dL_law_982 (by decide) ?_
  refine lv_iadd hx hb dL_law_983 ?_
  refine va_sld hx hb hX hbl hbA G.2.2.2.2 hc_176 dL_law_984 ?_
  refine lv_aload_n hx hb dL_law_985 rfl (lv_at hl 1 rfl) ?_
  refine lv_iload hx hb dL_law_986 (lv_at hl 5 rfl) ?_
  refine lv_iconst (v := (2 : Int32)) hx hb dL_law_988 (by decide) ?_
  refine lv_iadd hx hb dL_law_989 ?_
  refine va_sld hx hb hX hbl hbA G.2.2.2.2 hc_177 dL_law_990 ?_
  obtain ⟨hc_182, hf⟩ := aw_chk_some hf
  obtain ⟨z_180, hz_181, hf⟩ := aw_bind_some hf
  refine aw_VI (As := [.int (xs (x4 + ((1 : Int32))).toNatClampNeg), .int (xs (x4 + ((2 : Int32))).toNatClampNeg)]) (rest := []) X G hl.1 cr_L_161 (c_X11_loadIf l hz_181) ⟨rfl, rfl⟩ rfl rfl rfl (by decide) hc_182 rfl ⟨Nat.le_of_ble_eq_true rfl, Nat.le_of_ble_eq_true rfl⟩ (Nat.le_of_ble_eq_true rfl) dL_law_991 ⟨by show cells + 4 ≤ 601024; omega, by show slots + 105 ≤ 7293033; omega⟩ (fun H locs G => ?_)
  refine lv_istore (lv' := [(6, .int z_180.1), (5, .int z_178.1), (0, .ref b), (1, .ref (ad x1)), (2, .ref (ad x2)), (3, .ref (ad x3)), (4, .int x4)]) hx hb dL_law_994 hl (by decide) rfl (fun ls hl => ?_)
  refine lv_aload_n hx hb dL_law_996 rfl (lv_at hl 4 rfl) ?_
  obtain ⟨z_183, hz_184, hf⟩ := aw_bind_some hf
  refine aw_VI (As := []) (rest := []) X G hl.1 cr_L_124 (c_X11_thrown l hz_184) ⟨rfl, rfl⟩ rfl rfl rfl (by decide) hc_182 rfl ⟨Nat.le_of_ble_eq_true rfl, Nat.le_of_ble_eq_true rfl⟩ (Nat.le_of_ble_eq_true rfl) dL_law_997 ⟨by show cells + 4 ≤ 601024; omega, by show slots + 105 ≤ 7293033; omega⟩ (fun H locs G => ?_)
  refine lv_iload hx hb dL_law_1000 (lv_at hl 1 rfl) ?_
  refine lv_icmp_eq (tgt := 1007) hx hb dL_law_1002 (by decide) (fun hc => ?_) (fun hc => ?_)
  · have hf := aw_ite_t hc hf
    refine lv_iload hx hb dL_law_1007 (lv_at hl 1 rfl) ?_
    refine lv_if_ne (tgt := 1024) hx hb dL_law_1009 (by decide) (fun hc => ?_) (fun hc => ?_)
    · have hf := aw_ite_f hc hf
      refine lv_goto (tgt := 2257) hx hb dL_law_1024 (by decide) ?_
      refine W.widen (k := cells + 4) (n := slots + 105) (by omega) (by omega) ?_
      exact hkb _ _ hf _ E _ _ _ (lv_sub hl [2, 3, 4, 5, 6] rfl) G
    · have hf := aw_ite_t hc hf
      refine lv_aload_n hx hb dL_law_1012 rfl (lv_at hl 5 rfl) ?_
      refine lv_iconst (v := (0 : Int32)) hx hb dL_law_1013 (by decide) ?_
      obtain ⟨hc_185, hf⟩ := aw_chk_some hf
      refine aw_lal hx hb G hc_185 dL_law_1014 ?_
      refine lv_iload hx hb dL_law_1015 (lv_at hl 0 rfl) ?_
      refine lv_i2l hx hb dL_law_1017 rfl ?_
      refine W.lcmp hx hb dL_law_1018 ?_
      refine lv_if_eq (tgt := 1024) hx hb dL_law_1019 (by decide) (fun hc => ?_) (fun hc => ?_)
      · have hf := aw_ite_t hc hf
        refine lv_goto (tgt := 2257) hx hb dL_law_1024 (by decide) ?_
        refine W.widen (k := cells + 4) (n := slots + 105) (by omega) (by omega) ?_
        exact hkb _ _ hf _ E _ _ _ (lv_sub hl [2, 3, 4, 5, 6] rfl) G
      · have hf := aw_ite_f hc hf
        refine lv_iconst (v := (0 : Int32)) hx hb dL_law_1022 (by decide) ?_
        exact absurd (Option.some.inj hf) (by decide)
  · have hf := aw_ite_f hc hf
    refine lv_iconst (v := (0 : Int32)) hx hb dL_law_1005 (by decide) ?_
    exact absurd (Option.some.inj hf) (by decide)
set_option maxHeartbeats 4000000 in
set_option maxRecDepth 100000 in
theorem w_law_C11 (hst : l.stackTraces = false) (X : aw_X p c cL_law 8 s RL m meth ret) {b L : Nat} {xs : Nat → Int32} (hX : va_X b L xs s s.heap) (hbl : b < s.heap.size) {kb : Sg → Dt → Option Int32} {x1 x2 x3 : Nat} {x4 : Int32} {σ : Sg} {d : Dt} {ad : Nat → Nat} (hf : f_law_C11 xs L kb x1 x2 x3 x4 σ d = some 1) {cells slots : Nat} (hrc : cells + 4 ≤ 601024) (hrs : slots + 105 ≤ 7293033) (hkb : ∀ (σ : Sg) (d : Dt), kb σ d = some 1 → ∀ (ad : Nat → Nat), aw_ext σ0 ad0 σ ad → ∀ (H : Heap) (locs : List Loc) (ls : Array Slot), lv_has ls 8 [(0, .ref b), (1, .ref (ad x1)), (2, .ref (ad x2)), (3, .ref (ad x3)), (4, .int x4)] → aw_G D cA s.heap.size ad σ d s H locs → W p l e room_1 s m #[Value.ref b] below meth c H locs (cells + 4) (slots + 105) (lw_Z below #[Value.ref b] s) (F0 m 2257 ls [])) (E : aw_ext σ0 ad0 σ ad) {H : Heap} {locs : List Loc} {ls : Array Slot} (hl : lv_has ls 8 [(0, .ref b), (1, .ref (ad x1)), (2, .ref (ad x2)), (3, .ref (ad x3)), (4, .int x4)]) (G : aw_G D cA s.heap.size ad σ d s H locs) : W p l e room_1 s m #[Value.ref b] below meth c H locs cells slots (lw_Z below #[Value.ref b] s) (F0 m 1027 ls []) := by
  have hx := X.1; have hb := X.2.1; have hml := X.2.2.1; have hown := X.2.2.2.1
  have hbA : ¬ (fun q => s.heap.size ≤ q) b := Nat.not_le.mpr hbl
  unfold f_law_C11 at hf
  refine lv_aload_n hx hb dL_law_1027 rfl (lv_at hl 1 rfl) ?_
  refine lv_aload_n hx hb dL_law_1028 rfl (lv_at hl 0 rfl) ?_
  refine lv_iload hx hb dL_law_1029 (lv_at hl 4 rfl) ?_
  refine lv_iconst (v := (1 : Int32)) hx hb dL_law_1031 (by decide) ?_
  refine lv_iadd hx hb dL_law_1032 ?_
  obtain ⟨hc_186, hf⟩ := aw_chk_some hf
  refine va_sld hx hb hX hbl hbA G.2.2.2.2 hc_186 dL_law_1033 ?_
  refine lv_aload_n hx hb dL_law_1034 rfl (lv_at hl 0 rfl) ?_
  refine lv_iload hx hb dL_law_1035 (lv_at hl 4 rfl) ?_
  refine lv_iconst (v := (2 : Int32)) hx hb dL_law_1037 (by decide) ?_
  refine lv_iadd hx hb dL_law_1038 ?_
  obtain ⟨hc_187, hf⟩ := aw_chk_some hf
  refine va_sld hx hb hX hbl hbA G.2.2.2.2 hc_187 dL_law_1039 ?_
  refine lv_aload_n hx hb dL_law_1040 rfl (lv_at hl 3 rfl) ?_
  obtain ⟨z_188, hz_189, hf⟩ := aw_bind_some hf
  refine aw_WI (As := [.ref (ad x1), .int (xs (x4 + ((1 : Int32))).toNatClampNeg), .int (xs (x4 + ((2 : Int32))).toNatClampNeg), .ref (ad x3)]) (rest := []) X G hl.1 cr_L_162 (c_L_readings l hst hz_189) rfl rfl rfl ⟨Nat.le_of_ble_eq_true rfl, Nat.le_of_ble_eq_true rfl⟩ (Nat.le_of_ble_eq_true rfl) dL_law_1041 ⟨by show cells + 2 ≤ 601024; omega, by show slots + 12 ≤ 7293033; omega⟩ (fun H locs G => ?_)
  refine W.widen (k := cells + 4) (n := slots + 105) (by show cells + 2 ≤ cells + 4; omega) (by show slots + 12 ≤ slots + 105; omega) ?_
  refine lv_istore (lv' := [(5, .int z_188.1), (0, .ref b), (1, .ref (ad x1)), (2, .ref (ad x2)), (3, .ref (ad x3)), (4, .int x4)]) hx hb dL_law_1044 hl (by decide) rfl (fun ls hl => ?_)
  refine lv_aload_n hx hb dL_law_1046 rfl (lv_at hl 3 rfl) ?_
  refine lv_aload_n hx hb dL_law_1047 rfl (lv_at hl 1 rfl) ?_
  refine lv_iload hx hb dL_law_1048 (lv_at hl 5 rfl) ?_
  refine lv_iconst (v := (1 : Int32)) hx hb dL_law_1050 (by decide) ?_
  refine lv_iadd hx hb dL_law_1051 ?_
  refine va_sld hx hb hX hbl hbA G.2.2.2.2 hc_186 dL_law_1052 ?_
  refine lv_aload_n hx hb dL_law_1053 rfl (lv_at hl 1 rfl) ?_
  refine lv_iload hx hb dL_law_1054 (lv_at hl 5 rfl) ?_
  refine lv_iconst (v := (2 : Int32)) hx hb dL_law_1056 (by decide) ?_
  refine lv_iadd hx hb dL_law_1057 ?_
  refine va_sld hx hb hX hbl hbA G.2.2.2.2 hc_187 dL_law_1058 ?_
  obtain ⟨hc_192, hf⟩ := aw_chk_some hf
  obtain ⟨z_190, hz_191, hf⟩ := aw_bind_some hf
  refine aw_VL (As := [.int (xs (x4 + ((1 : Int32))).toNatClampNeg), .int (xs (x4 + ((2 : Int32))).toNatClampNeg)]) (rest := []) X G hl.1 cr_L_164 (c_X11_readings l hz_191) ⟨rfl, rfl⟩ rfl rfl rfl (by decide) hc_192 rfl ⟨Nat.le_of_ble_eq_true rfl, Nat.le_of_ble_eq_true rfl⟩ (Nat.le_of_ble_eq_true rfl) dL_law_1059 ⟨by show cells + 4 ≤ 601024; omega, by show slots + 105 ≤ 7293033; omega⟩ (fun H locs G => ?_)
  refine lv_lstore (lv' := [(6, .long z_190.1), (5, .int z_188.1), (0, .ref b), (1, .ref (ad x1)), (2, .ref (ad x2)), (3, .ref (ad x3)), (4, .int x4)]) hx hb dL_law_1062 hl (by decide) rfl (fun ls hl => ?_)
  refine lv_aload_n hx hb dL_law_1064 rfl (lv_at hl 4 rfl) ?_
  obtain ⟨z_193, hz_194, hf⟩ := aw_bind_some hf
  refine aw_VI (As := []) (rest := []) X G hl.1 cr_L_124 (c_X11_thrown l hz_194) ⟨rfl, rfl⟩ rfl rfl rfl (by decide) hc_192 rfl ⟨Nat.le_of_ble_eq_true rfl, Nat.le_of_ble_eq_true rfl⟩ (Nat.le_of_ble_eq_true rfl) dL_law_1065 ⟨by show cells + 4 ≤ 601024; omega, by show slots + 105 ≤ 7293033; omega⟩ (fun H locs G => ?_)
  refine lv_iload hx hb dL_law_1068 (lv_at hl 1 rfl) ?_
  refine lv_icmp_eq (tgt := 1075) hx hb dL_law_1070 (by decide) (fun hc => ?_) (fun hc => ?_)
  · have hf := aw_ite_t hc hf
    refine lv_iload hx hb dL_law_1075 (lv_at hl 1 rfl) ?_
    refine lv_if_ne (tgt := 1091) hx hb dL_law_1077 (by decide) (fun hc => ?_) (fun hc => ?_)
    · have hf := aw_ite_f hc hf
      refine lv_goto (tgt := 2257) hx hb dL_law_1091 (by decide) ?_
      refine W.widen (k := cells + 4) (n := slots + 105) (by omega) (by omega) ?_
      exact hkb _ _ hf _ E _ _ _ (lv_sub hl [2, 3, 4, 5, 6] rfl) G
    · have hf := aw_ite_t hc hf
      refine lv_aload_n hx hb dL_law_1080 rfl (lv_at hl 5 rfl) ?_
      refine lv_iconst (v := (0 : Int32)) hx hb dL_law_1081 (by decide) ?_
      obtain ⟨hc_195, hf⟩ := aw_chk_some hf
      refine aw_lal hx hb G hc_195 dL_law_1082 ?_
      refine lv_lload hx hb dL_law_1083 (lv_at hl 0 rfl) ?_
      refine W.lcmp hx hb dL_law_1085 ?_
      refine lv_if_eq (tgt := 1091) hx hb dL_law_1086 (by decide) (fun hc => ?_) (fun hc => ?_)
      · have hf := aw_ite_t hc hf
        refine lv_goto (tgt := 2257) hx hb dL_law_1091 (by decide) ?_
        refine W.widen (k := cells + 4) (n := slots + 105) (by omega) (by omega) ?_
        exact hkb _ _ hf _ E _ _ _ (lv_sub hl [2, 3, 4, 5, 6] rfl) G
      · have hf := aw_ite_f hc hf
        refine lv_iconst (v := (0 : Int32)) hx hb dL_law_1089 (by decide) ?_
        exact absurd (Option.some.inj hf) (by decide)
  · have hf := aw_ite_f hc hf
    refine lv_iconst (v := (0 : Int32)) hx hb dL_law_1073 (by decide) ?_
    exact absurd (Option.some.inj hf) (by decide)
set_option maxHeartbeats 4000000 in
set_option maxRecDepth 100000 in
theorem w_law_C12 (hst : l.stackTraces = false) (X : aw_X p c cL_law 8 s RL m meth ret) {b L : Nat} {xs : Nat → Int32} (hX : va_X b L xs s s.heap) (hbl : b < s.heap.size) {kb : Sg → Dt → Option Int32} {x1 x2 x3 : Nat} {x4 : Int32} {σ : Sg} {d : Dt} {ad : Nat → Nat} (hf : f_law_C12 xs L kb x1 x2 x3 x4 σ d = some 1) {cells slots : Nat} (hrc : cells + 4 ≤ 601024) (hrs : slots + 105 ≤ 7293033) (hkb : ∀ (σ : Sg) (d : Dt), kb σ d = some 1 → ∀ (ad : Nat → Nat), aw_ext σ0 ad0 σ ad → ∀ (H : Heap) (locs : List Loc) (ls : Array Slot), lv_has ls 8 [(0, .ref b), (1, .ref (ad x1)), (2, .ref (ad x2)), (3, .ref (ad x3)), (4, .int x4)] → aw_G D cA s.heap.size ad σ d s H locs → W p l e room_1 s m #[Value.ref b] below meth c H locs (cells + 4) (slots + 105) (lw_Z below #[Value.ref b] s) (F0 m 2257 ls [])) (E : aw_ext σ0 ad0 σ ad) {H : Heap} {locs : List Loc} {ls : Array Slot} (hl : lv_has ls 8 [(0, .ref b), (1, .ref (ad x1)), (2, .ref (ad x2)), (3, .ref (ad x3)), (4, .int x4)]) (G : aw_G D cA s.heap.size ad σ d s H locs) : W p l e room_1 s m #[Value.ref b] below meth c H locs cells slots (lw_Z below #[Value.ref b] s) (F0 m 1094 ls []) := by
  have hx := X.1; have hb := X.2.1; have hml := X.2.2.1; have hown := X.2.2.2.1
  have hbA : ¬ (fun q => s.heap.size ≤ q) b := Nat.not_le.mpr hbl
  unfold f_law_C12 at hf
  refine lv_aload_n hx hb dL_law_1094 rfl (lv_at hl 1 rfl) ?_
  refine lv_aload_n hx hb dL_law_1095 rfl (lv_at hl 0 rfl) ?_
  refine lv_iload hx hb dL_law_1096 (lv_at hl 4 rfl) ?_
  refine lv_iconst (v := (1 : Int32)) hx hb dL_law_1098 (by decide) ?_
  refine lv_iadd hx hb dL_law_1099 ?_
  obtain ⟨hc_196, hf⟩ := aw_chk_some hf
  refine va_sld hx hb hX hbl hbA G.2.2.2.2 hc_196 dL_law_1100 ?_
  refine lv_aload_n hx hb dL_law_1101 rfl (lv_at hl 0 rfl) ?_
  refine lv_iload hx hb dL_law_1102 (lv_at hl 4 rfl) ?_
  refine lv_iconst (v := (2 : Int32)) hx hb dL_law_1104 (by decide) ?_
  refine lv_iadd hx hb dL_law_1105 ?_
  obtain ⟨hc_197, hf⟩ := aw_chk_some hf
  refine va_sld hx hb hX hbl hbA G.2.2.2.2 hc_197 dL_law_1106 ?_
  refine lv_aload_n hx hb dL_law_1107 rfl (lv_at hl 3 rfl) ?_
  obtain ⟨z_198, hz_199, hf⟩ := aw_bind_some hf
  refine aw_WI (As := [.ref (ad x1), .int (xs (x4 + ((1 : Int32))).toNatClampNeg), .int (xs (x4 + ((2 : Int32))).toNatClampNeg), .ref (ad x3)]) (rest := []) X G hl.1 cr_L_165 (c_L_readingsAnew l hst hz_199) rfl rfl rfl ⟨Nat.le_of_ble_eq_true rfl, Nat.le_of_ble_eq_true rfl⟩ (Nat.le_of_ble_eq_true rfl) dL_law_1108 ⟨by show cells + 2 ≤ 601024; omega, by show slots + 12 ≤ 7293033; omega⟩ (fun H locs G => ?_)
  refine W.widen (k := cells + 4) (n := slots + 105) (by show cells + 2 ≤ cells + 4; omega) (by show slots + 12 ≤ slots + 105; omega) ?_
  refine lv_istore (lv' := [(5, .int z_198.1), (0, .ref b), (1, .ref (ad x1)), (2, .ref (ad x2)), (3, .ref (ad x3)), (4, .int x4)]) hx hb dL_law_1111 hl (by decide) rfl (fun ls hl => ?_)
  refine lv_aload_n hx hb dL_law_1113 rfl (lv_at hl 3 rfl) ?_
  refine lv_aload_n hx hb dL_law_1114 rfl (lv_at hl 1 rfl) ?_
  refine lv_iload hx hb dL_law_1115 (lv_at hl 5 rfl) ?_
  refine lv_iconst (v := (1 : Int32)) hx hb dL_law_1117 (by decide) ?_
  refine lv_iadd hx hb dL_law_1118 ?_
  refine va_sld hx hb hX hbl hbA G.2.2.2.2 hc_196 dL_law_1119 ?_
  refine lv_aload_n hx hb dL_law_1120 rfl (lv_at hl 1 rfl) ?_
  refine lv_iload hx hb dL_law_1121 (lv_at hl 5 rfl) ?_
  refine lv_iconst (v := (2 : Int32)) hx hb dL_law_1123 (by decide) ?_
  refine lv_iadd hx hb dL_law_1124 ?_
  refine va_sld hx hb hX hbl hbA G.2.2.2.2 hc_197 dL_law_1125 ?_
  obtain ⟨hc_202, hf⟩ := aw_chk_some hf
  obtain ⟨z_200, hz_201, hf⟩ := aw_bind_some hf
  refine aw_VL (As := [.int (xs (x4 + ((1 : Int32))).toNatClampNeg), .int (xs (x4 + ((2 : Int32))).toNatClampNeg)]) (rest := []) X G hl.1 cr_L_167 (c_X11_readingsAnew l hz_201) ⟨rfl, rfl⟩ rfl rfl rfl (by decide) hc_202 rfl ⟨Nat.le_of_ble_eq_true rfl, Nat.le_of_ble_eq_true rfl⟩ (Nat.le_of_ble_eq_true rfl) dL_law_1126 ⟨by show cells + 4 ≤ 601024; omega, by show slots + 105 ≤ 7293033; omega⟩ (fun H locs G => ?_)
  refine lv_lstore (lv' := [(6, .long z_200.1), (5, .int z_198.1), (0, .ref b), (1, .ref (ad x1)), (2, .ref (ad x2)), (3, .ref (ad x3)), (4, .int x4)]) hx hb dL_law_1129 hl (by decide) rfl (fun ls hl => ?_)
  refine lv_aload_n hx hb dL_law_1131 rfl (lv_at hl 4 rfl) ?_
  obtain ⟨z_203, hz_204, hf⟩ := aw_bind_some hf
  refine aw_VI (As := []) (rest := []) X G hl.1 cr_L_124 (c_X11_thrown l hz_204) ⟨rfl, rfl⟩ rfl rfl rfl (by decide) hc_202 rfl ⟨Nat.le_of_ble_eq_true rfl, Nat.le_of_ble_eq_true rfl⟩ (Nat.le_of_ble_eq_true rfl) dL_law_1132 ⟨by show cells + 4 ≤ 601024; omega, by show slots + 105 ≤ 7293033; omega⟩ (fun H locs G => ?_)
  refine lv_iload hx hb dL_law_1135 (lv_at hl 1 rfl) ?_
  refine lv_icmp_eq (tgt := 1142) hx hb dL_law_1137 (by decide) (fun hc => ?_) (fun hc => ?_)
  · have hf := aw_ite_t hc hf
    refine lv_iload hx hb dL_law_1142 (lv_at hl 1 rfl) ?_
    refine lv_if_ne (tgt := 1158) hx hb dL_law_1144 (by decide) (fun hc => ?_) (fun hc => ?_)
    · have hf := aw_ite_f hc hf
      refine lv_goto (tgt := 2257) hx hb dL_law_1158 (by decide) ?_
      refine W.widen (k := cells + 4) (n := slots + 105) (by omega) (by omega) ?_
      exact hkb _ _ hf _ E _ _ _ (lv_sub hl [2, 3, 4, 5, 6] rfl) G
    · have hf := aw_ite_t hc hf
      refine lv_aload_n hx hb dL_law_1147 rfl (lv_at hl 5 rfl) ?_
      refine lv_iconst (v := (0 : Int32)) hx hb dL_law_1148 (by decide) ?_
      obtain ⟨hc_205, hf⟩ := aw_chk_some hf
      refine aw_lal hx hb G hc_205 dL_law_1149 ?_
      refine lv_lload hx hb dL_law_1150 (lv_at hl 0 rfl) ?_
      refine W.lcmp hx hb dL_law_1152 ?_
      refine lv_if_eq (tgt := 1158) hx hb dL_law_1153 (by decide) (fun hc => ?_) (fun hc => ?_)
      · have hf := aw_ite_t hc hf
        refine lv_goto (tgt := 2257) hx hb dL_law_1158 (by decide) ?_
        refine W.widen (k := cells + 4) (n := slots + 105) (by omega) (by omega) ?_
        exact hkb _ _ hf _ E _ _ _ (lv_sub hl [2, 3, 4, 5, 6] rfl) G
      · have hf := aw_ite_f hc hf
        refine lv_iconst (v := (0 : Int32)) hx hb dL_law_1156 (by decide) ?_
        exact absurd (Option.some.inj hf) (by decide)
  · have hf := aw_ite_f hc hf
    refine lv_iconst (v := (0 : Int32)) hx hb dL_law_1140 (by decide) ?_
    exact absurd (Option.some.inj hf) (by decide)
set_option maxHeartbeats 4000000 in
set_option maxRecDepth 100000 in
theorem w_law_C13 (hst : l.stackTraces = false) (X : aw_X p c cL_law 8 s RL m meth ret) {b L : Nat} {xs : Nat → Int32} (hX : va_X b L xs s s.heap) (hbl : b < s.heap.size) {kb : Sg → Dt → Option Int32} {x1 x2 x3 : Nat} {x4 : Int32} {σ : Sg} {d : Dt} {ad : Nat → Nat} (hf : f_law_C13 xs L kb x1 x2 x3 x4 σ d = some 1) {cells slots : Nat} (hrc : cells + 4 ≤ 601024) (hrs : slots + 105 ≤ 7293033) (hkb : ∀ (σ : Sg) (d : Dt), kb σ d = some 1 → ∀ (ad : Nat → Nat), aw_ext σ0 ad0 σ ad → ∀ (H : Heap) (locs : List Loc) (ls : Array Slot), lv_has ls 8 [(0, .ref b), (1, .ref (ad x1)), (2, .ref (ad x2)), (3, .ref (ad x3)), (4, .int x4)] → aw_G D cA s.heap.size ad σ d s H locs → W p l e room_1 s m #[Value.ref b] below meth c H locs (cells + 4) (slots + 105) (lw_Z below #[Value.ref b] s) (F0 m 2257 ls [])) (E : aw_ext σ0 ad0 σ ad) {H : Heap} {locs : List Loc} {ls : Array Slot} (hl : lv_has ls 8 [(0, .ref b), (1, .ref (ad x1)), (2, .ref (ad x2)), (3, .ref (ad x3)), (4, .int x4)]) (G : aw_G D cA s.heap.size ad σ d s H locs) : W p l e room_1 s m #[Value.ref b] below meth c H locs cells slots (lw_Z below #[Value.ref b] s) (F0 m 1161 ls []) := by
  have hx := X.1; have hb := X.2.1; have hml := X.2.2.1; have hown := X.2.2.2.1
  have hbA : ¬ (fun q => s.heap.size ≤ q) b := Nat.not_le.mpr hbl
  unfold f_law_C13 at hf
  refine lv_aload_n hx hb dL_law_1161 rfl (lv_at hl 1 rfl) ?_
  refine lv_aload_n hx hb dL_law_1162 rfl (lv_at hl 0 rfl) ?_
  refine lv_iload hx hb dL_law_1163 (lv_at hl 4 rfl) ?_
  refine lv_iconst (v := (1 : Int32)) hx hb dL_law_1165 (by decide) ?_
  refine lv_iadd hx hb dL_law_1166 ?_
  obtain ⟨hc_206, hf⟩ := aw_chk_some hf
  refine va_sld hx hb hX hbl hbA G.2.2.2.2 hc_206 dL_law_1167 ?_
  refine lv_aload_n hx hb dL_law_1168 rfl (lv_at hl 0 rfl) ?_
  refine lv_iload hx hb dL_law_1169 (lv_at hl 4 rfl) ?_
  refine lv_iconst (v := (2 : Int32)) hx hb dL_law_1171 (by decide) ?_
  refine lv_iadd hx hb dL_law_1172 ?_
  obtain ⟨hc_207, hf⟩ := aw_chk_some hf
  refine va_sld hx hb hX hbl hbA G.2.2.2.2 hc_207 dL_law_1173 ?_
  refine lv_aload_n hx hb dL_law_1174 rfl (lv_at hl 3 rfl) ?_
  obtain ⟨z_208, hz_209, hf⟩ := aw_bind_some hf
  refine aw_WI (As := [.ref (ad x1), .int (xs (x4 + ((1 : Int32))).toNatClampNeg), .int (xs (x4 + ((2 : Int32))).toNatClampNeg), .ref (ad x3)]) (rest := []) X G hl.1 cr_L_168 (c_L_fit l hst hz_209) rfl rfl rfl ⟨Nat.le_of_ble_eq_true rfl, Nat.le_of_ble_eq_true rfl⟩ (Nat.le_of_ble_eq_true rfl) dL_law_1175 ⟨by show cells + 2 ≤ 601024; omega, by show slots + 12 ≤ 7293033; omega⟩ (fun H locs G => ?_)
  refine W.widen (k := cells + 4) (n := slots + 105) (by show cells + 2 ≤ cells + 4; omega) (by show slots + 12 ≤ slots + 105; omega) ?_
  refine lv_istore (lv' := [(5, .int z_208.1), (0, .ref b), (1, .ref (ad x1)), (2, .ref (ad x2)), (3, .ref (ad x3)), (4, .int x4)]) hx hb dL_law_1178 hl (by decide) rfl (fun ls hl => ?_)
  refine lv_aload_n hx hb dL_law_1180 rfl (lv_at hl 3 rfl) ?_
  refine lv_aload_n hx hb dL_law_1181 rfl (lv_at hl 1 rfl) ?_
  refine lv_iload hx hb dL_law_1182 (lv_at hl 5 rfl) ?_
  refine lv_iconst (v := (1 : Int32)) hx hb dL_law_1184 (by decide) ?_
  refine lv_iadd hx hb dL_law_1185 ?_
  refine va_sld hx hb hX hbl hbA G.2.2.2.2 hc_206 dL_law_1186 ?_
  refine lv_aload_n hx hb dL_law_1187 rfl (lv_at hl 1 rfl) ?_
  refine lv_iload hx hb dL_law_1188 (lv_at hl 5 rfl) ?_
  refine lv_iconst (v := (2 : Int32)) hx hb dL_law_1190 (by decide) ?_
  refine lv_iadd hx hb dL_law_1191 ?_
  refine va_sld hx hb hX hbl hbA G.2.2.2.2 hc_207 dL_law_1192 ?_
  obtain ⟨hc_212, hf⟩ := aw_chk_some hf
  obtain ⟨z_210, hz_211, hf⟩ := aw_bind_some hf
  refine aw_VI (As := [.int (xs (x4 + ((1 : Int32))).toNatClampNeg), .int (xs (x4 + ((2 : Int32))).toNatClampNeg)]) (rest := []) X G hl.1 cr_L_170 (c_X11_fit l hz_211) ⟨rfl, rfl⟩ rfl rfl rfl (by decide) hc_212 rfl ⟨Nat.le_of_ble_eq_true rfl, Nat.le_of_ble_eq_true rfl⟩ (Nat.le_of_ble_eq_true rfl) dL_law_1193 ⟨by show cells + 4 ≤ 601024; omega, by show slots + 105 ≤ 7293033; omega⟩ (fun H locs G => ?_)
  refine lv_istore (lv' := [(6, .int z_210.1), (5, .int z_208.1), (0, .ref b), (1, .ref (ad x1)), (2, .ref (ad x2)), (3, .ref (ad x3)), (4, .int x4)]) hx hb dL_law_1196 hl (by decide) rfl (fun ls hl => ?_)
  refine lv_aload_n hx hb dL_law_1198 rfl (lv_at hl 4 rfl) ?_
  obtain ⟨z_213, hz_214, hf⟩ := aw_bind_some hf
  refine aw_VI (As := []) (rest := []) X G hl.1 cr_L_124 (c_X11_thrown l hz_214) ⟨rfl, rfl⟩ rfl rfl rfl (by decide) hc_212 rfl ⟨Nat.le_of_ble_eq_true rfl, Nat.le_of_ble_eq_true rfl⟩ (Nat.le_of_ble_eq_true rfl) dL_law_1199 ⟨by show cells + 4 ≤ 601024; omega, by show slots + 105 ≤ 7293033; omega⟩ (fun H locs G => ?_)
  refine lv_iload hx hb dL_law_1202 (lv_at hl 1 rfl) ?_
  refine lv_icmp_eq (tgt := 1209) hx hb dL_law_1204 (by decide) (fun hc => ?_) (fun hc => ?_)
  · have hf := aw_ite_t hc hf
    refine lv_iload hx hb dL_law_1209 (lv_at hl 1 rfl) ?_
    refine lv_if_ne (tgt := 1226) hx hb dL_law_1211 (by decide) (fun hc => ?_) (fun hc => ?_)
    · have hf := aw_ite_f hc hf
      refine lv_goto (tgt := 2257) hx hb dL_law_1226 (by decide) ?_
      refine W.widen (k := cells + 4) (n := slots + 105) (by omega) (by omega) ?_
      exact hkb _ _ hf _ E _ _ _ (lv_sub hl [2, 3, 4, 5, 6] rfl) G
    · have hf := aw_ite_t hc hf
      refine lv_aload_n hx hb dL_law_1214 rfl (lv_at hl 5 rfl) ?_
      refine lv_iconst (v := (0 : Int32)) hx hb dL_law_1215 (by decide) ?_
      obtain ⟨hc_215, hf⟩ := aw_chk_some hf
      refine aw_lal hx hb G hc_215 dL_law_1216 ?_
      refine lv_iload hx hb dL_law_1217 (lv_at hl 0 rfl) ?_
      refine lv_i2l hx hb dL_law_1219 rfl ?_
      refine W.lcmp hx hb dL_law_1220 ?_
      refine lv_if_eq (tgt := 1226) hx hb dL_law_1221 (by decide) (fun hc => ?_) (fun hc => ?_)
      · have hf := aw_ite_t hc hf
        refine lv_goto (tgt := 2257) hx hb dL_law_1226 (by decide) ?_
        refine W.widen (k := cells + 4) (n := slots + 105) (by omega) (by omega) ?_
        exact hkb _ _ hf _ E _ _ _ (lv_sub hl [2, 3, 4, 5, 6] rfl) G
      · have hf := aw_ite_f hc hf
        refine lv_iconst (v := (0 : Int32)) hx hb dL_law_1224 (by decide) ?_
        exact absurd (Option.some.inj hf) (by decide)
  · have hf := aw_ite_f hc hf
    refine lv_iconst (v := (0 : Int32)) hx hb dL_law_1207 (by decide) ?_
    exact absurd (Option.some.inj hf) (by decide)
set_option maxHeartbeats 4000000 in
set_option maxRecDepth 100000 in
theorem w_law_C14 (hst : l.stackTraces = false) (X : aw_X p c cL_law 8 s RL m meth ret) {b L : Nat} {xs : Nat → Int32} (hX : va_X b L xs s s.heap) (hbl : b < s.heap.size) {kb : Sg → Dt → Option Int32} {x1 x2 x3 : Nat} {x4 : Int32} {σ : Sg} {d : Dt} {ad : Nat → Nat} (hf : f_law_C14 xs L kb x1 x2 x3 x4 σ d = some 1) {cells slots : Nat} (hrc : cells + 4 ≤ 601024) (hrs : slots + 105 ≤ 7293033) (hkb : ∀ (σ : Sg) (d : Dt), kb σ d = some 1 → ∀ (ad : Nat → Nat), aw_ext σ0 ad0 σ ad → ∀ (H : Heap) (locs : List Loc) (ls : Array Slot), lv_has ls 8 [(0, .ref b), (1, .ref (ad x1)), (2, .ref (ad x2)), (3, .ref (ad x3)), (4, .int x4)] → aw_G D cA s.heap.size ad σ d s H locs → W p l e room_1 s m #[Value.ref b] below meth c H locs (cells + 4) (slots + 105) (lw_Z below #[Value.ref b] s) (F0 m 2257 ls [])) (E : aw_ext σ0 ad0 σ ad) {H : Heap} {locs : List Loc} {ls : Array Slot} (hl : lv_has ls 8 [(0, .ref b), (1, .ref (ad x1)), (2, .ref (ad x2)), (3, .ref (ad x3)), (4, .int x4)]) (G : aw_G D cA s.heap.size ad σ d s H locs) : W p l e room_1 s m #[Value.ref b] below meth c H locs cells slots (lw_Z below #[Value.ref b] s) (F0 m 1229 ls []) := by
  have hx := X.1; have hb := X.2.1; have hml := X.2.2.1; have hown := X.2.2.2.1
  have hbA : ¬ (fun q => s.heap.size ≤ q) b := Nat.not_le.mpr hbl
  unfold f_law_C14 at hf
  refine lv_aload_n hx hb dL_law_1229 rfl (lv_at hl 1 rfl) ?_
  refine lv_aload_n hx hb dL_law_1230 rfl (lv_at hl 0 rfl) ?_
  refine lv_iload hx hb dL_law_1231 (lv_at hl 4 rfl) ?_
  refine lv_iconst (v := (1 : Int32)) hx hb dL_law_1233 (by decide) ?_
  refine lv_iadd hx hb dL_law_1234 ?_
  obtain ⟨hc_216, hf⟩ := aw_chk_some hf
  refine va_sld hx hb hX hbl hbA G.2.2.2.2 hc_216 dL_law_1235 ?_
  refine lv_aload_n hx hb dL_law_1236 rfl (lv_at hl 0 rfl) ?_
  refine lv_iload hx hb dL_law_1237 (lv_at hl 4 rfl) ?_
  refine lv_iconst (v := (2 : Int32)) hx hb dL_law_1239 (by decide) ?_
  refine lv_iadd hx hb dL_law_1240 ?_
  obtain ⟨hc_217, hf⟩ := aw_chk_some hf
  refine va_sld hx hb hX hbl hbA G.2.2.2.2 hc_217 dL_law_1241 ?_
  refine lv_aload_n hx hb dL_law_1242 rfl (lv_at hl 3 rfl) ?_
  obtain ⟨z_218, hz_219, hf⟩ := aw_bind_some hf
  refine aw_WI (As := [.ref (ad x1), .int (xs (x4 + ((1 : Int32))).toNatClampNeg), .int (xs (x4 + ((2 : Int32))).toNatClampNeg), .ref (ad x3)]) (rest := []) X G hl.1 cr_L_171 (c_L_shape l hst hz_219) rfl rfl rfl ⟨Nat.le_of_ble_eq_true rfl, Nat.le_of_ble_eq_true rfl⟩ (Nat.le_of_ble_eq_true rfl) dL_law_1243 ⟨by show cells + 2 ≤ 601024; omega, by show slots + 12 ≤ 7293033; omega⟩ (fun H locs G => ?_)
  refine W.widen (k := cells + 4) (n := slots + 105) (by show cells + 2 ≤ cells + 4; omega) (by show slots + 12 ≤ slots + 105; omega) ?_
  refine lv_istore (lv' := [(5, .int z_218.1), (0, .ref b), (1, .ref (ad x1)), (2, .ref (ad x2)), (3, .ref (ad x3)), (4, .int x4)]) hx hb dL_law_1246 hl (by decide) rfl (fun ls hl => ?_)
  refine lv_aload_n hx hb dL_law_1248 rfl (lv_at hl 3 rfl) ?_
  refine lv_aload_n hx hb dL_law_1249 rfl (lv_at hl 1 rfl) ?_
  refine lv_iload hx hb dL_law_1250 (lv_at hl 5 rfl) ?_
  refine lv_iconst (v := (1 : Int32)) hx hb dL_law_1252 (by decide) ?_
  refine lv_iadd hx hb dL_law_1253 ?_
  refine va_sld hx hb hX hbl hbA G.2.2.2.2 hc_216 dL_law_1254 ?_
  refine lv_aload_n hx hb dL_law_1255 rfl (lv_at hl 1 rfl) ?_
  refine lv_iload hx hb dL_law_1256 (lv_at hl 5 rfl) ?_
  refine lv_iconst (v := (2 : Int32)) hx hb dL_law_1258 (by decide) ?_
  refine lv_iadd hx hb dL_law_1259 ?_
  refine va_sld hx hb hX hbl hbA G.2.2.2.2 hc_217 dL_law_1260 ?_
  obtain ⟨hc_222, hf⟩ := aw_chk_some hf
  obtain ⟨z_220, hz_221, hf⟩ := aw_bind_some hf
  refine aw_VI (As := [.int (xs (x4 + ((1 : Int32))).toNatClampNeg), .int (xs (x4 + ((2 : Int32))).toNatClampNeg)]) (rest := []) X G hl.1 cr_L_173 (c_X11_shape l hz_221) ⟨rfl, rfl⟩ rfl rfl rfl (by decide) hc_222 rfl ⟨Nat.le_of_ble_eq_true rfl, Nat.le_of_ble_eq_true rfl⟩ (Nat.le_of_ble_eq_true rfl) dL_law_1261 ⟨by show cells + 4 ≤ 601024; omega, by show slots + 105 ≤ 7293033; omega⟩ (fun H locs G => ?_)
  refine lv_istore (lv' := [(6, .int z_220.1), (5, .int z_218.1), (0, .ref b), (1, .ref (ad x1)), (2, .ref (ad x2)), (3, .ref (ad x3)), (4, .int x4)]) hx hb dL_law_1264 hl (by decide) rfl (fun ls hl => ?_)
  refine lv_aload_n hx hb dL_law_1266 rfl (lv_at hl 4 rfl) ?_
  obtain ⟨z_223, hz_224, hf⟩ := aw_bind_some hf
  refine aw_VI (As := []) (rest := []) X G hl.1 cr_L_124 (c_X11_thrown l hz_224) ⟨rfl, rfl⟩ rfl rfl rfl (by decide) hc_222 rfl ⟨Nat.le_of_ble_eq_true rfl, Nat.le_of_ble_eq_true rfl⟩ (Nat.le_of_ble_eq_true rfl) dL_law_1267 ⟨by show cells + 4 ≤ 601024; omega, by show slots + 105 ≤ 7293033; omega⟩ (fun H locs G => ?_)
  refine lv_iload hx hb dL_law_1270 (lv_at hl 1 rfl) ?_
  refine lv_icmp_eq (tgt := 1277) hx hb dL_law_1272 (by decide) (fun hc => ?_) (fun hc => ?_)
  · have hf := aw_ite_t hc hf
    refine lv_iload hx hb dL_law_1277 (lv_at hl 1 rfl) ?_
    refine lv_if_ne (tgt := 1294) hx hb dL_law_1279 (by decide) (fun hc => ?_) (fun hc => ?_)
    · have hf := aw_ite_f hc hf
      refine lv_goto (tgt := 2257) hx hb dL_law_1294 (by decide) ?_
      refine W.widen (k := cells + 4) (n := slots + 105) (by omega) (by omega) ?_
      exact hkb _ _ hf _ E _ _ _ (lv_sub hl [2, 3, 4, 5, 6] rfl) G
    · have hf := aw_ite_t hc hf
      refine lv_aload_n hx hb dL_law_1282 rfl (lv_at hl 5 rfl) ?_
      refine lv_iconst (v := (0 : Int32)) hx hb dL_law_1283 (by decide) ?_
      obtain ⟨hc_225, hf⟩ := aw_chk_some hf
      refine aw_lal hx hb G hc_225 dL_law_1284 ?_
      refine lv_iload hx hb dL_law_1285 (lv_at hl 0 rfl) ?_
      refine lv_i2l hx hb dL_law_1287 rfl ?_
      refine W.lcmp hx hb dL_law_1288 ?_
      refine lv_if_eq (tgt := 1294) hx hb dL_law_1289 (by decide) (fun hc => ?_) (fun hc => ?_)
      · have hf := aw_ite_t hc hf
        refine lv_goto (tgt := 2257) hx hb dL_law_1294 (by decide) ?_
        refine W.widen (k := cells + 4) (n := slots + 105) (by omega) (by omega) ?_
        exact hkb _ _ hf _ E _ _ _ (lv_sub hl [2, 3, 4, 5, 6] rfl) G
      · have hf := aw_ite_f hc hf
        refine lv_iconst (v := (0 : Int32)) hx hb dL_law_1292 (by decide) ?_
        exact absurd (Option.some.inj hf) (by decide)
  · have hf := aw_ite_f hc hf
    refine lv_iconst (v := (0 : Int32)) hx hb dL_law_1275 (by decide) ?_
    exact absurd (Option.some.inj hf) (by decide)
end LAW0
