/-- no cell yet -/
def aw_s0 : Sg := (0, fun _ => (0, 0), fun _ _ => none)
def aw_d0 : Dt := (fun _ _ => 0, fun _ _ => 0)
def f_law (xs : Nat → Int32) (L : Nat) (σ : Sg) (d : Dt) : Option Int32 :=
  aw_new σ d 10 13 (fun q_1 σ_2 d_3 => aw_chk (q_1 < σ_2.1) ((f_X10_init q_1 σ_2 d_3).bind (fun z_8 => aw_chk (q_1 < z_8.1.1) (aw_new z_8.1 z_8.2 11 32 (fun q_15 σ_16 d_17 => aw_chk (q_15 < σ_16.1) (aw_chk (q_1 < σ_16.1) ((f_X11_init q_15 σ_16 d_17).bind (fun z_24 => aw_chk (q_15 < z_24.1.1) (aw_chk (q_1 < z_24.1.1) (aw_new z_24.1 z_24.2 21 1 (fun q_33 σ_34 d_35 => f_law_L xs L q_1 q_15 q_33 aw_FU ((0 : Int32)) σ_34 d_35)))))))))))
