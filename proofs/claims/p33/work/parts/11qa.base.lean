/-! numbers -/
theorem il_0 : (0 : Int32) = nI 0 := of_eq_true (eq_true rfl)
theorem il_1 : (1 : Int32) = nI 1 := of_eq_true (eq_true rfl)
theorem il_2 : (2 : Int32) = nI 2 := of_eq_true (eq_true rfl)
theorem il_3 : (3 : Int32) = nI 3 := of_eq_true (eq_true rfl)
theorem il_4 : (4 : Int32) = nI 4 := of_eq_true (eq_true rfl)
theorem il_5 : (5 : Int32) = nI 5 := of_eq_true (eq_true rfl)
theorem il_6 : (6 : Int32) = nI 6 := of_eq_true (eq_true rfl)
theorem il_7 : (7 : Int32) = nI 7 := of_eq_true (eq_true rfl)
theorem il_8 : (8 : Int32) = nI 8 := of_eq_true (eq_true rfl)
theorem il_9 : (9 : Int32) = nI 9 := of_eq_true (eq_true rfl)
theorem il_10 : (10 : Int32) = nI 10 := of_eq_true (eq_true rfl)
theorem il_11 : (11 : Int32) = nI 11 := of_eq_true (eq_true rfl)
theorem il_12 : (12 : Int32) = nI 12 := of_eq_true (eq_true rfl)
theorem il_13 : (13 : Int32) = nI 13 := of_eq_true (eq_true rfl)
theorem il_15 : (15 : Int32) = nI 15 := of_eq_true (eq_true rfl)
theorem il_16 : (16 : Int32) = nI 16 := of_eq_true (eq_true rfl)
theorem il_17 : (17 : Int32) = nI 17 := of_eq_true (eq_true rfl)
theorem il_18 : (18 : Int32) = nI 18 := of_eq_true (eq_true rfl)
theorem il_19 : (19 : Int32) = nI 19 := of_eq_true (eq_true rfl)
theorem il_20 : (20 : Int32) = nI 20 := of_eq_true (eq_true rfl)
theorem il_21 : (21 : Int32) = nI 21 := of_eq_true (eq_true rfl)
theorem il_22 : (22 : Int32) = nI 22 := of_eq_true (eq_true rfl)
theorem il_23 : (23 : Int32) = nI 23 := of_eq_true (eq_true rfl)
theorem il_24 : (24 : Int32) = nI 24 := of_eq_true (eq_true rfl)
theorem il_26 : (26 : Int32) = nI 26 := of_eq_true (eq_true rfl)
theorem il_27 : (27 : Int32) = nI 27 := of_eq_true (eq_true rfl)
theorem il_28 : (28 : Int32) = nI 28 := of_eq_true (eq_true rfl)
theorem il_30 : (30 : Int32) = nI 30 := of_eq_true (eq_true rfl)
theorem il_32 : (32 : Int32) = nI 32 := of_eq_true (eq_true rfl)
theorem il_34 : (34 : Int32) = nI 34 := of_eq_true (eq_true rfl)
theorem il_36 : (36 : Int32) = nI 36 := of_eq_true (eq_true rfl)
theorem il_38 : (38 : Int32) = nI 38 := of_eq_true (eq_true rfl)
theorem il_40 : (40 : Int32) = nI 40 := of_eq_true (eq_true rfl)
theorem il_43 : (43 : Int32) = nI 43 := of_eq_true (eq_true rfl)
theorem il_44 : (44 : Int32) = nI 44 := of_eq_true (eq_true rfl)
theorem il_46 : (46 : Int32) = nI 46 := of_eq_true (eq_true rfl)
theorem il_47 : (47 : Int32) = nI 47 := of_eq_true (eq_true rfl)
theorem il_48 : (48 : Int32) = nI 48 := of_eq_true (eq_true rfl)
theorem il_49 : (49 : Int32) = nI 49 := of_eq_true (eq_true rfl)
theorem il_50 : (50 : Int32) = nI 50 := of_eq_true (eq_true rfl)
theorem il_51 : (51 : Int32) = nI 51 := of_eq_true (eq_true rfl)
theorem il_60 : (60 : Int32) = nI 60 := of_eq_true (eq_true rfl)
theorem il_64 : (64 : Int32) = nI 64 := of_eq_true (eq_true rfl)
theorem il_100 : (100 : Int32) = nI 100 := of_eq_true (eq_true rfl)
theorem il_108 : (108 : Int32) = nI 108 := of_eq_true (eq_true rfl)
theorem il_111 : (111 : Int32) = nI 111 := of_eq_true (eq_true rfl)
theorem il_127 : (127 : Int32) = nI 127 := of_eq_true (eq_true rfl)
theorem il_971 : (971 : Int32) = nI 971 := of_eq_true (eq_true rfl)
theorem il_972 : (972 : Int32) = nI 972 := of_eq_true (eq_true rfl)
theorem il_999 : (999 : Int32) = nI 999 := of_eq_true (eq_true rfl)
theorem il_1000 : (1000 : Int32) = nI 1000 := of_eq_true (eq_true rfl)
theorem il_1024 : (1024 : Int32) = nI 1024 := of_eq_true (eq_true rfl)
theorem il_1087 : (1087 : Int32) = nI 1087 := of_eq_true (eq_true rfl)
theorem il_2500 : (2500 : Int32) = nI 2500 := of_eq_true (eq_true rfl)
theorem il_5000 : (5000 : Int32) = nI 5000 := of_eq_true (eq_true rfl)
theorem il_9999 : (9999 : Int32) = nI 9999 := of_eq_true (eq_true rfl)
theorem il_60000 : (60000 : Int32) = nI 60000 := of_eq_true (eq_true rfl)
theorem il_2147483647 : (2147483647 : Int32) = nI 2147483647 := of_eq_true (eq_true rfl)
theorem nI_mulI (a b : Nat) : nI a * nI b = nI (a * b) := (Int32.ofNat_mul a b).symm
theorem nI_subI {a b : Nat} (h : b ≤ a) : nI a - nI b = nI (a - b) := by
  have e : nI a = nI (a - b) + nI b := by rw [nI_add]; congr 1; omega
  rw [e, Int32.add_sub_cancel]
theorem nI_divI {a b : Nat} (ha : a < 2147483648) (hb : b < 2147483648) : nI a / nI b = nI (a / b) := by
  apply Int32.toInt_inj.mp
  have h1 : (nI a).toInt = (a : Int) := nI_toInt (by omega)
  have h2 : (nI b).toInt = (b : Int) := nI_toInt (by omega)
  have h4 : a / b ≤ a := Nat.div_le_self a b
  have h5 : ((a : Int).tdiv (b : Int)) = ((a / b : Nat) : Int) := by
    rw [Int.tdiv_eq_ediv_of_nonneg (by omega)]; norm_cast
  rw [Int32.toInt_div, h1, h2, h5]
  generalize a / b = q at *
  rw [nI_toInt (by omega)]
  apply Int.bmod_eq_of_le <;> omega
theorem nI_cl {n : Nat} (h : n < 2147483648) : (nI n).toNatClampNeg = n := nI_clamp (by omega)
theorem nI_leJ {a b : Nat} (ha : a < 2147483648) (hb : b < 2147483648) : (nI a ≤ nI b) = (a ≤ b) := propext (nI_leI (by omega) (by omega))
theorem nI_ltJ {a b : Nat} (ha : a < 2147483648) (hb : b < 2147483648) : (nI a < nI b) = (a < b) := propext (nI_ltI (by omega) (by omega))
theorem nI_eqJ {a b : Nat} (ha : a < 2147483648) (hb : b < 2147483648) : (nI a = nI b) = (a = b) := propext (nI_eq (by omega) (by omega))
theorem nI_neM {a : Nat} (ha : a < 2147483648) : (nI a = (-1 : Int32)) = False := by
  refine propext ⟨fun h => ?_, False.elim⟩
  have h1 : (nI a).toInt = (a : Int) := nI_toInt (by omega)
  rw [h] at h1
  have h2 : (-1 : Int32).toInt = -1 := by decide
  omega
theorem nI_neM' {a : Nat} (ha : a < 2147483648) : ((-1 : Int32) = nI a) = False := by
  rw [show ((-1 : Int32) = nI a) = (nI a = (-1 : Int32)) from propext ⟨Eq.symm, Eq.symm⟩]; exact nI_neM ha
theorem nI_split (x : Int32) : (x < 0) ∨ ∃ j : Nat, j < 2147483648 ∧ x = nI j := by
  by_cases h : x < 0
  · exact Or.inl h
  · obtain ⟨j, h1, h2⟩ := nI_of h
    exact Or.inr ⟨j, by omega, h2⟩
theorem aw_chkT {α : Type} {inst : Decidable True} (x : Option α) : @aw_chk α True inst x = x := if_pos trivial
theorem aw_sI_e {d : Dt} {k j a b : Nat} {v : Int32} (h1 : a = k) (h2 : b = j) : (aw_sI d k j v).1 a b = v := if_pos ⟨h1, h2⟩
theorem aw_sI_n {d : Dt} {k j a b : Nat} {v : Int32} (h : ¬ (a = k ∧ b = j)) : (aw_sI d k j v).1 a b = d.1 a b := if_neg h
theorem aw_sI_2 {d : Dt} {k j : Nat} {v : Int32} : (aw_sI d k j v).2 = d.2 := rfl
theorem aw_sL_e {d : Dt} {k j a b : Nat} {v : Int64} (h1 : a = k) (h2 : b = j) : (aw_sL d k j v).2 a b = v := if_pos ⟨h1, h2⟩
theorem aw_sL_n {d : Dt} {k j a b : Nat} {v : Int64} (h : ¬ (a = k ∧ b = j)) : (aw_sL d k j v).2 a b = d.2 a b := if_neg h
theorem aw_sL_1 {d : Dt} {k j : Nat} {v : Int64} : (aw_sL d k j v).1 = d.1 := rfl
/-! the layout -/
def ly_kinds : List (Nat × Nat) := [(10, 13), (9, 4), (20, 4), (20, 20), (2, 8), (20, 6), (20, 6), (20, 6), (22, 6), (23, 20), (20, 4), (20, 4), (20, 4), (20, 4), (20, 4), (20, 4), (20, 4), (20, 4), (20, 4), (20, 4), (20, 4), (20, 4), (20, 4), (20, 4), (20, 4), (20, 4), (20, 4), (20, 4), (20, 4), (20, 4), (20, 20), (25, 3), (26, 5), (6, 4), (8, 1), (20, 17), (20, 50), (23, 50), (20, 4), (20, 4), (20, 4), (20, 4), (20, 4), (20, 4), (20, 4), (20, 4), (20, 4), (20, 4), (20, 4), (20, 4), (20, 4), (20, 4), (20, 4), (20, 4), (20, 4), (20, 4), (20, 4), (20, 4), (20, 4), (20, 4), (20, 4), (20, 4), (20, 4), (20, 4), (20, 4), (20, 4), (20, 4), (20, 4), (20, 4), (20, 4), (20, 4), (20, 4), (20, 4), (20, 4), (20, 4), (20, 4), (20, 4), (20, 4), (20, 4), (20, 4), (20, 4), (20, 4), (20, 4), (20, 4), (20, 4), (20, 4), (20, 4), (20, 4), (20, 50), (0, 7), (20, 4), (20, 4), (20, 4), (23, 4), (20, 5), (20, 5), (20, 5), (20, 5), (20, 5), (22, 5), (7, 3), (23, 20), (20, 16), (20, 16), (20, 16), (20, 16), (20, 16), (20, 16), (20, 16), (20, 16), (20, 16), (20, 16), (20, 16), (20, 16), (20, 16), (20, 16), (20, 16), (20, 16), (20, 16), (20, 16), (20, 16), (20, 16), (20, 20), (7, 3), (23, 20), (20, 16), (20, 16), (20, 16), (20, 16), (20, 16), (20, 16), (20, 16), (20, 16), (20, 16), (20, 16), (20, 16), (20, 16), (20, 16), (20, 16), (20, 16), (20, 16), (20, 16), (20, 16), (20, 16), (20, 16), (20, 20), (8, 1), (20, 17), (5, 6), (21, 17), (21, 17), (21, 17), (23, 16), (20, 5), (20, 5), (20, 5), (20, 5), (20, 5), (20, 5), (20, 5), (20, 5), (20, 5), (20, 5), (20, 5), (20, 5), (20, 5), (20, 5), (20, 5), (20, 5), (24, 5), (21, 17), (21, 17), (21, 17), (21, 17), (21, 17), (20, 4), (4, 8), (21, 20), (20, 20), (20, 50), (20, 1024), (20, 10), (3, 1), (20, 2500), (2, 8), (20, 6), (20, 6), (20, 6), (22, 6), (23, 20), (20, 4), (20, 4), (20, 4), (20, 4), (20, 4), (20, 4), (20, 4), (20, 4), (20, 4), (20, 4), (20, 4), (20, 4), (20, 4), (20, 4), (20, 4), (20, 4), (20, 4), (20, 4), (20, 4), (20, 4), (20, 20), (2, 8), (20, 6), (20, 6), (20, 6), (22, 6), (23, 20), (20, 4), (20, 4), (20, 4), (20, 4), (20, 4), (20, 4), (20, 4), (20, 4), (20, 4), (20, 4), (20, 4), (20, 4), (20, 4), (20, 4), (20, 4), (20, 4), (20, 4), (20, 4), (20, 4), (20, 4), (20, 20), (2, 8), (20, 6), (20, 6), (20, 6), (22, 6), (23, 20), (20, 4), (20, 4), (20, 4), (20, 4), (20, 4), (20, 4), (20, 4), (20, 4), (20, 4), (20, 4), (20, 4), (20, 4), (20, 4), (20, 4), (20, 4), (20, 4), (20, 4), (20, 4), (20, 4), (20, 4), (20, 20), (20, 28), (20, 64), (20, 21), (20, 50), (20, 50), (20, 50), (20, 50), (20, 50), (20, 12), (20, 2), (21, 12), (21, 12)]
def ly_refs : List (Nat × Nat × Nat) := [(0, 0, 1), (0, 1, 4), (0, 2, 31), (0, 3, 32), (0, 5, 33), (0, 6, 89), (0, 7, 100), (0, 8, 123), (0, 9, 146), (0, 10, 148), (0, 11, 176), (0, 12, 182), (1, 0, 2), (1, 2, 3), (4, 0, 5), (4, 1, 6), (4, 2, 7), (4, 3, 8), (4, 5, 9), (4, 6, 30), (9, 0, 10), (9, 1, 11), (9, 2, 12), (9, 3, 13), (9, 4, 14), (9, 5, 15), (9, 6, 16), (9, 7, 17), (9, 8, 18), (9, 9, 19), (9, 10, 20), (9, 11, 21), (9, 12, 22), (9, 13, 23), (9, 14, 24), (9, 15, 25), (9, 16, 26), (9, 17, 27), (9, 18, 28), (9, 19, 29), (31, 0, 184), (31, 1, 211), (31, 2, 238), (33, 0, 34), (33, 1, 36), (33, 2, 37), (33, 3, 88), (34, 0, 35), (37, 0, 38), (37, 1, 39), (37, 2, 40), (37, 3, 41), (37, 4, 42), (37, 5, 43), (37, 6, 44), (37, 7, 45), (37, 8, 46), (37, 9, 47), (37, 10, 48), (37, 11, 49), (37, 12, 50), (37, 13, 51), (37, 14, 52), (37, 15, 53), (37, 16, 54), (37, 17, 55), (37, 18, 56), (37, 19, 57), (37, 20, 58), (37, 21, 59), (37, 22, 60), (37, 23, 61), (37, 24, 62), (37, 25, 63), (37, 26, 64), (37, 27, 65), (37, 28, 66), (37, 29, 67), (37, 30, 68), (37, 31, 69), (37, 32, 70), (37, 33, 71), (37, 34, 72), (37, 35, 73), (37, 36, 74), (37, 37, 75), (37, 38, 76), (37, 39, 77), (37, 40, 78), (37, 41, 79), (37, 42, 80), (37, 43, 81), (37, 44, 82), (37, 45, 83), (37, 46, 84), (37, 47, 85), (37, 48, 86), (37, 49, 87), (89, 0, 90), (89, 1, 91), (89, 2, 92), (89, 3, 93), (89, 4, 98), (89, 5, 99), (93, 0, 94), (93, 1, 95), (93, 2, 96), (93, 3, 97), (100, 0, 101), (100, 1, 122), (101, 0, 102), (101, 1, 103), (101, 2, 104), (101, 3, 105), (101, 4, 106), (101, 5, 107), (101, 6, 108), (101, 7, 109), (101, 8, 110), (101, 9, 111), (101, 10, 112), (101, 11, 113), (101, 12, 114), (101, 13, 115), (101, 14, 116), (101, 15, 117), (101, 16, 118), (101, 17, 119), (101, 18, 120), (101, 19, 121), (123, 0, 124), (123, 1, 145), (124, 0, 125), (124, 1, 126), (124, 2, 127), (124, 3, 128), (124, 4, 129), (124, 5, 130), (124, 6, 131), (124, 7, 132), (124, 8, 133), (124, 9, 134), (124, 10, 135), (124, 11, 136), (124, 12, 137), (124, 13, 138), (124, 14, 139), (124, 15, 140), (124, 16, 141), (124, 17, 142), (124, 18, 143), (124, 19, 144), (146, 0, 147), (148, 0, 149), (148, 1, 150), (148, 2, 151), (148, 3, 152), (148, 4, 169), (148, 5, 175), (152, 0, 153), (152, 1, 154), (152, 2, 155), (152, 3, 156), (152, 4, 157), (152, 5, 158), (152, 6, 159), (152, 7, 160), (152, 8, 161), (152, 9, 162), (152, 10, 163), (152, 11, 164), (152, 12, 165), (152, 13, 166), (152, 14, 167), (152, 15, 168), (169, 0, 170), (169, 1, 171), (169, 2, 172), (169, 3, 173), (169, 4, 174), (176, 0, 177), (176, 1, 178), (176, 4, 179), (176, 6, 180), (176, 7, 181), (182, 0, 183), (184, 0, 185), (184, 1, 186), (184, 2, 187), (184, 3, 188), (184, 5, 189), (184, 6, 210), (189, 0, 190), (189, 1, 191), (189, 2, 192), (189, 3, 193), (189, 4, 194), (189, 5, 195), (189, 6, 196), (189, 7, 197), (189, 8, 198), (189, 9, 199), (189, 10, 200), (189, 11, 201), (189, 12, 202), (189, 13, 203), (189, 14, 204), (189, 15, 205), (189, 16, 206), (189, 17, 207), (189, 18, 208), (189, 19, 209), (211, 0, 212), (211, 1, 213), (211, 2, 214), (211, 3, 215), (211, 5, 216), (211, 6, 237), (216, 0, 217), (216, 1, 218), (216, 2, 219), (216, 3, 220), (216, 4, 221), (216, 5, 222), (216, 6, 223), (216, 7, 224), (216, 8, 225), (216, 9, 226), (216, 10, 227), (216, 11, 228), (216, 12, 229), (216, 13, 230), (216, 14, 231), (216, 15, 232), (216, 16, 233), (216, 17, 234), (216, 18, 235), (216, 19, 236), (238, 0, 239), (238, 1, 240), (238, 2, 241), (238, 3, 242), (238, 5, 243), (238, 6, 264), (243, 0, 244), (243, 1, 245), (243, 2, 246), (243, 3, 247), (243, 4, 248), (243, 5, 249), (243, 6, 250), (243, 7, 251), (243, 8, 252), (243, 9, 253), (243, 10, 254), (243, 11, 255), (243, 12, 256), (243, 13, 257), (243, 14, 258), (243, 15, 259), (243, 16, 260), (243, 17, 261), (243, 18, 262), (243, 19, 263)]
def ly_k (k : Nat) : Nat × Nat := ly_kinds.getD k (0, 0)
/-- how many designs there are -/
def ly_n (σ : Sg) : Nat := (σ.1 - 277) / 4
def ly_D (σ : Sg) (x : Nat) : Prop := σ.2.1 x = (1, 5) ∧ σ.2.1 (x + 1) = (20, 47) ∧ σ.2.1 (x + 2) = (22, 3) ∧ σ.2.1 (x + 3) = (20, 50) ∧ σ.2.2 x 2 = some (x + 1) ∧ σ.2.2 x 3 = some (x + 2) ∧ σ.2.2 x 4 = some (x + 3)
def Lay (σ : Sg) : Prop := σ.1 = 277 + 4 * ly_n σ ∧ ly_n σ ≤ 5 ∧ (∀ k, k < 277 → σ.2.1 k = ly_k k) ∧ (∀ t ∈ ly_refs, σ.2.2 t.1 t.2.1 = some t.2.2) ∧ ∀ D, D < ly_n σ → σ.2.2 32 D = some (277 + 4 * D) ∧ ly_D σ (277 + 4 * D)
theorem Lay.sz {σ : Sg} (h : Lay σ) : 277 ≤ σ.1 := by have := h.1; omega
theorem Lay.k {σ : Sg} (h : Lay σ) {k : Nat} (hk : k < 277) {t : Nat × Nat} (ht : ly_k k = t) : k < σ.1 ∧ σ.2.1 k = t := ⟨Nat.lt_of_lt_of_le hk h.sz, (h.2.2.1 k hk).trans ht⟩
theorem Lay.r {σ : Sg} (h : Lay σ) {k j r : Nat} (hm : (k, j, r) ∈ ly_refs) : σ.2.2 k j = some r := h.2.2.2.1 _ hm
theorem ly_O {σ : Sg} (h : Lay σ) {k c n : Nat} (hk : k < 277) (ht : ly_k k = (c, n)) : aw_O σ c n k := h.k hk ht
theorem ly_I {σ : Sg} (h : Lay σ) {k t N i : Nat} (hk : k < 277) (ht : ly_k k = (t, N)) (hi : i < N) (hN : N < 5000) : aw_I σ t k (nI i) := by
  obtain ⟨h1, h2⟩ := h.k hk ht
  refine ⟨h1, by rw [h2], ?_⟩
  rw [h2]
  exact nI_in hi (by show N < 2 ^ 31; omega)
theorem ck_t {α : Type} {b : Prop} {inst : Decidable b} (h : b) (x : Option α) : @aw_chk α b inst x = x := if_pos h
theorem lo_0 {σ : Sg} (h : Lay σ) {α : Type} {inst : Decidable (aw_O σ 10 13 0)} (x : Option α) : @aw_chk α _ inst x = x := ck_t (ly_O h (by decide) (by decide)) x
theorem lo_1 {σ : Sg} (h : Lay σ) {α : Type} {inst : Decidable (aw_O σ 9 4 1)} (x : Option α) : @aw_chk α _ inst x = x := ck_t (ly_O h (by decide) (by decide)) x
theorem lo_33 {σ : Sg} (h : Lay σ) {α : Type} {inst : Decidable (aw_O σ 6 4 33)} (x : Option α) : @aw_chk α _ inst x = x := ck_t (ly_O h (by decide) (by decide)) x
theorem lo_34 {σ : Sg} (h : Lay σ) {α : Type} {inst : Decidable (aw_O σ 8 1 34)} (x : Option α) : @aw_chk α _ inst x = x := ck_t (ly_O h (by decide) (by decide)) x
theorem lo_89 {σ : Sg} (h : Lay σ) {α : Type} {inst : Decidable (aw_O σ 0 7 89)} (x : Option α) : @aw_chk α _ inst x = x := ck_t (ly_O h (by decide) (by decide)) x
theorem lo_100 {σ : Sg} (h : Lay σ) {α : Type} {inst : Decidable (aw_O σ 7 3 100)} (x : Option α) : @aw_chk α _ inst x = x := ck_t (ly_O h (by decide) (by decide)) x
theorem lo_123 {σ : Sg} (h : Lay σ) {α : Type} {inst : Decidable (aw_O σ 7 3 123)} (x : Option α) : @aw_chk α _ inst x = x := ck_t (ly_O h (by decide) (by decide)) x
theorem lo_146 {σ : Sg} (h : Lay σ) {α : Type} {inst : Decidable (aw_O σ 8 1 146)} (x : Option α) : @aw_chk α _ inst x = x := ck_t (ly_O h (by decide) (by decide)) x
theorem lo_148 {σ : Sg} (h : Lay σ) {α : Type} {inst : Decidable (aw_O σ 5 6 148)} (x : Option α) : @aw_chk α _ inst x = x := ck_t (ly_O h (by decide) (by decide)) x
theorem lo_176 {σ : Sg} (h : Lay σ) {α : Type} {inst : Decidable (aw_O σ 4 8 176)} (x : Option α) : @aw_chk α _ inst x = x := ck_t (ly_O h (by decide) (by decide)) x
theorem lo_182 {σ : Sg} (h : Lay σ) {α : Type} {inst : Decidable (aw_O σ 3 1 182)} (x : Option α) : @aw_chk α _ inst x = x := ck_t (ly_O h (by decide) (by decide)) x
theorem li_2 {σ : Sg} (h : Lay σ) {i : Nat} (hi : i < 4) {α : Type} {inst : Decidable (aw_I σ 20 2 (nI i))} (x : Option α) : @aw_chk α _ inst x = x := ck_t (ly_I h (by decide) (by decide) hi (by decide)) x
theorem li_3 {σ : Sg} (h : Lay σ) {i : Nat} (hi : i < 20) {α : Type} {inst : Decidable (aw_I σ 20 3 (nI i))} (x : Option α) : @aw_chk α _ inst x = x := ck_t (ly_I h (by decide) (by decide) hi (by decide)) x
theorem li_31 {σ : Sg} (h : Lay σ) {i : Nat} (hi : i < 3) {α : Type} {inst : Decidable (aw_I σ 25 31 (nI i))} (x : Option α) : @aw_chk α _ inst x = x := ck_t (ly_I h (by decide) (by decide) hi (by decide)) x
theorem li_32 {σ : Sg} (h : Lay σ) {i : Nat} (hi : i < 5) {α : Type} {inst : Decidable (aw_I σ 26 32 (nI i))} (x : Option α) : @aw_chk α _ inst x = x := ck_t (ly_I h (by decide) (by decide) hi (by decide)) x
theorem li_35 {σ : Sg} (h : Lay σ) {i : Nat} (hi : i < 17) {α : Type} {inst : Decidable (aw_I σ 20 35 (nI i))} (x : Option α) : @aw_chk α _ inst x = x := ck_t (ly_I h (by decide) (by decide) hi (by decide)) x
theorem li_36 {σ : Sg} (h : Lay σ) {i : Nat} (hi : i < 50) {α : Type} {inst : Decidable (aw_I σ 20 36 (nI i))} (x : Option α) : @aw_chk α _ inst x = x := ck_t (ly_I h (by decide) (by decide) hi (by decide)) x
theorem li_37 {σ : Sg} (h : Lay σ) {i : Nat} (hi : i < 50) {α : Type} {inst : Decidable (aw_I σ 23 37 (nI i))} (x : Option α) : @aw_chk α _ inst x = x := ck_t (ly_I h (by decide) (by decide) hi (by decide)) x
theorem li_88 {σ : Sg} (h : Lay σ) {i : Nat} (hi : i < 50) {α : Type} {inst : Decidable (aw_I σ 20 88 (nI i))} (x : Option α) : @aw_chk α _ inst x = x := ck_t (ly_I h (by decide) (by decide) hi (by decide)) x
theorem li_90 {σ : Sg} (h : Lay σ) {i : Nat} (hi : i < 4) {α : Type} {inst : Decidable (aw_I σ 20 90 (nI i))} (x : Option α) : @aw_chk α _ inst x = x := ck_t (ly_I h (by decide) (by decide) hi (by decide)) x
theorem li_91 {σ : Sg} (h : Lay σ) {i : Nat} (hi : i < 4) {α : Type} {inst : Decidable (aw_I σ 20 91 (nI i))} (x : Option α) : @aw_chk α _ inst x = x := ck_t (ly_I h (by decide) (by decide) hi (by decide)) x
theorem li_92 {σ : Sg} (h : Lay σ) {i : Nat} (hi : i < 4) {α : Type} {inst : Decidable (aw_I σ 20 92 (nI i))} (x : Option α) : @aw_chk α _ inst x = x := ck_t (ly_I h (by decide) (by decide) hi (by decide)) x
theorem li_93 {σ : Sg} (h : Lay σ) {i : Nat} (hi : i < 4) {α : Type} {inst : Decidable (aw_I σ 23 93 (nI i))} (x : Option α) : @aw_chk α _ inst x = x := ck_t (ly_I h (by decide) (by decide) hi (by decide)) x
theorem li_98 {σ : Sg} (h : Lay σ) {i : Nat} (hi : i < 5) {α : Type} {inst : Decidable (aw_I σ 20 98 (nI i))} (x : Option α) : @aw_chk α _ inst x = x := ck_t (ly_I h (by decide) (by decide) hi (by decide)) x
theorem li_99 {σ : Sg} (h : Lay σ) {i : Nat} (hi : i < 5) {α : Type} {inst : Decidable (aw_I σ 22 99 (nI i))} (x : Option α) : @aw_chk α _ inst x = x := ck_t (ly_I h (by decide) (by decide) hi (by decide)) x
theorem li_101 {σ : Sg} (h : Lay σ) {i : Nat} (hi : i < 20) {α : Type} {inst : Decidable (aw_I σ 23 101 (nI i))} (x : Option α) : @aw_chk α _ inst x = x := ck_t (ly_I h (by decide) (by decide) hi (by decide)) x
theorem li_122 {σ : Sg} (h : Lay σ) {i : Nat} (hi : i < 20) {α : Type} {inst : Decidable (aw_I σ 20 122 (nI i))} (x : Option α) : @aw_chk α _ inst x = x := ck_t (ly_I h (by decide) (by decide) hi (by decide)) x
theorem li_124 {σ : Sg} (h : Lay σ) {i : Nat} (hi : i < 20) {α : Type} {inst : Decidable (aw_I σ 23 124 (nI i))} (x : Option α) : @aw_chk α _ inst x = x := ck_t (ly_I h (by decide) (by decide) hi (by decide)) x
theorem li_145 {σ : Sg} (h : Lay σ) {i : Nat} (hi : i < 20) {α : Type} {inst : Decidable (aw_I σ 20 145 (nI i))} (x : Option α) : @aw_chk α _ inst x = x := ck_t (ly_I h (by decide) (by decide) hi (by decide)) x
theorem li_147 {σ : Sg} (h : Lay σ) {i : Nat} (hi : i < 17) {α : Type} {inst : Decidable (aw_I σ 20 147 (nI i))} (x : Option α) : @aw_chk α _ inst x = x := ck_t (ly_I h (by decide) (by decide) hi (by decide)) x
theorem li_149 {σ : Sg} (h : Lay σ) {i : Nat} (hi : i < 17) {α : Type} {inst : Decidable (aw_I σ 21 149 (nI i))} (x : Option α) : @aw_chk α _ inst x = x := ck_t (ly_I h (by decide) (by decide) hi (by decide)) x
theorem li_150 {σ : Sg} (h : Lay σ) {i : Nat} (hi : i < 17) {α : Type} {inst : Decidable (aw_I σ 21 150 (nI i))} (x : Option α) : @aw_chk α _ inst x = x := ck_t (ly_I h (by decide) (by decide) hi (by decide)) x
theorem li_151 {σ : Sg} (h : Lay σ) {i : Nat} (hi : i < 17) {α : Type} {inst : Decidable (aw_I σ 21 151 (nI i))} (x : Option α) : @aw_chk α _ inst x = x := ck_t (ly_I h (by decide) (by decide) hi (by decide)) x
theorem li_152 {σ : Sg} (h : Lay σ) {i : Nat} (hi : i < 16) {α : Type} {inst : Decidable (aw_I σ 23 152 (nI i))} (x : Option α) : @aw_chk α _ inst x = x := ck_t (ly_I h (by decide) (by decide) hi (by decide)) x
theorem li_169 {σ : Sg} (h : Lay σ) {i : Nat} (hi : i < 5) {α : Type} {inst : Decidable (aw_I σ 24 169 (nI i))} (x : Option α) : @aw_chk α _ inst x = x := ck_t (ly_I h (by decide) (by decide) hi (by decide)) x
theorem li_175 {σ : Sg} (h : Lay σ) {i : Nat} (hi : i < 4) {α : Type} {inst : Decidable (aw_I σ 20 175 (nI i))} (x : Option α) : @aw_chk α _ inst x = x := ck_t (ly_I h (by decide) (by decide) hi (by decide)) x
theorem li_177 {σ : Sg} (h : Lay σ) {i : Nat} (hi : i < 20) {α : Type} {inst : Decidable (aw_I σ 21 177 (nI i))} (x : Option α) : @aw_chk α _ inst x = x := ck_t (ly_I h (by decide) (by decide) hi (by decide)) x
theorem li_178 {σ : Sg} (h : Lay σ) {i : Nat} (hi : i < 20) {α : Type} {inst : Decidable (aw_I σ 20 178 (nI i))} (x : Option α) : @aw_chk α _ inst x = x := ck_t (ly_I h (by decide) (by decide) hi (by decide)) x
theorem li_179 {σ : Sg} (h : Lay σ) {i : Nat} (hi : i < 50) {α : Type} {inst : Decidable (aw_I σ 20 179 (nI i))} (x : Option α) : @aw_chk α _ inst x = x := ck_t (ly_I h (by decide) (by decide) hi (by decide)) x
theorem li_180 {σ : Sg} (h : Lay σ) {i : Nat} (hi : i < 1024) {α : Type} {inst : Decidable (aw_I σ 20 180 (nI i))} (x : Option α) : @aw_chk α _ inst x = x := ck_t (ly_I h (by decide) (by decide) hi (by decide)) x
theorem li_181 {σ : Sg} (h : Lay σ) {i : Nat} (hi : i < 10) {α : Type} {inst : Decidable (aw_I σ 20 181 (nI i))} (x : Option α) : @aw_chk α _ inst x = x := ck_t (ly_I h (by decide) (by decide) hi (by decide)) x
theorem li_183 {σ : Sg} (h : Lay σ) {i : Nat} (hi : i < 2500) {α : Type} {inst : Decidable (aw_I σ 20 183 (nI i))} (x : Option α) : @aw_chk α _ inst x = x := ck_t (ly_I h (by decide) (by decide) hi (by decide)) x
theorem li_265 {σ : Sg} (h : Lay σ) {i : Nat} (hi : i < 28) {α : Type} {inst : Decidable (aw_I σ 20 265 (nI i))} (x : Option α) : @aw_chk α _ inst x = x := ck_t (ly_I h (by decide) (by decide) hi (by decide)) x
theorem li_266 {σ : Sg} (h : Lay σ) {i : Nat} (hi : i < 64) {α : Type} {inst : Decidable (aw_I σ 20 266 (nI i))} (x : Option α) : @aw_chk α _ inst x = x := ck_t (ly_I h (by decide) (by decide) hi (by decide)) x
theorem li_267 {σ : Sg} (h : Lay σ) {i : Nat} (hi : i < 21) {α : Type} {inst : Decidable (aw_I σ 20 267 (nI i))} (x : Option α) : @aw_chk α _ inst x = x := ck_t (ly_I h (by decide) (by decide) hi (by decide)) x
theorem li_268 {σ : Sg} (h : Lay σ) {i : Nat} (hi : i < 50) {α : Type} {inst : Decidable (aw_I σ 20 268 (nI i))} (x : Option α) : @aw_chk α _ inst x = x := ck_t (ly_I h (by decide) (by decide) hi (by decide)) x
theorem li_269 {σ : Sg} (h : Lay σ) {i : Nat} (hi : i < 50) {α : Type} {inst : Decidable (aw_I σ 20 269 (nI i))} (x : Option α) : @aw_chk α _ inst x = x := ck_t (ly_I h (by decide) (by decide) hi (by decide)) x
theorem li_270 {σ : Sg} (h : Lay σ) {i : Nat} (hi : i < 50) {α : Type} {inst : Decidable (aw_I σ 20 270 (nI i))} (x : Option α) : @aw_chk α _ inst x = x := ck_t (ly_I h (by decide) (by decide) hi (by decide)) x
theorem li_271 {σ : Sg} (h : Lay σ) {i : Nat} (hi : i < 50) {α : Type} {inst : Decidable (aw_I σ 20 271 (nI i))} (x : Option α) : @aw_chk α _ inst x = x := ck_t (ly_I h (by decide) (by decide) hi (by decide)) x
theorem li_272 {σ : Sg} (h : Lay σ) {i : Nat} (hi : i < 50) {α : Type} {inst : Decidable (aw_I σ 20 272 (nI i))} (x : Option α) : @aw_chk α _ inst x = x := ck_t (ly_I h (by decide) (by decide) hi (by decide)) x
theorem li_273 {σ : Sg} (h : Lay σ) {i : Nat} (hi : i < 12) {α : Type} {inst : Decidable (aw_I σ 20 273 (nI i))} (x : Option α) : @aw_chk α _ inst x = x := ck_t (ly_I h (by decide) (by decide) hi (by decide)) x
theorem li_274 {σ : Sg} (h : Lay σ) {i : Nat} (hi : i < 2) {α : Type} {inst : Decidable (aw_I σ 20 274 (nI i))} (x : Option α) : @aw_chk α _ inst x = x := ck_t (ly_I h (by decide) (by decide) hi (by decide)) x
theorem li_275 {σ : Sg} (h : Lay σ) {i : Nat} (hi : i < 12) {α : Type} {inst : Decidable (aw_I σ 21 275 (nI i))} (x : Option α) : @aw_chk α _ inst x = x := ck_t (ly_I h (by decide) (by decide) hi (by decide)) x
theorem li_276 {σ : Sg} (h : Lay σ) {i : Nat} (hi : i < 12) {α : Type} {inst : Decidable (aw_I σ 21 276 (nI i))} (x : Option α) : @aw_chk α _ inst x = x := ck_t (ly_I h (by decide) (by decide) hi (by decide)) x
theorem li_38 {σ : Sg} (h : Lay σ) {w i : Nat} (hw : w < 50) (hi : i < 4) {α : Type} {inst : Decidable (aw_I σ 20 (38 + w) (nI i))} (x : Option α) : @aw_chk α _ inst x = x := ck_t (ly_I h (by omega) ((by decide : ∀ w, w < 50 → ly_k (38 + w) = (20, 4)) w hw) hi (by decide)) x
theorem lr_37 {σ : Sg} (h : Lay σ) {w : Nat} (hw : w < 50) : σ.2.2 37 w = some (38 + w) := h.r ((by decide : ∀ w, w < 50 → (37, w, 38 + w) ∈ ly_refs) w hw)
theorem li_94 {σ : Sg} (h : Lay σ) {w i : Nat} (hw : w < 4) (hi : i < 5) {α : Type} {inst : Decidable (aw_I σ 20 (94 + w) (nI i))} (x : Option α) : @aw_chk α _ inst x = x := ck_t (ly_I h (by omega) ((by decide : ∀ w, w < 4 → ly_k (94 + w) = (20, 5)) w hw) hi (by decide)) x
theorem lr_93 {σ : Sg} (h : Lay σ) {w : Nat} (hw : w < 4) : σ.2.2 93 w = some (94 + w) := h.r ((by decide : ∀ w, w < 4 → (93, w, 94 + w) ∈ ly_refs) w hw)
theorem li_102 {σ : Sg} (h : Lay σ) {w i : Nat} (hw : w < 20) (hi : i < 16) {α : Type} {inst : Decidable (aw_I σ 20 (102 + w) (nI i))} (x : Option α) : @aw_chk α _ inst x = x := ck_t (ly_I h (by omega) ((by decide : ∀ w, w < 20 → ly_k (102 + w) = (20, 16)) w hw) hi (by decide)) x
theorem lr_101 {σ : Sg} (h : Lay σ) {w : Nat} (hw : w < 20) : σ.2.2 101 w = some (102 + w) := h.r ((by decide : ∀ w, w < 20 → (101, w, 102 + w) ∈ ly_refs) w hw)
theorem li_125 {σ : Sg} (h : Lay σ) {w i : Nat} (hw : w < 20) (hi : i < 16) {α : Type} {inst : Decidable (aw_I σ 20 (125 + w) (nI i))} (x : Option α) : @aw_chk α _ inst x = x := ck_t (ly_I h (by omega) ((by decide : ∀ w, w < 20 → ly_k (125 + w) = (20, 16)) w hw) hi (by decide)) x
theorem lr_124 {σ : Sg} (h : Lay σ) {w : Nat} (hw : w < 20) : σ.2.2 124 w = some (125 + w) := h.r ((by decide : ∀ w, w < 20 → (124, w, 125 + w) ∈ ly_refs) w hw)
theorem li_153 {σ : Sg} (h : Lay σ) {w i : Nat} (hw : w < 16) (hi : i < 5) {α : Type} {inst : Decidable (aw_I σ 20 (153 + w) (nI i))} (x : Option α) : @aw_chk α _ inst x = x := ck_t (ly_I h (by omega) ((by decide : ∀ w, w < 16 → ly_k (153 + w) = (20, 5)) w hw) hi (by decide)) x
theorem lr_152 {σ : Sg} (h : Lay σ) {w : Nat} (hw : w < 16) : σ.2.2 152 w = some (153 + w) := h.r ((by decide : ∀ w, w < 16 → (152, w, 153 + w) ∈ ly_refs) w hw)
theorem li_170 {σ : Sg} (h : Lay σ) {w i : Nat} (hw : w < 5) (hi : i < 17) {α : Type} {inst : Decidable (aw_I σ 21 (170 + w) (nI i))} (x : Option α) : @aw_chk α _ inst x = x := ck_t (ly_I h (by omega) ((by decide : ∀ w, w < 5 → ly_k (170 + w) = (21, 17)) w hw) hi (by decide)) x
theorem lr_169 {σ : Sg} (h : Lay σ) {w : Nat} (hw : w < 5) : σ.2.2 169 w = some (170 + w) := h.r ((by decide : ∀ w, w < 5 → (169, w, 170 + w) ∈ ly_refs) w hw)
theorem lr_0_0 {σ : Sg} (h : Lay σ) : σ.2.2 0 0 = some 1 := h.r (by decide)
theorem lr_0_1 {σ : Sg} (h : Lay σ) : σ.2.2 0 1 = some 4 := h.r (by decide)
theorem lr_0_2 {σ : Sg} (h : Lay σ) : σ.2.2 0 2 = some 31 := h.r (by decide)
theorem lr_0_3 {σ : Sg} (h : Lay σ) : σ.2.2 0 3 = some 32 := h.r (by decide)
theorem lr_0_5 {σ : Sg} (h : Lay σ) : σ.2.2 0 5 = some 33 := h.r (by decide)
theorem lr_0_6 {σ : Sg} (h : Lay σ) : σ.2.2 0 6 = some 89 := h.r (by decide)
theorem lr_0_7 {σ : Sg} (h : Lay σ) : σ.2.2 0 7 = some 100 := h.r (by decide)
theorem lr_0_8 {σ : Sg} (h : Lay σ) : σ.2.2 0 8 = some 123 := h.r (by decide)
theorem lr_0_9 {σ : Sg} (h : Lay σ) : σ.2.2 0 9 = some 146 := h.r (by decide)
theorem lr_0_10 {σ : Sg} (h : Lay σ) : σ.2.2 0 10 = some 148 := h.r (by decide)
theorem lr_0_11 {σ : Sg} (h : Lay σ) : σ.2.2 0 11 = some 176 := h.r (by decide)
theorem lr_0_12 {σ : Sg} (h : Lay σ) : σ.2.2 0 12 = some 182 := h.r (by decide)
theorem lr_1_0 {σ : Sg} (h : Lay σ) : σ.2.2 1 0 = some 2 := h.r (by decide)
theorem lr_1_2 {σ : Sg} (h : Lay σ) : σ.2.2 1 2 = some 3 := h.r (by decide)
theorem lr_33_0 {σ : Sg} (h : Lay σ) : σ.2.2 33 0 = some 34 := h.r (by decide)
theorem lr_33_1 {σ : Sg} (h : Lay σ) : σ.2.2 33 1 = some 36 := h.r (by decide)
theorem lr_33_2 {σ : Sg} (h : Lay σ) : σ.2.2 33 2 = some 37 := h.r (by decide)
theorem lr_33_3 {σ : Sg} (h : Lay σ) : σ.2.2 33 3 = some 88 := h.r (by decide)
theorem lr_34_0 {σ : Sg} (h : Lay σ) : σ.2.2 34 0 = some 35 := h.r (by decide)
theorem lr_89_0 {σ : Sg} (h : Lay σ) : σ.2.2 89 0 = some 90 := h.r (by decide)
theorem lr_89_1 {σ : Sg} (h : Lay σ) : σ.2.2 89 1 = some 91 := h.r (by decide)
theorem lr_89_2 {σ : Sg} (h : Lay σ) : σ.2.2 89 2 = some 92 := h.r (by decide)
theorem lr_89_3 {σ : Sg} (h : Lay σ) : σ.2.2 89 3 = some 93 := h.r (by decide)
theorem lr_89_4 {σ : Sg} (h : Lay σ) : σ.2.2 89 4 = some 98 := h.r (by decide)
theorem lr_89_5 {σ : Sg} (h : Lay σ) : σ.2.2 89 5 = some 99 := h.r (by decide)
theorem lr_100_0 {σ : Sg} (h : Lay σ) : σ.2.2 100 0 = some 101 := h.r (by decide)
theorem lr_100_1 {σ : Sg} (h : Lay σ) : σ.2.2 100 1 = some 122 := h.r (by decide)
theorem lr_123_0 {σ : Sg} (h : Lay σ) : σ.2.2 123 0 = some 124 := h.r (by decide)
theorem lr_123_1 {σ : Sg} (h : Lay σ) : σ.2.2 123 1 = some 145 := h.r (by decide)
theorem lr_146_0 {σ : Sg} (h : Lay σ) : σ.2.2 146 0 = some 147 := h.r (by decide)
theorem lr_148_0 {σ : Sg} (h : Lay σ) : σ.2.2 148 0 = some 149 := h.r (by decide)
theorem lr_148_1 {σ : Sg} (h : Lay σ) : σ.2.2 148 1 = some 150 := h.r (by decide)
theorem lr_148_2 {σ : Sg} (h : Lay σ) : σ.2.2 148 2 = some 151 := h.r (by decide)
theorem lr_148_3 {σ : Sg} (h : Lay σ) : σ.2.2 148 3 = some 152 := h.r (by decide)
theorem lr_148_4 {σ : Sg} (h : Lay σ) : σ.2.2 148 4 = some 169 := h.r (by decide)
theorem lr_148_5 {σ : Sg} (h : Lay σ) : σ.2.2 148 5 = some 175 := h.r (by decide)
theorem lr_176_0 {σ : Sg} (h : Lay σ) : σ.2.2 176 0 = some 177 := h.r (by decide)
theorem lr_176_1 {σ : Sg} (h : Lay σ) : σ.2.2 176 1 = some 178 := h.r (by decide)
theorem lr_176_4 {σ : Sg} (h : Lay σ) : σ.2.2 176 4 = some 179 := h.r (by decide)
theorem lr_176_6 {σ : Sg} (h : Lay σ) : σ.2.2 176 6 = some 180 := h.r (by decide)
theorem lr_176_7 {σ : Sg} (h : Lay σ) : σ.2.2 176 7 = some 181 := h.r (by decide)
theorem lr_182_0 {σ : Sg} (h : Lay σ) : σ.2.2 182 0 = some 183 := h.r (by decide)
def dlx (k : Nat) : Nat := if k = 0 then 4 else 157 + 27 * k
theorem lo_D {σ : Sg} (h : Lay σ) {x : Nat} (hx : x = 4 ∨ x = 184 ∨ x = 211 ∨ x = 238) {α : Type} {inst : Decidable (aw_O σ 2 8 x)} (y : Option α) : @aw_chk α _ inst y = y := ck_t (by rcases hx with rfl | rfl | rfl | rfl <;> exact ly_O h (by decide) (by decide)) y
theorem lr_D_0 {σ : Sg} (h : Lay σ) {x : Nat} (hx : x = 4 ∨ x = 184 ∨ x = 211 ∨ x = 238) : σ.2.2 x 0 = some (x + 1) := by rcases hx with rfl | rfl | rfl | rfl <;> exact h.r (by decide)
theorem lr_D_1 {σ : Sg} (h : Lay σ) {x : Nat} (hx : x = 4 ∨ x = 184 ∨ x = 211 ∨ x = 238) : σ.2.2 x 1 = some (x + 2) := by rcases hx with rfl | rfl | rfl | rfl <;> exact h.r (by decide)
theorem lr_D_2 {σ : Sg} (h : Lay σ) {x : Nat} (hx : x = 4 ∨ x = 184 ∨ x = 211 ∨ x = 238) : σ.2.2 x 2 = some (x + 3) := by rcases hx with rfl | rfl | rfl | rfl <;> exact h.r (by decide)
theorem lr_D_3 {σ : Sg} (h : Lay σ) {x : Nat} (hx : x = 4 ∨ x = 184 ∨ x = 211 ∨ x = 238) : σ.2.2 x 3 = some (x + 4) := by rcases hx with rfl | rfl | rfl | rfl <;> exact h.r (by decide)
theorem lr_D_5 {σ : Sg} (h : Lay σ) {x : Nat} (hx : x = 4 ∨ x = 184 ∨ x = 211 ∨ x = 238) : σ.2.2 x 5 = some (x + 5) := by rcases hx with rfl | rfl | rfl | rfl <;> exact h.r (by decide)
theorem lr_D_6 {σ : Sg} (h : Lay σ) {x : Nat} (hx : x = 4 ∨ x = 184 ∨ x = 211 ∨ x = 238) : σ.2.2 x 6 = some (x + 26) := by rcases hx with rfl | rfl | rfl | rfl <;> exact h.r (by decide)
theorem li_D_1 {σ : Sg} (h : Lay σ) {x i : Nat} (hx : x = 4 ∨ x = 184 ∨ x = 211 ∨ x = 238) (hi : i < 6) {α : Type} {inst : Decidable (aw_I σ 20 (x + 1) (nI i))} (y : Option α) : @aw_chk α _ inst y = y := ck_t (by rcases hx with rfl | rfl | rfl | rfl <;> exact ly_I h (by decide) (by decide) hi (by decide)) y
theorem li_D_2 {σ : Sg} (h : Lay σ) {x i : Nat} (hx : x = 4 ∨ x = 184 ∨ x = 211 ∨ x = 238) (hi : i < 6) {α : Type} {inst : Decidable (aw_I σ 20 (x + 2) (nI i))} (y : Option α) : @aw_chk α _ inst y = y := ck_t (by rcases hx with rfl | rfl | rfl | rfl <;> exact ly_I h (by decide) (by decide) hi (by decide)) y
theorem li_D_3 {σ : Sg} (h : Lay σ) {x i : Nat} (hx : x = 4 ∨ x = 184 ∨ x = 211 ∨ x = 238) (hi : i < 6) {α : Type} {inst : Decidable (aw_I σ 20 (x + 3) (nI i))} (y : Option α) : @aw_chk α _ inst y = y := ck_t (by rcases hx with rfl | rfl | rfl | rfl <;> exact ly_I h (by decide) (by decide) hi (by decide)) y
theorem li_D_4 {σ : Sg} (h : Lay σ) {x i : Nat} (hx : x = 4 ∨ x = 184 ∨ x = 211 ∨ x = 238) (hi : i < 6) {α : Type} {inst : Decidable (aw_I σ 22 (x + 4) (nI i))} (y : Option α) : @aw_chk α _ inst y = y := ck_t (by rcases hx with rfl | rfl | rfl | rfl <;> exact ly_I h (by decide) (by decide) hi (by decide)) y
theorem li_D_5 {σ : Sg} (h : Lay σ) {x i : Nat} (hx : x = 4 ∨ x = 184 ∨ x = 211 ∨ x = 238) (hi : i < 20) {α : Type} {inst : Decidable (aw_I σ 23 (x + 5) (nI i))} (y : Option α) : @aw_chk α _ inst y = y := ck_t (by rcases hx with rfl | rfl | rfl | rfl <;> exact ly_I h (by decide) (by decide) hi (by decide)) y
theorem li_D_26 {σ : Sg} (h : Lay σ) {x i : Nat} (hx : x = 4 ∨ x = 184 ∨ x = 211 ∨ x = 238) (hi : i < 20) {α : Type} {inst : Decidable (aw_I σ 20 (x + 26) (nI i))} (y : Option α) : @aw_chk α _ inst y = y := ck_t (by rcases hx with rfl | rfl | rfl | rfl <;> exact ly_I h (by decide) (by decide) hi (by decide)) y
theorem lr_D_r {σ : Sg} (h : Lay σ) {x w : Nat} (hx : x = 4 ∨ x = 184 ∨ x = 211 ∨ x = 238) (hw : w < 20) : σ.2.2 (x + 5) w = some (x + 6 + w) := by
  rcases hx with rfl | rfl | rfl | rfl
  · exact h.r ((by decide : ∀ w, w < 20 → (4 + 5, w, 4 + 6 + w) ∈ ly_refs) w hw)
  · exact h.r ((by decide : ∀ w, w < 20 → (184 + 5, w, 184 + 6 + w) ∈ ly_refs) w hw)
  · exact h.r ((by decide : ∀ w, w < 20 → (211 + 5, w, 211 + 6 + w) ∈ ly_refs) w hw)
  · exact h.r ((by decide : ∀ w, w < 20 → (238 + 5, w, 238 + 6 + w) ∈ ly_refs) w hw)
theorem ly_dr {σ : Sg} (h : Lay σ) {x w i : Nat} (hx : x = 4 ∨ x = 184 ∨ x = 211 ∨ x = 238) (hw : w < 20) (hi : i < 4) : aw_I σ 20 (x + 6 + w) (nI i) := by
  have e : ly_k (x + 6 + w) = (20, 4) := by
    rcases hx with rfl | rfl | rfl | rfl
    · exact (by decide : ∀ w, w < 20 → ly_k (4 + 6 + w) = (20, 4)) w hw
    · exact (by decide : ∀ w, w < 20 → ly_k (184 + 6 + w) = (20, 4)) w hw
    · exact (by decide : ∀ w, w < 20 → ly_k (211 + 6 + w) = (20, 4)) w hw
    · exact (by decide : ∀ w, w < 20 → ly_k (238 + 6 + w) = (20, 4)) w hw
  exact ly_I h (by omega) e hi (by decide)
theorem li_D_r {σ : Sg} (h : Lay σ) {x w i : Nat} (hx : x = 4 ∨ x = 184 ∨ x = 211 ∨ x = 238) (hw : w < 20) (hi : i < 4) {α : Type} {inst : Decidable (aw_I σ 20 (x + 6 + w) (nI i))} (y : Option α) : @aw_chk α _ inst y = y := ck_t (ly_dr h hx hw hi) y
theorem lr_31 {σ : Sg} (h : Lay σ) {k : Nat} (hk : k < 3) : σ.2.2 31 k = some (184 + 27 * k) := h.r ((by decide : ∀ k, k < 3 → (31, k, 184 + 27 * k) ∈ ly_refs) k hk)
theorem ly_G {σ : Sg} (h : Lay σ) {D : Nat} (hD : D < ly_n σ) : 277 + 4 * D + 3 < σ.1 ∧ ly_D σ (277 + 4 * D) := ⟨by have := h.1; omega, (h.2.2.2.2 D hD).2⟩
theorem lr_32 {σ : Sg} (h : Lay σ) {D : Nat} (hD : D < ly_n σ) : σ.2.2 32 D = some (277 + 4 * D) := (h.2.2.2.2 D hD).1
theorem lo_G {σ : Sg} (h : Lay σ) {D : Nat} (hD : D < ly_n σ) {α : Type} {inst : Decidable (aw_O σ 1 5 (277 + 4 * D))} (y : Option α) : @aw_chk α _ inst y = y := ck_t ⟨by have := (ly_G h hD).1; omega, (ly_G h hD).2.1⟩ y
theorem lr_G_2 {σ : Sg} (h : Lay σ) {D : Nat} (hD : D < ly_n σ) : σ.2.2 (277 + 4 * D) 2 = some (277 + 4 * D + 1) := (ly_G h hD).2.2.2.2.2.1
theorem lr_G_3 {σ : Sg} (h : Lay σ) {D : Nat} (hD : D < ly_n σ) : σ.2.2 (277 + 4 * D) 3 = some (277 + 4 * D + 2) := (ly_G h hD).2.2.2.2.2.2.1
theorem lr_G_4 {σ : Sg} (h : Lay σ) {D : Nat} (hD : D < ly_n σ) : σ.2.2 (277 + 4 * D) 4 = some (277 + 4 * D + 3) := (ly_G h hD).2.2.2.2.2.2.2
theorem li_G_1 {σ : Sg} (h : Lay σ) {D i : Nat} (hD : D < ly_n σ) (hi : i < 47) {α : Type} {inst : Decidable (aw_I σ 20 (277 + 4 * D + 1) (nI i))} (y : Option α) : @aw_chk α _ inst y = y := ck_t (by
  have h1 := (ly_G h hD).1
  have h2 := (ly_G h hD).2.2.1
  refine ⟨by omega, by rw [h2], ?_⟩
  rw [h2]
  exact nI_in hi (by decide)) y
theorem li_G_2 {σ : Sg} (h : Lay σ) {D i : Nat} (hD : D < ly_n σ) (hi : i < 3) {α : Type} {inst : Decidable (aw_I σ 22 (277 + 4 * D + 2) (nI i))} (y : Option α) : @aw_chk α _ inst y = y := ck_t (by
  have h1 := (ly_G h hD).1
  have h2 := (ly_G h hD).2.2.2.1
  refine ⟨by omega, by rw [h2], ?_⟩
  rw [h2]
  exact nI_in hi (by decide)) y
theorem li_G_3 {σ : Sg} (h : Lay σ) {D i : Nat} (hD : D < ly_n σ) (hi : i < 50) {α : Type} {inst : Decidable (aw_I σ 20 (277 + 4 * D + 3) (nI i))} (y : Option α) : @aw_chk α _ inst y = y := ck_t (by
  have h1 := (ly_G h hD).1
  have h2 := (ly_G h hD).2.2.2.2.1
  refine ⟨by omega, by rw [h2], ?_⟩
  rw [h2]
  exact nI_in hi (by decide)) y
theorem li_rA {σ : Sg} (h : Lay σ) {x i : Nat} (hx : x = 268 ∨ x = 269) (hi : i < 50) {α : Type} {inst : Decidable (aw_I σ 20 x (nI i))} (y : Option α) : @aw_chk α _ inst y = y := ck_t (by rcases hx with rfl | rfl <;> exact ly_I h (by decide) (by decide) hi (by decide)) y
theorem li_rK {σ : Sg} (h : Lay σ) {x i : Nat} (hx : x = 270 ∨ x = 271) (hi : i < 50) {α : Type} {inst : Decidable (aw_I σ 20 x (nI i))} (y : Option α) : @aw_chk α _ inst y = y := ck_t (by rcases hx with rfl | rfl <;> exact ly_I h (by decide) (by decide) hi (by decide)) y
theorem li_rX {σ : Sg} (h : Lay σ) {x i : Nat} (hx : x = 275 ∨ x = 276) (hi : i < 12) {α : Type} {inst : Decidable (aw_I σ 21 x (nI i))} (y : Option α) : @aw_chk α _ inst y = y := ck_t (by rcases hx with rfl | rfl <;> exact ly_I h (by decide) (by decide) hi (by decide)) y
