/-! loads: the law takes all of a class but the most of it, at the first one of the class -/
theorem sumR_pt {g h : Nat → Nat} {n r c : Nat} (hr : r < n) (e : ∀ w, w < n → w ≠ r → h w = g w) (er : h r = g r + c) : sumR h n = sumR g n + c := by
  induction n with
  | zero => omega
  | succ n ih =>
    simp only [sumR]
    by_cases e2 : r = n
    · subst e2
      rw [er, sumR_cg (fun u hu => e u (by omega) (by omega))]; omega
    · rw [ih (by omega) (fun w hw => e w (by omega)), e n (by omega) (fun h => e2 h.symm)]; omega
theorem sumR_zz (n : Nat) : sumR (fun _ => 0) n = 0 := by
  induction n with
  | zero => rfl
  | succ n ih => simp only [sumR, ih]
def hvS (L : Nat → List Nat) (wt : Nat → Nat) (l : List Nat) : Nat → Option Nat
  | 0 => none
  | n + 1 => if L n = l then (match hvS L wt l n with | none => some n | some h => if wt h < wt n then some n else some h) else hvS L wt l n
theorem hv_none {L : Nat → List Nat} {wt : Nat → Nat} {l : List Nat} : ∀ {n : Nat}, hvS L wt l n = none → ∀ v, v < n → L v ≠ l := by
  intro n
  induction n with
  | zero => intro _ v hv; omega
  | succ n ih =>
    intro h v hv
    simp only [hvS] at h
    by_cases e : L n = l
    · rw [if_pos e] at h
      cases h2 : hvS L wt l n with
      | none => rw [h2] at h; cases h
      | some x => rw [h2] at h; dsimp only at h; split at h <;> cases h
    · rw [if_neg e] at h
      by_cases e2 : v = n
      · subst e2; exact e
      · exact ih h v (by omega)
theorem hv_some {L : Nat → List Nat} {wt : Nat → Nat} {l : List Nat} : ∀ {n h : Nat}, hvS L wt l n = some h → h < n ∧ L h = l ∧ ∀ v, v < n → L v = l → wt v ≤ wt h ∧ (wt v = wt h → h ≤ v) := by
  intro n
  induction n with
  | zero => intro h hh; cases hh
  | succ n ih =>
    intro h hh
    simp only [hvS] at hh
    by_cases e : L n = l
    · rw [if_pos e] at hh
      cases h2 : hvS L wt l n with
      | none =>
        rw [h2] at hh
        dsimp only at hh
        cases hh
        refine ⟨by omega, e, fun v hv hl => ?_⟩
        by_cases e2 : v = n
        · subst e2; exact ⟨Nat.le_refl _, fun _ => Nat.le_refl _⟩
        · exact absurd hl (hv_none h2 v (by omega))
      | some x =>
        rw [h2] at hh
        dsimp only at hh
        obtain ⟨a1, a2, a3⟩ := ih h2
        by_cases e3 : wt x < wt n
        · rw [if_pos e3] at hh
          cases hh
          refine ⟨by omega, e, fun v hv hl => ?_⟩
          by_cases e2 : v = n
          · subst e2; exact ⟨Nat.le_refl _, fun _ => Nat.le_refl _⟩
          · have := a3 v (by omega) hl; omega
        · rw [if_neg e3] at hh
          cases hh
          refine ⟨by omega, a2, fun v hv hl => ?_⟩
          by_cases e2 : v = n
          · subst e2; omega
          · exact a3 v (by omega) hl
    · rw [if_neg e] at hh
      obtain ⟨a1, a2, a3⟩ := ih hh
      refine ⟨by omega, a2, fun v hv hl => ?_⟩
      by_cases e2 : v = n
      · subst e2; exact absurd hl e
      · exact a3 v (by omega) hl
/-- ahead of w, in general -/
def ahG (L : Nat → List Nat) (wt : Nat → Nat) (w v : Nat) : Bool := decide (L w = L v) && (decide (wt w < wt v) || decide (wt v = wt w) && decide (v < w))
theorem ah_iff {L : Nat → List Nat} {wt : Nat → Nat} {n w : Nat} (hw : w < n) : anyR (ahG L wt w) n = !decide (hvS L wt (L w) n = some w) := by
  cases h : hvS L wt (L w) n with
  | none => exact absurd rfl (hv_none h w hw)
  | some x =>
    obtain ⟨a1, a2, a3⟩ := hv_some h
    by_cases e : x = w
    · subst e
      rw [decide_eq_true rfl]
      cases h2 : anyR (ahG L wt x) n
      · rfl
      · obtain ⟨v, hv, hp⟩ := anyR_iff.mp h2
        simp only [ahG, Bool.and_eq_true, Bool.or_eq_true, decide_eq_true_eq] at hp
        have := a3 v hv hp.1.symm
        omega
    · rw [decide_eq_false (fun h => e (Option.some.inj h))]
      refine anyR_iff.mpr ⟨x, a1, ?_⟩
      have := a3 w hw rfl
      simp only [ahG, Bool.and_eq_true, Bool.or_eq_true, decide_eq_true_eq]
      exact ⟨a2.symm, by omega⟩
def allG (L : Nat → List Nat) (wt : Nat → Nat) (l : List Nat) (n : Nat) : Nat := sumR (fun v => if l = L v then wt v else 0) n
def mosG (L : Nat → List Nat) (wt : Nat → Nat) (l : List Nat) (n : Nat) : Nat := foldR (fun m v => if l = L v ∧ m < wt v then wt v else m) 0 n
def nfG (L : Nat → List Nat) (w n : Nat) : Bool := anyR (fun v => decide (L w = L v) && decide (v < w)) n
theorem mos_hv {L : Nat → List Nat} {wt : Nat → Nat} {l : List Nat} (n : Nat) : mosG L wt l n = match hvS L wt l n with | none => 0 | some h => wt h := by
  induction n with
  | zero => rfl
  | succ n ih =>
    show (if l = L n ∧ mosG L wt l n < wt n then wt n else mosG L wt l n) = _
    rw [ih]
    simp only [hvS]
    by_cases e : L n = l
    · rw [if_pos e]
      cases h2 : hvS L wt l n with
      | none =>
        dsimp only
        by_cases e2 : 0 < wt n
        · rw [if_pos ⟨e.symm, e2⟩]
        · rw [if_neg (fun h => e2 h.2)]; omega
      | some x =>
        dsimp only
        by_cases e2 : wt x < wt n
        · rw [if_pos ⟨e.symm, e2⟩, if_pos e2]
        · rw [if_neg (fun h => e2 h.2), if_neg e2]
    · rw [if_neg e, if_neg (fun h => e h.1.symm)]
theorem mos_le {L : Nat → List Nat} {wt : Nat → Nat} {l : List Nat} (n : Nat) : mosG L wt l n ≤ allG L wt l n := by
  induction n with
  | zero => exact Nat.le_refl _
  | succ n ih =>
    show (if l = L n ∧ mosG L wt l n < wt n then wt n else mosG L wt l n) ≤ allG L wt l n + (if l = L n then wt n else 0)
    by_cases e : l = L n
    · rw [if_pos e]; split <;> omega
    · rw [if_neg e, if_neg (fun h => e h.1)]; omega
theorem fst_ex {L : Nat → List Nat} {l : List Nat} : ∀ {n v : Nat}, v < n → L v = l → ∃ r, r < n ∧ L r = l ∧ ∀ u, u < r → L u ≠ l := by
  intro n
  induction n with
  | zero => intro v hv; omega
  | succ n ih =>
    intro v hv hl
    by_cases h : ∃ u, u < n ∧ L u = l
    · obtain ⟨u, hu, hul⟩ := h
      obtain ⟨r, r1, r2⟩ := ih hu hul
      exact ⟨r, by omega, r2⟩
    · refine ⟨n, by omega, ?_, fun u hu e => h ⟨u, hu, e⟩⟩
      by_cases e : v = n
      · subst e; exact hl
      · exact absurd ⟨v, by omega, hl⟩ h
theorem nf_iff {L : Nat → List Nat} {w n : Nat} (hw : w ≤ n) : nfG L w n = true ↔ ∃ v, v < w ∧ L w = L v := by
  unfold nfG
  rw [anyR_iff]
  constructor
  · rintro ⟨v, h1, h2⟩
    simp only [Bool.and_eq_true, decide_eq_true_eq] at h2
    exact ⟨v, h2.2, h2.1⟩
  · rintro ⟨v, h1, h2⟩
    exact ⟨v, by omega, by simp [h1, h2]⟩
def lodF (L : Nat → List Nat) (wt : Nat → Nat) (n w : Nat) : Nat := if nfG L w n = true then 0 else allG L wt (L w) n - mosG L wt (L w) n
theorem load_eq (L : Nat → List Nat) (wt : Nat → Nat) (n : Nat) : sumR (lodF L wt n) n = sumR (fun w => if anyR (ahG L wt w) n = true then wt w else 0) n := by
  induction n with
  | zero => rfl
  | succ n ih =>
    have ea : ∀ l, allG L wt l (n + 1) = allG L wt l n + (if l = L n then wt n else 0) := fun l => rfl
    have em : ∀ l, mosG L wt l (n + 1) = if l = L n ∧ mosG L wt l n < wt n then wt n else mosG L wt l n := fun l => rfl
    have en : ∀ w, w ≤ n → nfG L w (n + 1) = nfG L w n := fun w hw => by
      by_cases h : ∃ v, v < w ∧ L w = L v
      · rw [(nf_iff (by omega)).mpr h, (nf_iff hw).mpr h]
      · rw [Bool.eq_false_iff.mpr (fun g => h ((nf_iff (show w ≤ n + 1 by omega)).mp g)), Bool.eq_false_iff.mpr (fun g => h ((nf_iff hw).mp g))]
    have hg : ∀ w, w < n + 1 → (if anyR (ahG L wt w) (n + 1) = true then wt w else 0) = if hvS L wt (L w) (n + 1) = some w then 0 else wt w := fun w hw => by
      rw [ah_iff hw]
      by_cases e : hvS L wt (L w) (n + 1) = some w
      · rw [decide_eq_true e, if_pos e]; rfl
      · rw [decide_eq_false e, if_neg e]; rfl
    have hg0 : ∀ w, w < n → (if anyR (ahG L wt w) n = true then wt w else 0) = if hvS L wt (L w) n = some w then 0 else wt w := fun w hw => by
      rw [ah_iff hw]
      by_cases e : hvS L wt (L w) n = some w
      · rw [decide_eq_true e, if_pos e]; rfl
      · rw [decide_eq_false e, if_neg e]; rfl
    rw [sumR_cg hg]
    rw [sumR_cg hg0] at ih
    have ef : ∀ w, w < n → L w ≠ L n → lodF L wt (n + 1) w = lodF L wt n w := fun w hw e => by
      have em2 := em (L w)
      rw [if_neg (fun h : L w = L n ∧ _ => e h.1)] at em2
      unfold lodF
      rw [en w (by omega), ea, em2, if_neg e, Nat.add_zero]
    have eh : ∀ w, w < n → L w ≠ L n → hvS L wt (L w) (n + 1) = hvS L wt (L w) n := fun w hw e => by
      simp only [hvS]; rw [if_neg (fun h => e h.symm)]
    have ehn : hvS L wt (L n) (n + 1) = match hvS L wt (L n) n with | none => some n | some h => if wt h < wt n then some n else some h := by
      simp only [hvS, if_true]
    cases hv : hvS L wt (L n) n with
    | none =>
      have hno := hv_none hv
      rw [hv] at ehn
      have m0 : mosG L wt (L n) n = 0 := by rw [mos_hv, hv]
      have a0 : allG L wt (L n) n = 0 := by
        have : allG L wt (L n) n = sumR (fun _ => 0) n := sumR_cg (fun u hu => if_neg (fun h => hno u hu h.symm))
        rw [this, sumR_zz]
      simp only [sumR]
      rw [sumR_cg (fun w hw => ef w hw (hno w hw)), ih]
      rw [sumR_cg (g := fun w => if hvS L wt (L w) (n + 1) = some w then 0 else wt w) (h := fun w => if hvS L wt (L w) n = some w then 0 else wt w) (fun w hw => by (try dsimp only); rw [eh w hw (hno w hw)])]
      congr 1
      rw [ehn, if_pos rfl]
      unfold lodF
      rw [ea, em, m0, a0, if_pos rfl]
      split
      · rfl
      · by_cases e2 : 0 < wt n
        · rw [if_pos ⟨rfl, e2⟩]; omega
        · rw [if_neg (fun h => e2 h.2)]; omega
    | some h =>
      obtain ⟨h1, h2, h3⟩ := hv_some hv
      rw [hv] at ehn
      dsimp only at ehn
      obtain ⟨r, r1, r2, r3⟩ := fst_ex h1 h2
      have m0 : mosG L wt (L n) n = wt h := by rw [mos_hv, hv]
      have ml := mos_le (L := L) (wt := wt) (l := L n) n
      have fn : lodF L wt (n + 1) n = 0 := by
        unfold lodF
        rw [if_pos ((nf_iff (by omega)).mpr ⟨h, h1, h2.symm⟩)]
      have fr : lodF L wt (n + 1) r = lodF L wt n r + min (wt n) (wt h) := by
        have nr : nfG L r n = false := Bool.eq_false_iff.mpr (fun g => by
          obtain ⟨v, v1, v2⟩ := (nf_iff (by omega)).mp g
          exact r3 v v1 (by rw [← v2, r2]))
        unfold lodF
        rw [en r (by omega), nr, if_neg (by decide), if_neg (by decide), ea, em, r2, if_pos rfl, m0]
        by_cases e2 : wt h < wt n
        · rw [if_pos ⟨rfl, e2⟩]; omega
        · rw [if_neg (fun g => e2 g.2)]; omega
      have fo : ∀ w, w < n → w ≠ r → lodF L wt (n + 1) w = lodF L wt n w := fun w hw hne => by
        by_cases e : L w = L n
        · have hrw : r < w := by
            rcases Nat.lt_or_ge w r with g | g
            · exact absurd e (r3 w g)
            · omega
          have nw : nfG L w n = true := (nf_iff (by omega)).mpr ⟨r, hrw, by rw [e, r2]⟩
          unfold lodF
          rw [en w (by omega), nw, if_pos rfl, if_pos rfl]
        · exact ef w hw e
      simp only [sumR]
      rw [fn, sumR_pt r1 fo fr, ih]
      by_cases e2 : wt h < wt n
      · rw [if_pos e2] at ehn
        rw [ehn, if_pos rfl]
        have := sumR_pt (g := fun w => if hvS L wt (L w) n = some w then 0 else wt w) (h := fun w => if hvS L wt (L w) (n + 1) = some w then 0 else wt w) (c := wt h) h1 (fun w hw hne => by
          try dsimp only
          by_cases e : L w = L n
          · rw [e, ehn, hv, if_neg (fun g => by have := Option.some.inj g; omega), if_neg (fun g => hne (Option.some.inj g).symm)]
          · rw [eh w hw e]) (by
          try dsimp only
          rw [h2, ehn, hv, if_neg (fun g => by have := Option.some.inj g; omega), if_pos rfl]; omega)
        rw [this]; omega
      · rw [if_neg e2] at ehn
        rw [ehn, if_neg (fun g => by have := Option.some.inj g; omega)]
        rw [sumR_cg (g := fun w => if hvS L wt (L w) (n + 1) = some w then 0 else wt w) (h := fun w => if hvS L wt (L w) n = some w then 0 else wt w) (fun w hw => by
          try dsimp only
          by_cases e : L w = L n
          · rw [e, ehn, hv]
          · rw [eh w hw e])]
        omega
theorem loadS_eq (A : St) (D : Nat) : sumR (lodF (own A D) (A 5 0) (A 2 0 0)) (A 2 0 0) = loadS A D := load_eq (own A D) (A 5 0) (A 2 0 0)
/-! doubts -/
theorem sumR_pairs (a : Nat → Nat → Nat) (n : Nat) : sumR (fun w => sumR (fun j => a w (w + 1 + j)) (n - (w + 1))) n = sumR (fun v => sumR (fun w => a w v) v) n := by
  induction n with
  | zero => rfl
  | succ n ih =>
    have e : ∀ w, w < n → sumR (fun j => a w (w + 1 + j)) (n + 1 - (w + 1)) = sumR (fun j => a w (w + 1 + j)) (n - (w + 1)) + a w n := fun w hw => by
      rw [show n + 1 - (w + 1) = (n - (w + 1)) + 1 by omega]
      simp only [sumR]
      rw [show w + 1 + (n - (w + 1)) = n by omega]
    have add : ∀ (g h : Nat → Nat) (m : Nat), sumR (fun w => g w + h w) m = sumR g m + sumR h m := fun g h m => by
      induction m with
      | zero => rfl
      | succ m ih => simp only [sumR, ih]; omega
    simp only [sumR]
    rw [sumR_cg e, add, ih, show n + 1 - (n + 1) = 0 by omega]
    rfl
theorem dbt_eq (A : St) (D : Nat) : sumR (fun w => sumR (fun j => if al A D w (w + 1 + j) = true then 1 else 0) (A 2 0 0 - (w + 1))) (A 2 0 0) = dbt A D := by
  rw [sumR_pairs (fun w v => if al A D w v = true then 1 else 0)]
  unfold dbt
  refine sumR_cg (fun w hw => sumR_cg (fun v hv => ?_))
  have : al A D v w = al A D w v := by
    unfold al
    by_cases e : own A D v = own A D w
    · rw [decide_eq_true e, decide_eq_true e.symm]
    · rw [decide_eq_false e, decide_eq_false (fun h => e h.symm)]
  rw [this]
