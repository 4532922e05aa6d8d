section PX
variable {T : TT} {N top : Nat} {c : Int32} {most : Nat}
/-- what an instruction does to what is told: nothing, or one number more -/
theorem mLeave_tr {m : MS} {y n : Int32} : (mLeave m y n).2.2.2.2.1 = m.2.2.2.2.1 ∨ (mLeave m y n).2.2.2.2.1 = 5 := by
  cases e : fnd m.2.1.2.2.1 y m.1.2.2 with
  | none => rw [mLeave_none e]; exact Or.inr rfl
  | some r => rw [mLeave_some e]; exact Or.inl rfl
theorem pf_p {q : QQ} {e : Nat} {m : MS} : ((pf q e m).2.2.1 = m.2.2.1 ∨ ∃ v n, (pf q e m).2.2.1 = (m.2.2.1.1, m.2.2.1.2.1 + 1, if m.2.2.1.2.1 < 50 then (fu m.2.2.1.2.2.1 m.2.2.1.2.1 v, fu m.2.2.1.2.2.2.1 m.2.2.1.2.1 (nI m.2.2.1.1), fu m.2.2.1.2.2.2.2 m.2.2.1.2.1 n) else m.2.2.1.2.2)) ∧ (m.2.2.2.2.1 ≠ 6 → (pf q e m).2.2.2.2.1 ≠ 6) := by
  unfold pf
  by_cases c1 : q.1 = 1
  · rw [if_pos c1]; exact ⟨Or.inl rfl, fun h => h⟩
  rw [if_neg c1]
  by_cases c2 : q.1 = 2
  · rw [if_pos c2]; exact ⟨Or.inl rfl, fun h => h⟩
  rw [if_neg c2]
  by_cases c3 : q.1 = 3
  · rw [if_pos c3]; split
    · exact ⟨Or.inl rfl, fun h => h⟩
    · exact ⟨Or.inl rfl, fun _ => (by decide : (2 : Nat) ≠ 6)⟩
  rw [if_neg c3]
  by_cases c4 : q.1 = 7 ∧ mTop m = 0
  · rw [if_pos c4]; exact ⟨Or.inl rfl, fun _ => (by decide : (1 : Nat) ≠ 6)⟩
  rw [if_neg c4]
  by_cases c5 : q.1 = 4 ∨ q.1 = 5 ∨ q.1 = 6 ∨ q.1 = 7 ∨ q.1 = 8
  · rw [if_pos c5]; exact ⟨Or.inl rfl, fun h => h⟩
  rw [if_neg c5]
  by_cases c6 : q.1 = 19
  · rw [if_pos c6]; exact ⟨Or.inl rfl, fun h => h⟩
  rw [if_neg c6]
  by_cases c7 : q.1 = 20
  · rw [if_pos c7]; split
    · exact ⟨Or.inl rfl, fun h => h⟩
    · exact ⟨Or.inl rfl, fun _ => (by decide : (2 : Nat) ≠ 6)⟩
  rw [if_neg c7]
  by_cases c8 : q.1 = 21
  · rw [if_pos c8]; split <;> exact ⟨Or.inl rfl, fun h => h⟩
  rw [if_neg c8]
  by_cases c9 : q.1 = 22
  · rw [if_pos c9]; exact ⟨Or.inl rfl, fun h => h⟩
  rw [if_neg c9]
  by_cases c10 : q.1 = 23
  · rw [if_pos c10]; exact ⟨Or.inl rfl, fun h => h⟩
  rw [if_neg c10]
  by_cases c11 : q.1 = 24
  · rw [if_pos c11]; exact ⟨Or.inl rfl, fun h => h⟩
  rw [if_neg c11]
  by_cases c12 : q.1 = 25
  · rw [if_pos c12]
    refine ⟨Or.inl mLeave_told, fun h => ?_⟩
    rcases mLeave_tr (m := m) (y := q.2.2.1) (n := q.2.2.2) with e | e
    · rw [e]; exact h
    · rw [e]; decide
  rw [if_neg c12]
  by_cases c13 : q.1 = 26
  · rw [if_pos c13]; exact ⟨Or.inr ⟨_, _, rfl⟩, fun h => h⟩
  rw [if_neg c13]
  by_cases c14 : q.1 = 15
  · rw [if_pos c14]; exact ⟨Or.inl rfl, fun h => h⟩
  rw [if_neg c14]
  exact ⟨Or.inl rfl, fun h => h⟩
/-- a turn without a bound of steps -/
def stU (T : TT) (c : Int32) (top : Nat) (m : MS) : MS := if m.2.2.2.1 = true then m else pf (Ic T c top m.1.1) (eT T false top (tN (Ic T c top m.1.1).2.2.2)) (mBegin T top m)
def uu (T : TT) (c : Int32) (top i : Nat) : MS := it (stU T c top) i m00
abbrev gst (m : MS) : Nat := m.2.2.1.1
abbrev gnu (m : MS) : Nat := m.2.2.1.2.1
abbrev gp1 (m : MS) : Nat → Int32 := m.2.2.1.2.2.2.1
abbrev gov (m : MS) : Bool := m.2.2.2.1
def cbm (T : TT) (top : Nat) (m : MS) : Nat := cb T false top (top + 1) m.1.1
theorem uu_s (i : Nat) : uu T c top (i + 1) = stU T c top (uu T c top i) := rfl
theorem stU_over {m : MS} (h : gov m = true) : stU T c top m = m := if_pos h
theorem stU_run {m : MS} (h : gov m = false) : stU T c top m = pf (Ic T c top m.1.1) (eT T false top (tN (Ic T c top m.1.1).2.2.2)) (mBegin T top m) := if_neg (by rw [show m.2.2.2.1 = false from h]; exact Bool.false_ne_true)
theorem stU_told {m : MS} (h : gov m = false) : gst (stU T c top m) = gst m + cbm T top m ∧ gnu m ≤ gnu (stU T c top m) ∧ gnu (stU T c top m) ≤ gnu m + 1 := by
  rw [stU_run h]
  have p := pf_told (q := Ic T c top m.1.1) (e := eT T false top (tN (Ic T c top m.1.1).2.2.2)) (m := mBegin T top m)
  exact ⟨p.1, p.2.2, p.2.1⟩
theorem uu_mono (i : Nat) : gst (uu T c top i) ≤ gst (uu T c top (i + 1)) ∧ gnu (uu T c top i) ≤ gnu (uu T c top (i + 1)) := by
  rw [uu_s]
  cases h : gov (uu T c top i) with
  | true => rw [stU_over h]; exact ⟨Nat.le_refl _, Nat.le_refl _⟩
  | false => have := stU_told (T := T) (c := c) (top := top) h; exact ⟨by omega, this.2.1⟩
theorem uu_monod (i d : Nat) : gst (uu T c top i) ≤ gst (uu T c top (i + d)) ∧ gnu (uu T c top i) ≤ gnu (uu T c top (i + d)) := by
  induction d with
  | zero => exact ⟨Nat.le_refl _, Nat.le_refl _⟩
  | succ d ih =>
    have := uu_mono (T := T) (c := c) (top := top) (i + d)
    exact ⟨Nat.le_trans ih.1 this.1, Nat.le_trans ih.2 this.2⟩
theorem uu_tr : ∀ i, (uu T c top i).2.2.2.2.1 ≠ 6 := by
  intro i
  induction i with
  | zero => exact (by decide : (0 : Nat) ≠ 6)
  | succ i ih =>
    rw [uu_s]
    cases h : gov (uu T c top i) with
    | true => rw [stU_over h]; exact ih
    | false =>
      rw [stU_run h]
      exact (pf_p (q := Ic T c top (uu T c top i).1.1) (e := eT T false top (tN (Ic T c top (uu T c top i).1.1).2.2.2)) (m := mBegin T top (uu T c top i))).2 ih
/-- the numbers printed by a turn -/
theorem uu_p1 {m : MS} (h : gov m = false) : (∀ i, i < gnu m → gp1 (stU T c top m) i = gp1 m i) ∧ (gnu m < gnu (stU T c top m) → gnu m < 50 → gp1 (stU T c top m) (gnu m) = nI (gst (stU T c top m))) := by
  have t := stU_told (T := T) (c := c) (top := top) h
  rw [stU_run h] at t ⊢
  have p := (pf_p (q := Ic T c top m.1.1) (e := eT T false top (tN (Ic T c top m.1.1).2.2.2)) (m := mBegin T top m)).1
  rcases p with p | ⟨v, n, p⟩
  · unfold gp1 gnu gst
    rw [p]
    exact ⟨fun i _ => rfl, fun hh => absurd hh (Nat.lt_irrefl _)⟩
  · unfold gp1 gnu gst
    rw [p]
    have e : (mBegin T top m).2.2.1.2.1 = m.2.2.1.2.1 := rfl
    refine ⟨fun i hi => ?_, fun _ h50 => ?_⟩
    · by_cases q : (mBegin T top m).2.2.1.2.1 < 50
      · rw [if_pos q]
        show fu _ _ _ i = _
        rw [fu_o (by omega)]; rfl
      · rw [if_neg q]; rfl
    · rw [if_pos (show (mBegin T top m).2.2.1.2.1 < 50 from h50)]
      show fu _ _ _ _ = _
      rw [e, fu_s]
theorem uu_keep (i d k : Nat) (hk : k < gnu (uu T c top i)) : gp1 (uu T c top (i + d)) k = gp1 (uu T c top i) k := by
  induction d with
  | zero => rfl
  | succ d ih =>
    show gp1 (uu T c top (i + d + 1)) k = _
    rw [uu_s]
    have m := (uu_monod (T := T) (c := c) (top := top) i d).2
    cases h : gov (uu T c top (i + d)) with
    | true => rw [stU_over h]; exact ih
    | false => rw [(uu_p1 (T := T) (c := c) (top := top) h).1 k (by omega)]; exact ih
/-- each number kept was printed by then -/
theorem uu_le : ∀ i k, k < gnu (uu T c top i) → k < 50 → ∃ s, gp1 (uu T c top i) k = nI s ∧ s ≤ gst (uu T c top i) := by
  intro i
  induction i with
  | zero => intro k hk; exact absurd hk (Nat.not_lt_zero k)
  | succ i ih =>
    intro k hk h50
    have m := uu_mono (T := T) (c := c) (top := top) i
    rw [uu_s] at hk m ⊢
    cases h : gov (uu T c top i) with
    | true => rw [stU_over h] at hk ⊢; exact ih k hk h50
    | false =>
      have p := uu_p1 (T := T) (c := c) (top := top) h
      have t := stU_told (T := T) (c := c) (top := top) h
      by_cases e : k < gnu (uu T c top i)
      · obtain ⟨s, h1, h2⟩ := ih k e h50
        exact ⟨s, by rw [p.1 k e]; exact h1, by omega⟩
      · have : k = gnu (uu T c top i) := by omega
        rw [this] at hk h50 ⊢
        exact ⟨_, p.2 hk h50, Nat.le_refl _⟩
/-- what is printed behind turn i has its steps -/
theorem uu_ge (i : Nat) : ∀ d k, gnu (uu T c top i) ≤ k → k < gnu (uu T c top (i + d)) → k < 50 → ∃ s, gp1 (uu T c top (i + d)) k = nI s ∧ gst (uu T c top (i + 1)) ≤ s ∧ s ≤ gst (uu T c top (i + d)) := by
  intro d
  induction d with
  | zero => intro k h1 h2; exact absurd h2 (Nat.not_lt.mpr h1)
  | succ d ih =>
    intro k h1 h2 h50
    have h2 : k < gnu (uu T c top (i + d + 1)) := h2
    show ∃ s, gp1 (uu T c top (i + d + 1)) k = nI s ∧ _ ∧ s ≤ gst (uu T c top (i + d + 1))
    have m := uu_mono (T := T) (c := c) (top := top) (i + d)
    have md := uu_monod (T := T) (c := c) (top := top) (i + 1) d
    rw [show i + 1 + d = i + d + 1 by omega] at md
    rw [uu_s] at h2 m md ⊢
    cases h : gov (uu T c top (i + d)) with
    | true =>
      rw [stU_over h] at h2 ⊢
      exact ih k h1 h2 h50
    | false =>
      have p := uu_p1 (T := T) (c := c) (top := top) h
      have t := stU_told (T := T) (c := c) (top := top) h
      by_cases e : k < gnu (uu T c top (i + d))
      · obtain ⟨s, a1, a2, a3⟩ := ih k h1 e h50
        exact ⟨s, by rw [p.1 k e]; exact a1, a2, by omega⟩
      · have : k = gnu (uu T c top (i + d)) := by omega
        rw [this] at h2 h50 ⊢
        exact ⟨_, p.2 h2 h50, md.1, Nat.le_refl _⟩
/-- a turn j that would take more steps than most -/
def Ex (T : TT) (c : Int32) (top most j : Nat) : Prop := gov (uu T c top j) = false ∧ most < gst (uu T c top j) + cbm T top (uu T c top j)
def Pn (T : TT) (c : Int32) (top most i : Nat) : Prop := ∀ j, j < i → ¬ Ex T c top most j
theorem same : ∀ i, Pn T c top most i → it (stp T c top most) i m00 = uu T c top i := by
  intro i
  induction i with
  | zero => intro _; rfl
  | succ i ih =>
    intro h
    have e := ih (fun j hj => h j (by omega))
    show stp T c top most (it (stp T c top most) i m00) = _
    rw [e, uu_s]
    have hx := h i (by omega)
    cases ho : gov (uu T c top i) with
    | true => rw [stp_over ho, stU_over ho]
    | false =>
      rw [stU_run ho]
      unfold stp
      rw [show (uu T c top i).2.2.2.1 = false from ho, if_neg Bool.false_ne_true, if_pos]
      exact Nat.not_lt.mp (fun q => hx ⟨ho, q⟩)
def trp (T : TT) (c : Int32) (top most j : Nat) : MS := ((uu T c top j).1, (uu T c top j).2.1, (most, (uu T c top j).2.2.1.2), (true, 6, oI (nz T top (top + 1) (uu T c top j).1.1 (most - (uu T c top j).2.2.1.1)), (uu T c top j).2.2.2.2.2.2))
theorem fin_over {j : Nat} (hj : j < 1000000) (hp : Pn T c top most j) (hx : Ex T c top most j) : fin T c top most = trp T c top most j := by
  have e := same j hp
  have e1 : it (stp T c top most) (j + 1) m00 = trp T c top most j := by
    show stp T c top most (it (stp T c top most) j m00) = _
    rw [e]
    unfold stp
    rw [show (uu T c top j).2.2.2.1 = false from hx.1, if_neg Bool.false_ne_true]
    exact if_neg (Nat.not_le.mpr hx.2)
  have h := it_over (T := T) (c := c) (top := top) (most := most) (m := m00) (i := j + 1) (by rw [e1]; rfl) (1000000 - (j + 1))
  rw [show j + 1 + (1000000 - (j + 1)) = 1000000 by omega, e1] at h
  exact h
theorem fin_all (hp : Pn T c top most 1000000) : fin T c top most = uu T c top 1000000 := same _ hp
/-- a first turn of a kind -/
theorem first {P : Nat → Prop} : ∀ n, (∀ j, j < n → ¬ P j) ∨ ∃ j, j < n ∧ P j ∧ ∀ i, i < j → ¬ P i := by
  intro n
  induction n with
  | zero => exact Or.inl (fun j hj => absurd hj (Nat.not_lt_zero j))
  | succ n ih =>
    rcases ih with h | ⟨j, h1, h2, h3⟩
    · by_cases hp : P n
      · exact Or.inr ⟨n, Nat.lt_succ_self n, hp, h⟩
      · refine Or.inl (fun j hj => ?_)
        by_cases e : j = n
        · rw [e]; exact hp
        · exact h j (by omega)
    · exact Or.inr ⟨j, by omega, h2, h3⟩
theorem uu_st (hm : 0 ≤ most) : ∀ i, Pn T c top most i → gst (uu T c top i) ≤ most := by
  intro i
  induction i with
  | zero => intro _; exact Nat.zero_le _
  | succ i ih =>
    intro h
    have e := ih (fun j hj => h j (by omega))
    rw [uu_s]
    cases ho : gov (uu T c top i) with
    | true => rw [stU_over ho]; exact e
    | false =>
      have t := stU_told (T := T) (c := c) (top := top) ho
      have := h i (by omega)
      exact Nat.le_of_not_lt (fun q => this ⟨ho, by omega⟩)
/-- steps, and the trap 6 -/
theorem fin_st : gst (fin T c top most) ≤ most ∧ ((fin T c top most).2.2.2.2.1 = 6 → gst (fin T c top most) = most) ∧ gnu (fin T c top most) ≤ 1000000 := by
  have nn : ∀ i, gnu (uu T c top i) ≤ i := by
    intro i
    induction i with
    | zero => exact Nat.le_refl _
    | succ i ih =>
      rw [uu_s]
      cases ho : gov (uu T c top i) with
      | true => rw [stU_over ho]; omega
      | false => have := stU_told (T := T) (c := c) (top := top) ho; omega
  rcases first (P := Ex T c top most) 1000000 with h | ⟨j, h1, h2, h3⟩
  · rw [fin_all h]
    exact ⟨uu_st (Nat.zero_le _) _ h, fun q => absurd q (uu_tr _), nn _⟩
  · rw [fin_over h1 h3 h2]
    exact ⟨Nat.le_refl _, fun _ => rfl, Nat.le_trans (nn j) (by omega)⟩
/-- with more steps than it took it is the same run -/
theorem fin_more {a b : Nat} (h6 : (fin T c top a).2.2.2.2.1 ≠ 6) (h : gst (fin T c top a) < b) : fin T c top b = fin T c top a := by
  rcases first (P := Ex T c top a) 1000000 with ha | ⟨j, h1, h2, h3⟩
  · rw [fin_all ha] at h ⊢
    refine fin_all (fun j hj hx => ?_)
    have t := stU_told (T := T) (c := c) (top := top) hx.1
    have m := uu_monod (T := T) (c := c) (top := top) (j + 1) (1000000 - (j + 1))
    rw [show j + 1 + (1000000 - (j + 1)) = 1000000 by omega, uu_s] at m
    have := hx.2
    omega
  · rw [fin_over h1 h3 h2] at h6
    exact absurd rfl h6
/-- with fewer steps it has the trap 6, and has printed what comes first -/
theorem fin_less {a b : Nat} (h : b < gst (fin T c top a)) : (fin T c top b).2.2.2.2.1 = 6 ∧ gst (fin T c top b) = b ∧ gnu (fin T c top b) ≤ gnu (fin T c top a) ∧
    (∀ k, k < gnu (fin T c top b) → k < 50 → ∃ s, gp1 (fin T c top a) k = nI s ∧ s ≤ b) ∧
    (∀ k, k = gnu (fin T c top b) → k < gnu (fin T c top a) → k < 50 → ∃ s, gp1 (fin T c top a) k = nI s ∧ b < s ∧ s ≤ a) := by
  -- the turn at which the shorter run stops, and the last of the longer one
  have key : ∀ J, Pn T c top a J → (J ≤ 1000000) → (∃ j, j < J ∧ Ex T c top b j ∧ Pn T c top b j) ∨ (J < 1000000 ∧ Ex T c top b J ∧ Pn T c top b J) → ∀ F : MS, gnu F = gnu (uu T c top J) → gp1 F = gp1 (uu T c top J) → 
      ((fin T c top b).2.2.2.2.1 = 6 ∧ gst (fin T c top b) = b ∧ gnu (fin T c top b) ≤ gnu F ∧
      (∀ k, k < gnu (fin T c top b) → k < 50 → ∃ s, gp1 F k = nI s ∧ s ≤ b) ∧
      (∀ k, k = gnu (fin T c top b) → k < gnu F → k < 50 → ∃ s, gp1 F k = nI s ∧ b < s ∧ s ≤ a)) := by
    intro J hJ hJ1 hh F e1 e2
    have hst : gst (uu T c top J) ≤ a := uu_st (Nat.zero_le _) _ hJ
    have go : ∀ j, j ≤ J → j < 1000000 → Ex T c top b j → Pn T c top b j → _ := fun j hj hj1 hx hp => by
      have ef := fin_over hj1 hp hx
      have en : gnu (fin T c top b) = gnu (uu T c top j) := by rw [ef]; rfl
      have m := uu_monod (T := T) (c := c) (top := top) j (J - j)
      rw [show j + (J - j) = J by omega] at m
      have hb : gst (uu T c top j) ≤ b := uu_st (Nat.zero_le _) _ hp
      refine (⟨by rw [ef]; rfl, by rw [ef]; rfl, by rw [en, e1]; exact m.2, fun k hk h50 => ?_, fun k ek hk h50 => ?_⟩ : (fin T c top b).2.2.2.2.1 = 6 ∧ gst (fin T c top b) = b ∧ gnu (fin T c top b) ≤ gnu F ∧
      (∀ k, k < gnu (fin T c top b) → k < 50 → ∃ s, gp1 F k = nI s ∧ s ≤ b) ∧
      (∀ k, k = gnu (fin T c top b) → k < gnu F → k < 50 → ∃ s, gp1 F k = nI s ∧ b < s ∧ s ≤ a))
      · rw [en] at hk
        obtain ⟨s, s1, s2⟩ := uu_le (T := T) (c := c) (top := top) j k hk h50
        have kp := uu_keep (T := T) (c := c) (top := top) j (J - j) k hk
        rw [show j + (J - j) = J by omega] at kp
        exact ⟨s, by rw [e2, kp]; exact s1, by omega⟩
      · rw [en] at ek
        rw [e1] at hk
        have t := stU_told (T := T) (c := c) (top := top) hx.1
        have hx2 := hx.2
        obtain ⟨s, s1, s2, s3⟩ := uu_ge (T := T) (c := c) (top := top) j (J - j) k (by omega) (by rw [show j + (J - j) = J by omega]; exact hk) h50
        rw [show j + (J - j) = J by omega] at s1 s3
        rw [uu_s] at s2
        exact ⟨s, by rw [e2]; exact s1, by omega, by omega⟩
    rcases hh with ⟨j, hj, hx, hp⟩ | ⟨hJ2, hx, hp⟩
    · exact go j (by omega) (by omega) hx hp
    · exact go J (Nat.le_refl J) hJ2 hx hp
  rcases first (P := Ex T c top a) 1000000 with ha | ⟨J, h1, h2, h3⟩
  · rw [fin_all ha] at h ⊢
    rcases first (P := Ex T c top b) 1000000 with hb | ⟨j, g1, g2, g3⟩
    · have := uu_st (Nat.zero_le _) _ hb
      omega
    · exact key 1000000 ha (Nat.le_refl _) (Or.inl ⟨j, g1, g2, g3⟩) _ rfl rfl
  · have ef := fin_over h1 h3 h2
    rw [ef] at h ⊢
    have hab : b < a := h
    have hxb : Ex T c top b J := ⟨h2.1, by have := h2.2; omega⟩
    have hh : (∃ j, j < J ∧ Ex T c top b j ∧ Pn T c top b j) ∨ (J < 1000000 ∧ Ex T c top b J ∧ Pn T c top b J) := by
      rcases first (P := Ex T c top b) J with hb | ⟨j, g1, g2, g3⟩
      · exact Or.inr ⟨h1, hxb, hb⟩
      · exact Or.inl ⟨j, g1, g2, g3⟩
    exact key J h3 (by omega) hh _ rfl rfl
end PX
