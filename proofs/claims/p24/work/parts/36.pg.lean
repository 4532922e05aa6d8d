section PG
variable {T : TT} {N top : Nat} {σ τ : FS} {k b : Nat} {Φ : Int32 → FS → Prop} {Ψ : FS → Prop} {c : Int32} {inn lp : Nat → Bool} {fl : Bool}
/-- a tree up to top -/
def TR (T : TT) (top : Nat) : Prop := PL T ∧ (∀ k, k ≤ top → WF T k) ∧ lo T top = 0 ∧ (∀ k k' j, k ≤ top → k' ≤ top → part T k j → part T k' j → k = k') ∧ top < 110
theorem Ok.tr (h : Ok T c N top σ) : TR T top := by
  obtain ⟨h1, -, -, h4, h5, -, h7, -⟩ := h
  have hN := h1.2.1
  refine ⟨h1.2.2.1, fun k hk => (h1.2.2.2 k (by omega)).2, h5, fun k k' j hk hk' p p' => ?_, by omega⟩
  exact (nI_eq (by omega) (by omega)).mp ((h7 k j (by omega) p).symm.trans (h7 k' j (by omega) p'))
theorem WF.lok (h : WF T k) : lo T k ≤ k := h.2.2.2.2.1.2.2.2.2
/-- parts stand one behind the other -/
theorem prt (hP : PL T) (hw : ∀ j, j ≤ k → WF T j) : (∀ p, pA T k = some p → p + 1 = k ∧ lo T p = eA T k ∧ lo T p ≤ p) ∧ (∀ p, pC T k = some p → p + 1 = eA T k ∧ lo T p = eC T k ∧ lo T p ≤ p) ∧ (∀ p, pB T k = some p → p + 1 = eC T k ∧ lo T p = eB T k ∧ lo T p ≤ p) ∧ eA T k ≤ k ∧ eC T k ≤ eA T k ∧ eB T k ≤ eC T k := by
  obtain ⟨-, -, -, -, ⟨wA, wC, wB, wl, wk⟩, -, -⟩ := hw k (Nat.le_refl k)
  have q : ∀ p, part T k p → lo T p ≤ p := fun p hp => (hw p (by have := hP k p hp; omega)).lok
  refine ⟨fun p hp => ⟨(wA p hp).1, by unfold eA; rw [hp]; rfl, q p (Or.inr (Or.inr hp))⟩, fun p hp => ⟨(wC p hp).1, by unfold eC; rw [hp]; rfl, q p (Or.inr (Or.inl hp))⟩, fun p hp => ⟨(wB p hp).1, by unfold eB; rw [hp]; rfl, q p (Or.inl hp)⟩, ?_, ?_, ?_⟩
  · unfold eA
    cases e : pA T k with
    | none => exact Nat.le_refl k
    | some p => have := (wA p e).1; have := q p (Or.inr (Or.inr e)); show lo T p ≤ k; omega
  · unfold eC
    cases e : pC T k with
    | none => exact Nat.le_refl _
    | some p => have := (wC p e).1; have := q p (Or.inr (Or.inl e)); show lo T p ≤ eA T k; omega
  · unfold eB
    cases e : pB T k with
    | none => exact Nat.le_refl _
    | some p => have := (wB p e).1; have := q p (Or.inl e); show lo T p ≤ eC T k; omega
theorem cover (hP : PL T) (hw : ∀ j, j ≤ k → WF T j) {j : Nat} (h1 : lo T k ≤ j) (h2 : j < k) : ∃ p, part T k p ∧ lo T p ≤ j ∧ j ≤ p := by
  obtain ⟨a, cc, bb, l1, l2, l3⟩ := prt hP hw
  have wl : lo T k = eB T k := (hw k (Nat.le_refl k)).2.2.2.2.1.2.2.2.1
  by_cases hA : eA T k ≤ j
  · cases e : pA T k with
    | none => have : eA T k = k := by unfold eA; rw [e]; rfl
              omega
    | some p => have := a p e; exact ⟨p, Or.inr (Or.inr e), by omega, by omega⟩
  · by_cases hC : eC T k ≤ j
    · cases e : pC T k with
      | none => have : eC T k = eA T k := by unfold eC; rw [e]; rfl
                omega
      | some p => have := cc p e; exact ⟨p, Or.inr (Or.inl e), by omega, by omega⟩
    · cases e : pB T k with
      | none => have : eB T k = eC T k := by unfold eB; rw [e]; rfl
                omega
      | some p => have := bb p e; exact ⟨p, Or.inl e, by omega, by omega⟩
theorem part_ne (hP : PL T) (hw : ∀ j, j ≤ k → WF T j) {j : Nat} : (pB T k = some j → pC T k ≠ some j ∧ pA T k ≠ some j) ∧ (pC T k = some j → pA T k ≠ some j) := by
  obtain ⟨a, cc, bb, l1, l2, l3⟩ := prt hP hw
  refine ⟨fun h => ⟨fun h2 => ?_, fun h2 => ?_⟩, fun h h2 => ?_⟩
  · have := bb j h; have := cc j h2; omega
  · have := bb j h; have := a j h2; omega
  · have := cc j h; have := a j h2; omega
/-- each node but the top is a part -/
theorem has_wh (h : TR T top) {j : Nat} (hj : j < top) : ∃ w, w ≤ top ∧ part T w j := by
  obtain ⟨hP, hw, h0, -, -⟩ := h
  have key : ∀ w, w ≤ top → lo T w ≤ j → j < w → ∃ w', w' ≤ top ∧ part T w' j := by
    intro w
    induction w using Nat.strongRecOn with
    | ind w ih =>
      intro h1 h2 h3
      obtain ⟨p, hp, q1, q2⟩ := cover hP (fun j hj => hw j (by omega)) h2 h3
      by_cases e : j = p
      · exact ⟨w, h1, by rw [e]; exact hp⟩
      · have := hP w p hp
        exact ih p this (by omega) q1 (by omega)
  exact key top (Nat.le_refl top) (by omega) hj
def whF (T : TT) (j : Nat) : Nat → Nat → Nat
  | 0, k => k
  | f + 1, k => if pB T k = some j ∨ pC T k = some j ∨ pA T k = some j then k else whF T j f (k + 1)
def wh (T : TT) (top j : Nat) : Nat := whF T j (top - j) (j + 1)
theorem wh_eq (h : TR T top) {w j : Nat} (hw : w ≤ top) (hp : part T w j) : wh T top j = w := by
  have key : ∀ f k, k ≤ w → w ≤ k + f → whF T j f k = w := by
    intro f
    induction f with
    | zero => intro k h1 h2; show k = w; omega
    | succ f ih =>
      intro k h1 h2
      unfold whF
      by_cases hk : part T k j
      · have hk2 := hk
        unfold part at hk2
        rw [if_pos hk2]; exact h.2.2.2.1 k w j (by omega) hw hk hp
      · have hk2 := hk
        unfold part at hk2
        rw [if_neg hk2]
        have : k ≠ w := fun e => hk (by rw [e]; exact hp)
        exact ih (k + 1) (by omega) (by omega)
  have := h.1 w j hp
  exact key _ _ (by omega) (by omega)
def ahd (T : TT) (w : Nat) : Nat := if kd T w = 16 then 1 else 0
def btw (T : TT) (w : Nat) : Nat := if kd T w = 15 ∨ kd T w = 16 then 1 else 0
def off (T : TT) (fl : Bool) (w j : Nat) : Nat := if pB T w = some j then ahd T w else if pC T w = some j then ahd T w + oF (pB T w) 0 (ln T fl) + btw T w else ahd T w + oF (pB T w) 0 (ln T fl) + btw T w + oF (pC T w) 0 (ln T fl) + 1
/-- where a node begins, and whether it is swallowed -/
def pth (T : TT) (fl : Bool) (top : Nat) : Nat → Nat → Nat × Bool
  | 0, _ => (0, false)
  | f + 1, j => if j = top then (0, false) else
      if pu T fl (wh T top j) || (pth T fl top f (wh T top j)).2 then ((pth T fl top f (wh T top j)).1, true)
      else ((pth T fl top f (wh T top j)).1 + off T fl (wh T top j) j, false)
def SS (T : TT) (fl : Bool) (top j : Nat) : Nat × Bool := pth T fl top (top + 1) j
theorem pth_eq (h : TR T top) : ∀ f f' j, j ≤ top → top - j < f → top - j < f' → pth T fl top f j = pth T fl top f' j := by
  intro f
  induction f with
  | zero => intro f' j h1 h2; omega
  | succ f ih =>
    intro f' j h1 h2 h3
    cases f' with
    | zero => omega
    | succ f' =>
      unfold pth
      by_cases hj : j = top
      · rw [if_pos hj, if_pos hj]
      · obtain ⟨w, hw, hp⟩ := has_wh h (show j < top by omega)
        have := h.1 w j hp
        rw [if_neg hj, if_neg hj, wh_eq h hw hp, ih f' w hw (by omega) (by omega)]
theorem SS_top : SS T fl top top = (0, false) := by unfold SS pth; rw [if_pos rfl]
theorem SS_part (h : TR T top) {w j : Nat} (hw : w ≤ top) (hp : part T w j) : SS T fl top j = if pu T fl w || (SS T fl top w).2 then ((SS T fl top w).1, true) else ((SS T fl top w).1 + off T fl w j, false) := by
  have hj := h.1 w j hp
  have e := wh_eq h hw hp
  have e2 : pth T fl top top w = SS T fl top w := pth_eq h top (top + 1) w hw (by omega) (by omega)
  unfold SS
  rw [pth, if_neg (by omega), e, e2]; rfl
theorem pu_kd (hP : PL T) (h : pu T fl k = true) : 3 ≤ kd T k ∧ kd T k ≤ 7 := by
  unfold pu at h
  rw [Bool.and_eq_true] at h
  have e := h.2
  rw [fw_eq hP] at e
  unfold fwF at e
  by_cases h0 : kd T k = 0
  · rw [if_pos h0] at e; cases e
  · rw [if_neg h0] at e
    by_cases h3 : 3 ≤ kd T k ∧ kd T k ≤ 7
    · exact h3
    · rw [if_neg h3] at e; cases e
/-- a walk from the top down -/
theorem down (h : TR T top) {P : Nat → Prop} (h0 : P top) (hs : ∀ w j, w ≤ top → part T w j → P w → P j) : ∀ j, j ≤ top → P j := by
  have key : ∀ d j, j ≤ top → top - j < d → P j := by
    intro d
    induction d with
    | zero => intro j h1 h2; omega
    | succ d ih =>
      intro j h1 h2
      by_cases hj : j = top
      · rw [hj]; exact h0
      · obtain ⟨w, hw, hp⟩ := has_wh h (show j < top by omega)
        have := h.1 w j hp
        exact hs w j hw hp (ih w hw (by omega))
  exact fun j hj => key _ j hj (Nat.lt_succ_self _)
theorem sw_kd (h : TR T top) : ∀ j, j ≤ top → (SS T fl top j).2 = true → kd T j < 8 := by
  refine down h (fun e => by rw [SS_top] at e; cases e) (fun w j hw hp ih e => ?_)
  rw [SS_part h hw hp] at e
  have W := h.2.1 w hw
  have k8 : kd T w < 8 := by
    cases hpu : pu T fl w with
    | true => have := pu_kd h.1 hpu; omega
    | false =>
      cases hs : (SS T fl top w).2 with
      | true => exact ih hs
      | false => rw [hpu, hs] at e; cases e
  rcases hp with hp | hp | hp
  · have := (W.2.2.2.2.1.2.2.1 j hp).2
    rw [if_neg (by omega)] at this
    exact this
  · have := (W.2.2.2.2.1.2.1 j hp).2
    rw [if_neg (by omega)] at this
    exact this
  · have := W.2.2.2.1 (by rw [hp]; rfl)
    omega
theorem no_A (hw : WF T k) (h : kd T k < 8) : pA T k = none := by
  cases e : pA T k with
  | none => rfl
  | some p => have := hw.2.2.2.1 (by rw [e]; rfl); omega
theorem off_le (hP : PL T) (hw : ∀ j, j ≤ k → WF T j) {j : Nat} (hp : part T k j) (hn : pu T fl k = false) : off T fl k j + ln T fl j ≤ ln T fl k := by
  have e := ln_eq (fl := fl) hP k
  unfold lnF at e
  rw [hn, if_neg Bool.false_ne_true] at e
  have W := hw k (Nat.le_refl k)
  have hown : ahd T k + btw T k + (if (pA T k).isSome then 1 else 0) ≤ own T k := by
    unfold ahd btw own
    by_cases h12 : kd T k = 12
    · rw [h12]
      have : (pA T k).isSome = false := by
        cases e : (pA T k).isSome with
        | false => rfl
        | true => have := W.2.2.2.1 e; omega
      rw [this]; decide
    · by_cases h15 : kd T k = 15
      · rw [h15]; cases (pA T k).isSome <;> decide
      · have : (pA T k).isSome = false := by
          cases e : (pA T k).isSome with
          | false => rfl
          | true => exact absurd (W.2.2.2.1 e) h15
        rw [this]
        by_cases h16 : kd T k = 16
        · rw [h16]; decide
        · rw [if_neg h16, if_neg (by omega), if_neg h12, if_neg h15, if_neg h16]; decide
  have n := part_ne hP hw (j := j)
  unfold off
  by_cases hB : pB T k = some j
  · rw [if_pos hB]
    rw [hB] at e
    have : oF (some j) 0 (ln T fl) = ln T fl j := rfl
    omega
  · rw [if_neg hB]
    by_cases hC : pC T k = some j
    · rw [if_pos hC]
      rw [hC] at e
      have : oF (some j) 0 (ln T fl) = ln T fl j := rfl
      omega
    · rw [if_neg hC]
      have hA : pA T k = some j := by
        rcases hp with h | h | h
        · exact absurd h hB
        · exact absurd h hC
        · exact h
      rw [hA] at e hown
      have : oF (some j) 0 (ln T fl) = ln T fl j := rfl
      have : (if (some j).isSome = true then 1 else 0 : Nat) = 1 := rfl
      omega
theorem pu_ln (hP : PL T) (h : pu T fl k = true) : ln T fl k = 1 := by
  rw [ln_eq hP]; unfold lnF; rw [if_pos h]
theorem rng (h : TR T top) : ∀ j, j ≤ top → ((SS T fl top j).2 = false → (SS T fl top j).1 + ln T fl j ≤ ln T fl top) ∧ ((SS T fl top j).2 = true → (SS T fl top j).1 + 1 ≤ ln T fl top) := by
  refine down h ⟨fun _ => by rw [SS_top]; show 0 + _ ≤ _; omega, fun e => by rw [SS_top] at e; cases e⟩ (fun w j hw hp ih => ?_)
  rw [SS_part h hw hp]
  cases hs : (SS T fl top w).2 with
  | true =>
    rw [Bool.or_true]
    exact ⟨fun e => (by cases e), fun _ => ih.2 hs⟩
  | false =>
    rw [Bool.or_false]
    have i1 := ih.1 hs
    cases hpu : pu T fl w with
    | true =>
      rw [pu_ln h.1 hpu] at i1
      exact ⟨fun e => (by cases e), fun _ => i1⟩
    | false =>
      have := off_le (fl := fl) h.1 (fun j hj => h.2.1 j (by omega)) hp hpu
      refine ⟨fun _ => ?_, fun e => (by cases e)⟩
      show (SS T fl top w).1 + off T fl w j + ln T fl j ≤ ln T fl top
      omega
theorem L_le (h : TR T top) : ln T fl top ≤ 440 := by
  have := ln_le (T := T) (fl := fl) (k := top) h.1 h.2.1
  have := h.2.2.2.2
  omega
end PG
