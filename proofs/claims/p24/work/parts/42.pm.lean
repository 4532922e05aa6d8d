section PM
variable {T : TT} {N top : Nat} {k : Nat} {c : Int32}
/-- nothing is swallowed without folding -/
theorem swF (tr : TR T top) : ∀ j, j ≤ top → (SS T false top j).2 = false := by
  refine down tr (by rw [SS_top]) (fun w j hw hp ih => ?_)
  rw [SS_part tr hw hp, ih]
  rfl
abbrev sF' (T : TT) (top k : Nat) : Nat := sT T false top k
abbrev lF (T : TT) (k : Nat) : Nat := ln T false k
theorem sub_in (tr : TR T top) (hk : k ≤ top) {p : Nat} (hp : part T k p) : sT T false top p = sT T false top k + off T false k p ∧ sT T false top p + ln T false p ≤ sT T false top k + ln T false k := by
  have e := SS_part (fl := false) tr hk hp
  rw [swF tr k hk] at e
  have o := off_le (fl := false) tr.1 (fun i hi => tr.2.1 i (by omega)) hp rfl
  have e2 : sT T false top p = sT T false top k + off T false k p := by
    show (SS T false top p).1 = _
    rw [e]; rfl
  exact ⟨e2, by omega⟩
theorem incl (tr : TR T top) : ∀ p, p ≤ top → ∀ n, lo T p ≤ n → n ≤ p → sT T false top p ≤ sT T false top n ∧ sT T false top n + ln T false n ≤ sT T false top p + ln T false p := by
  intro p
  induction p using Nat.strongRecOn with
  | ind p ih =>
    intro hp n h1 h2
    by_cases e : n = p
    · rw [e]; exact ⟨Nat.le_refl _, Nat.le_refl _⟩
    · obtain ⟨q, hq, q1, q2⟩ := cover tr.1 (fun j hj => tr.2.1 j (by omega)) h1 (show n < p by omega)
      have := tr.1 p q hq
      have a := ih q this (by omega) n q1 q2
      have b := sub_in tr hp hq
      omega
/-- parts stand one behind the other in the code, too -/
theorem ord (tr : TR T top) (hk : k ≤ top) {p q : Nat} (hp : part T k p) (hq : part T k q) (h : p < q) : sT T false top p + ln T false p ≤ sT T false top q := by
  obtain ⟨gB, gC, gA⟩ := geo (fl := false) tr hk rfl (swF tr k hk)
  obtain ⟨a, b, d, l1, l2, l3⟩ := prt (T := T) (k := k) tr.1 (fun i hi => tr.2.1 i (by omega))
  have vB : ∀ x, pB T k = some x → oF (pB T k) 0 (ln T false) = ln T false x := fun x e => by rw [e]; rfl
  have vC : ∀ x, pC T k = some x → oF (pC T k) 0 (ln T false) = ln T false x := fun x e => by rw [e]; rfl
  have eB : ∀ x, pB T k = some x → sT T false top x = sT T false top k + ahd T k := fun x e => by show (SS T false top x).1 = _; rw [gB x e]
  have eC : ∀ x, pC T k = some x → sT T false top x = sT T false top k + ahd T k + oF (pB T k) 0 (ln T false) + btw T k := fun x e => by show (SS T false top x).1 = _; rw [gC x e]
  have eA : ∀ x, pA T k = some x → sT T false top x = sT T false top k + ahd T k + oF (pB T k) 0 (ln T false) + btw T k + oF (pC T k) 0 (ln T false) + 1 := fun x e => by show (SS T false top x).1 = _; rw [gA x e]
  rcases hp with hp | hp | hp <;> rcases hq with hq | hq | hq
  · rw [hp] at hq; cases hq; omega
  · rw [eB p hp, eC q hq, vB p hp]; omega
  · rw [eB p hp, eA q hq, vB p hp]; omega
  · have := b p hp; have := d q hq; omega
  · rw [hp] at hq; cases hq; omega
  · rw [eC p hp, eA q hq, vC p hp]; omega
  · have := a p hp; have := d q hq; omega
  · have := a p hp; have := b q hq; omega
  · rw [hp] at hq; cases hq; omega
theorem disj (tr : TR T top) : ∀ w, w ≤ top → ∀ n j, lo T w ≤ n → n < lo T j → j ≤ w → sT T false top n + ln T false n ≤ sT T false top j := by
  intro w
  induction w using Nat.strongRecOn with
  | ind w ih =>
    intro hw n j h1 h2 h3
    have lj := (tr.2.1 j (by omega)).lok
    by_cases e : j = w
    · rw [e] at h2; omega
    · obtain ⟨p, hp, p1, p2⟩ := cover tr.1 (fun i hi => tr.2.1 i (by omega)) (show lo T w ≤ j by omega) (show j < w by omega)
      obtain ⟨q, hq, q1, q2⟩ := cover tr.1 (fun i hi => tr.2.1 i (by omega)) h1 (show n < w by omega)
      have pw := tr.1 w p hp
      have qw := tr.1 w q hq
      by_cases z : p = q
      · rw [z] at p1 p2
        exact ih q qw (by omega) n j q1 h2 p2
      · have a := incl tr q (by omega) n q1 q2
        have b := incl tr p (by omega) j p1 p2
        have lq := (tr.2.1 q (by omega)).lok
        have lp := (tr.2.1 p (by omega)).lok
        obtain ⟨A, B, D, l1, l2, l3⟩ := prt (T := T) (k := w) tr.1 (fun i hi => tr.2.1 i (by omega))
        by_cases y : q < p
        · have := ord tr hw hq hp y
          omega
        · exfalso
          have hpq : p < q := by omega
          have : p + 1 ≤ lo T q := by
            rcases hp with hp | hp | hp <;> rcases hq with hq | hq | hq
            · rw [hp] at hq; cases hq; omega
            · have := B q hq; have := D p hp; omega
            · have := A q hq; have := D p hp; omega
            · have := D q hq; have := B p hp; omega
            · rw [hp] at hq; cases hq; omega
            · have := A q hq; have := B p hp; omega
            · have := D q hq; have := A p hp; omega
            · have := B q hq; have := A p hp; omega
            · rw [hp] at hq; cases hq; omega
          omega
theorem wqF (tr : TR T top) (hk : k ≤ top) (a : Nat) : wq T c false top k a = if kd T k = 12 then none else if kd T k = 15 then
    (if (pA T k).isSome = true ∧ a = sC' T false top k + lC T false k then some (22, nI (sT T false top k + ln T false k), 0, nI k)
     else if a = sC' T false top k - 1 then some (21, nI (sC' T false top k + lC T false k + (if (pA T k).isSome then 1 else 0)), 0, nI k) else none)
  else if kd T k = 16 then
    (if a = eT T false top k then some (24, 0, 0, nI k)
     else if a = eT T false top k - 1 then some (22, nI (sB T false top k), 0, nI k)
     else if a = sC' T false top k - 1 then some (21, nI (eT T false top k), 0, nI k)
     else if a = sT T false top k then some (23, av T k, 0, nI k) else none)
  else if a = eT T false top k then some (lq T c k) else none := by
  show (if (SS T false top k).2 then none else _) = _
  rw [swF tr k hk, if_neg Bool.false_ne_true, show pu T false k = false from rfl, if_neg Bool.false_ne_true]
/-- the numbers of a node's places, all in one -/
theorem nums (tr : TR T top) (hk : k ≤ top) : ∃ lb lc la, oF (pB T k) 0 (ln T false) = lb ∧ oF (pC T k) 0 (ln T false) = lc ∧ oF (pA T k) 0 (ln T false) = la ∧
    ln T false k = la + lb + lc + own T k ∧ lC T false k = lc ∧
    (∀ x, pB T k = some x → sT T false top x = sT T false top k + ahd T k ∧ ln T false x = lb ∧ sB T false top k = sT T false top k + ahd T k) ∧
    (∀ x, pC T k = some x → sT T false top x = sT T false top k + ahd T k + lb + btw T k ∧ ln T false x = lc ∧ sC' T false top k = sT T false top k + ahd T k + lb + btw T k) ∧
    (∀ x, pA T k = some x → sT T false top x = sT T false top k + ahd T k + lb + btw T k + lc + 1 ∧ ln T false x = la) := by
  obtain ⟨gB, gC, gA⟩ := geo (fl := false) tr hk rfl (swF tr k hk)
  refine ⟨_, _, _, rfl, rfl, rfl, ln_parts tr.1 rfl, rfl, fun x e => ?_, fun x e => ?_, fun x e => ?_⟩
  · have : sT T false top x = sT T false top k + ahd T k := by show (SS T false top x).1 = _; rw [gB x e]
    exact ⟨this, by rw [e]; rfl, by unfold sB; rw [e]; exact this⟩
  · have : sT T false top x = sT T false top k + ahd T k + oF (pB T k) 0 (ln T false) + btw T k := by show (SS T false top x).1 = _; rw [gC x e]
    exact ⟨this, by rw [e]; rfl, by unfold sC'; rw [e]; exact this⟩
  · exact ⟨by show (SS T false top x).1 = _; rw [gA x e], by rw [e]; rfl⟩
theorem own_12 (h : kd T k = 12) : own T k = 0 ∧ ahd T k = 0 ∧ btw T k = 0 := by
  unfold own ahd btw; rw [if_pos h, if_neg (by omega), if_neg (by omega)]; exact ⟨rfl, rfl, rfl⟩
theorem own_15n (h : kd T k = 15) (e : pA T k = none) : own T k = 1 ∧ ahd T k = 0 ∧ btw T k = 1 := by
  unfold own ahd btw; rw [if_neg (by omega), if_pos h, e, if_neg (show ¬ kd T k = 16 by omega), if_pos (Or.inl h)]; exact ⟨rfl, rfl, rfl⟩
theorem own_15s {q : Nat} (h : kd T k = 15) (e : pA T k = some q) : own T k = 2 ∧ ahd T k = 0 ∧ btw T k = 1 := by
  unfold own ahd btw; rw [if_neg (by omega), if_pos h, e, if_neg (show ¬ kd T k = 16 by omega), if_pos (Or.inl h)]; exact ⟨rfl, rfl, rfl⟩
theorem own_16 (h : kd T k = 16) : own T k = 4 ∧ ahd T k = 1 ∧ btw T k = 1 := by
  unfold own ahd btw; rw [if_neg (by omega), if_neg (by omega), if_pos h, if_pos h, if_pos (Or.inr h)]; exact ⟨rfl, rfl, rfl⟩
theorem own_1 (h12 : kd T k ≠ 12) (h15 : kd T k ≠ 15) (h16 : kd T k ≠ 16) : own T k = 1 ∧ ahd T k = 0 ∧ btw T k = 0 := by
  unfold own ahd btw; rw [if_neg h12, if_neg h15, if_neg h16, if_neg h16, if_neg (by omega)]; exact ⟨rfl, rfl, rfl⟩
/-- a node writes in its range, and in none of its parts -/
theorem wq_in (tr : TR T top) (hk : k ≤ top) {a : Nat} (h : (wq T c false top k a).isSome = true) :
    (sT T false top k ≤ a ∧ a < sT T false top k + ln T false k) ∧ ∀ p, part T k p → ¬ (sT T false top p ≤ a ∧ a < sT T false top p + ln T false p) := by
  obtain ⟨lb, lc, la, eb, ec, ea, el, eL, gB, gC, gA⟩ := nums tr hk
  have hw := tr.2.1 k hk
  rw [wqF tr hk] at h
  by_cases k12 : kd T k = 12
  · rw [if_pos k12] at h; cases h
  rw [if_neg k12] at h
  by_cases k15 : kd T k = 15
  · rw [if_pos k15] at h
    obtain ⟨p, ep⟩ := hC_of hw k15 rfl
    obtain ⟨q, eq⟩ := hB_of hw k15 rfl
    have := gC p ep
    have := gB q eq
    rw [eL] at h
    cases eA : pA T k with
    | none =>
      have := own_15n k15 eA
      rw [eA] at ea h
      have : la = 0 := ea.symm
      rw [if_neg (show ¬ ((none : Option Nat).isSome = true ∧ a = sC' T false top k + lc) from fun z => by cases z.1)] at h
      by_cases z : a = sC' T false top k - 1
      · refine ⟨by omega, fun x hx => ?_⟩
        rcases hx with hx | hx | hx
        · have := gB x hx; omega
        · have := gC x hx; omega
        · rw [eA] at hx; cases hx
      · rw [if_neg z] at h; cases h
    | some y =>
      have := own_15s k15 eA
      have := gA y eA
      rw [eA] at h
      by_cases z : a = sC' T false top k + lc
      · refine ⟨by omega, fun x hx => ?_⟩
        rcases hx with hx | hx | hx
        · have := gB x hx; omega
        · have := gC x hx; omega
        · have := gA x hx; omega
      · rw [if_neg (show ¬ ((some y).isSome = true ∧ a = sC' T false top k + lc) from fun w => z w.2)] at h
        by_cases z : a = sC' T false top k - 1
        · refine ⟨by omega, fun x hx => ?_⟩
          rcases hx with hx | hx | hx
          · have := gB x hx; omega
          · have := gC x hx; omega
          · have := gA x hx; omega
        · rw [if_neg z] at h; cases h
  rw [if_neg k15] at h
  have eA := hA_none hw k15
  rw [eA] at ea
  have ea0 : la = 0 := ea.symm
  by_cases k16 : kd T k = 16
  · rw [if_pos k16] at h
    obtain ⟨p, ep⟩ := hC_of hw k16 rfl
    obtain ⟨q, eq⟩ := hB_of hw k16 rfl
    have := gC p ep
    have := gB q eq
    have := own_16 k16
    have key : a = eT T false top k ∨ a = eT T false top k - 1 ∨ a = sC' T false top k - 1 ∨ a = sT T false top k := by
      by_cases z1 : a = eT T false top k
      · exact Or.inl z1
      · rw [if_neg z1] at h
        by_cases z2 : a = eT T false top k - 1
        · exact Or.inr (Or.inl z2)
        · rw [if_neg z2] at h
          by_cases z3 : a = sC' T false top k - 1
          · exact Or.inr (Or.inr (Or.inl z3))
          · rw [if_neg z3] at h
            by_cases z4 : a = sT T false top k
            · exact Or.inr (Or.inr (Or.inr z4))
            · rw [if_neg z4] at h; cases h
    unfold eT at key
    refine ⟨by omega, fun x hx => ?_⟩
    rcases hx with hx | hx | hx
    · have := gB x hx; omega
    · have := gC x hx; omega
    · rw [eA] at hx; cases hx
  · rw [if_neg k16] at h
    have := own_1 k12 k15 k16
    by_cases z : a = eT T false top k
    · unfold eT at z
      refine ⟨by omega, fun x hx => ?_⟩
      rcases hx with hx | hx | hx
      · have := gB x hx; omega
      · have := gC x hx; omega
      · rw [eA] at hx; cases hx
    · rw [if_neg z] at h; cases h
theorem wq_one (tr : TR T top) {j a : Nat} (hk : k ≤ top) (hj : j ≤ top) (h : k < j) (h1 : (wq T c false top k a).isSome = true) (h2 : (wq T c false top j a).isSome = true) : False := by
  obtain ⟨⟨a1, a2⟩, -⟩ := wq_in tr hk h1
  obtain ⟨⟨b1, b2⟩, b3⟩ := wq_in tr hj h2
  by_cases z : lo T j ≤ k
  · obtain ⟨p, hp, p1, p2⟩ := cover tr.1 (fun i hi => tr.2.1 i (by omega)) z h
    have := tr.1 j p hp
    have := incl tr p (by omega) k p1 p2
    exact b3 p hp ⟨by omega, by omega⟩
  · have l0 := tr.2.2.1
    have := disj tr top (Nat.le_refl top) k j (by omega) (by omega) hj
    omega
theorem QA_eq (tr : TR T top) (hk : k ≤ top) {a : Nat} {q : QQ} (h : wq T c false top k a = some q) : QA T c false top (top + 1) a = some q := by
  have key : ∀ d, k + 1 + d ≤ top + 1 → QA T c false top (k + 1 + d) a = some q := by
    intro d
    induction d with
    | zero => intro _; show QA T c false top (k + 1) a = some q; unfold QA; rw [h]
    | succ d ih =>
      intro hd
      show QA T c false top (k + 1 + d + 1) a = some q
      unfold QA
      cases e : wq T c false top (k + 1 + d) a with
      | none => exact ih (by omega)
      | some q' => exact absurd (wq_one (c := c) (a := a) tr hk (show k + 1 + d ≤ top by omega) (by omega) (by rw [h]; rfl) (by rw [e]; rfl)) not_false
  have := key (top - k) (by omega)
  rw [show k + 1 + (top - k) = top + 1 by omega] at this
  exact this
theorem QA_tail (tr : TR T top) {a : Nat} (h : ln T false top ≤ a) : QA T c false top (top + 1) a = tailQ (ln T false top) a := by
  have key : ∀ m, m ≤ top + 1 → QA T c false top m a = tailQ (ln T false top) a := by
    intro m
    induction m with
    | zero => intro _; rfl
    | succ m ih =>
      intro hm
      unfold QA
      cases e : wq T c false top m a with
      | none => exact ih (by omega)
      | some q =>
        have i := wq_in (c := c) (a := a) tr (show m ≤ top by omega) (by rw [e]; rfl)
        have r : sT T false top m + ln T false m ≤ ln T false top := (rng (fl := false) tr m (by omega)).1 (swF tr m (by omega))
        omega
  exact key (top + 1) (Nat.le_refl _)
end PM
