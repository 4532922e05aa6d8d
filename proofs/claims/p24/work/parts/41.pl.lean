section PL
variable {T : TT} {N top : Nat} {k : Nat} {c : Int32} {fl : Bool}
theorem ln_parts (hP : PL T) (hn : pu T fl k = false) : ln T fl k = oF (pA T k) 0 (ln T fl) + oF (pB T k) 0 (ln T fl) + oF (pC T k) 0 (ln T fl) + own T k := by
  rw [ln_eq hP]; unfold lnF; rw [hn, if_neg Bool.false_ne_true]
/-- the places of the parts of a node that is written -/
theorem geo (tr : TR T top) (hk : k ≤ top) (hn : pu T fl k = false) (hs : (SS T fl top k).2 = false) :
    (∀ p, pB T k = some p → SS T fl top p = (sT T fl top k + ahd T k, false)) ∧
    (∀ p, pC T k = some p → SS T fl top p = (sT T fl top k + ahd T k + oF (pB T k) 0 (ln T fl) + btw T k, false)) ∧
    (∀ p, pA T k = some p → SS T fl top p = (sT T fl top k + ahd T k + oF (pB T k) 0 (ln T fl) + btw T k + oF (pC T k) 0 (ln T fl) + 1, false)) := by
  refine ⟨fun p hp => ?_, fun p hp => ?_, fun p hp => ?_⟩
  · have e := SS_part (fl := fl) tr hk (Or.inl hp)
    rw [hn, hs] at e
    rw [e]; unfold off; rw [if_pos hp]; rfl
  · have e := SS_part (fl := fl) tr hk (Or.inr (Or.inl hp))
    have n := part_ne (T := T) (k := k) (j := p) tr.1 (fun i hi => tr.2.1 i (by omega))
    rw [hn, hs] at e
    rw [e]; unfold off; rw [if_neg (fun q => (n.1 q).1 hp), if_pos hp]
    show (sT T fl top k + (ahd T k + oF (pB T k) 0 (ln T fl) + btw T k), false) = _
    rw [← Nat.add_assoc, ← Nat.add_assoc]
  · have e := SS_part (fl := fl) tr hk (Or.inr (Or.inr hp))
    have n := part_ne (T := T) (k := k) (j := p) tr.1 (fun i hi => tr.2.1 i (by omega))
    rw [hn, hs] at e
    rw [e]; unfold off; rw [if_neg (fun q => (n.1 q).2 hp), if_neg (fun q => n.2 q hp)]
    show (sT T fl top k + (ahd T k + oF (pB T k) 0 (ln T fl) + btw T k + oF (pC T k) 0 (ln T fl) + 1), false) = _
    rw [← Nat.add_assoc, ← Nat.add_assoc, ← Nat.add_assoc, ← Nat.add_assoc]
theorem hA_none (hw : WF T k) (h : kd T k ≠ 15) : pA T k = none := by
  cases e : pA T k with
  | none => rfl
  | some p => exact absurd (hw.2.2.2.1 (by rw [e]; rfl)) h
theorem oFlt {o : Option Nat} {f : Nat → Nat} {i : Nat} (h : i < oF o 0 f) : ∃ p, o = some p ∧ i < f p := by
  cases o with
  | none => exact absurd h (Nat.not_lt_zero _)
  | some p => exact ⟨p, rfl, h⟩
/-- all of a node's places are written by it, or by what is in it -/
theorem covk (tr : TR T top) : ∀ k, k ≤ top → (SS T fl top k).2 = false → ∀ a, sT T fl top k ≤ a → a < sT T fl top k + ln T fl k → ∃ j, j ≤ k ∧ (wq T c fl top j a).isSome = true := by
  intro k
  induction k using Nat.strongRecOn with
  | ind k ih =>
    intro hk hs a h1 h2
    have hw := tr.2.1 k hk
    cases hp : pu T fl k with
    | true =>
      have l1 := pu_ln tr.1 hp
      refine ⟨k, Nat.le_refl k, ?_⟩
      unfold wq
      rw [hs, hp, if_neg Bool.false_ne_true, if_pos rfl, if_pos (show a = eT T fl top k by unfold eT; omega)]; rfl
    | false =>
      obtain ⟨gB, gC, gA⟩ := geo (fl := fl) tr hk hp hs
      have lk := ln_parts (fl := fl) tr.1 hp
      have W : ∀ a, wq T c fl top k a = if kd T k = 12 then none else if kd T k = 15 then
          (if (pA T k).isSome = true ∧ a = sC' T fl top k + lC T fl k then some (22, nI (sT T fl top k + ln T fl k), 0, nI k)
           else if a = sC' T fl top k - 1 then some (21, nI (sC' T fl top k + lC T fl k + (if (pA T k).isSome then 1 else 0)), 0, nI k) else none)
        else if kd T k = 16 then
          (if a = eT T fl top k then some (24, 0, 0, nI k)
           else if a = eT T fl top k - 1 then some (22, nI (sB T fl top k), 0, nI k)
           else if a = sC' T fl top k - 1 then some (21, nI (eT T fl top k), 0, nI k)
           else if a = sT T fl top k then some (23, av T k, 0, nI k) else none)
        else if a = eT T fl top k then some (lq T c k) else none := fun a => by
        show (if (SS T fl top k).2 then none else _) = _
        rw [hs, if_neg Bool.false_ne_true, hp, if_neg Bool.false_ne_true]
      have sub : ∀ p s, part T k p → SS T fl top p = (s, false) → s ≤ a → a < s + ln T fl p → ∃ j, j ≤ k ∧ (wq T c fl top j a).isSome = true := fun p s hp e q1 q2 => by
        have := tr.1 k p hp
        obtain ⟨j, hj, hh⟩ := ih p this (by omega) (by rw [e]) a (by show (SS T fl top p).1 ≤ a; rw [e]; exact q1) (by show a < (SS T fl top p).1 + _; rw [e]; exact q2)
        exact ⟨j, by omega, hh⟩
      by_cases qB : sT T fl top k + ahd T k ≤ a ∧ a - (sT T fl top k + ahd T k) < oF (pB T k) 0 (ln T fl)
      · obtain ⟨p, ep, hl⟩ := oFlt qB.2
        exact sub p _ (Or.inl ep) (gB p ep) qB.1 (by omega)
      by_cases qC : sT T fl top k + ahd T k + oF (pB T k) 0 (ln T fl) + btw T k ≤ a ∧ a - (sT T fl top k + ahd T k + oF (pB T k) 0 (ln T fl) + btw T k) < oF (pC T k) 0 (ln T fl)
      · obtain ⟨p, ep, hl⟩ := oFlt qC.2
        exact sub p _ (Or.inr (Or.inl ep)) (gC p ep) qC.1 (by omega)
      by_cases qA : sT T fl top k + ahd T k + oF (pB T k) 0 (ln T fl) + btw T k + oF (pC T k) 0 (ln T fl) + 1 ≤ a ∧ a - (sT T fl top k + ahd T k + oF (pB T k) 0 (ln T fl) + btw T k + oF (pC T k) 0 (ln T fl) + 1) < oF (pA T k) 0 (ln T fl)
      · obtain ⟨p, ep, hl⟩ := oFlt qA.2
        exact sub p _ (Or.inr (Or.inr ep)) (gA p ep) qA.1 (by omega)
      refine ⟨k, Nat.le_refl k, ?_⟩
      rw [W]
      unfold own at lk
      unfold ahd at qB
      unfold ahd btw at qC qA
      by_cases k12 : kd T k = 12
      · rw [if_pos k12] at lk
        have := hA_none hw (by omega)
        rw [this] at lk
        have : oF none 0 (ln T fl) = 0 := rfl
        rw [if_neg (by omega), if_neg (by omega)] at qC
        rw [if_neg (by omega)] at qB
        omega
      rw [if_neg k12] at lk ⊢
      by_cases k15 : kd T k = 15
      · rw [if_pos k15] at lk ⊢
        rw [if_neg (by omega), if_pos (Or.inl k15)] at qC qA
        rw [if_neg (by omega)] at qB
        obtain ⟨p, ep⟩ := hC_of hw k15 rfl
        have e := gC p ep
        have eC : sC' T fl top k = sT T fl top k + 0 + oF (pB T k) 0 (ln T fl) + 1 := by
          unfold sC'
          rw [ep]
          show (SS T fl top p).1 = _
          rw [e]; unfold ahd btw; rw [if_neg (by omega), if_pos (Or.inl k15)]
        have eL : lC T fl k = oF (pC T k) 0 (ln T fl) := rfl
        rw [eC, eL]
        by_cases z : a = sT T fl top k + 0 + oF (pB T k) 0 (ln T fl) + 1 - 1
        · rw [if_pos z]; split <;> rfl
        · cases eA : pA T k with
          | none =>
            rw [eA] at lk qA
            have : oF none 0 (ln T fl) = 0 := rfl
            have : (if (none : Option Nat).isSome = true then 2 else 1 : Nat) = 1 := rfl
            omega
          | some q =>
            rw [eA] at lk qA
            have : (if (some q : Option Nat).isSome = true then 2 else 1 : Nat) = 2 := rfl
            rw [if_pos ⟨rfl, by omega⟩]; rfl
      rw [if_neg k15] at lk ⊢
      have eA := hA_none hw k15
      rw [eA] at lk qA
      have eA0 : oF none 0 (ln T fl) = 0 := rfl
      by_cases k16 : kd T k = 16
      · rw [if_pos k16] at lk ⊢
        rw [if_pos k16, if_pos (Or.inr k16)] at qC
        rw [if_pos k16] at qB
        obtain ⟨p, ep⟩ := hC_of hw k16 rfl
        have e := gC p ep
        have eC : sC' T fl top k = sT T fl top k + 1 + oF (pB T k) 0 (ln T fl) + 1 := by
          unfold sC'
          rw [ep]
          show (SS T fl top p).1 = _
          rw [e]; unfold ahd btw; rw [if_pos k16, if_pos (Or.inr k16)]
        rw [eC]
        unfold eT
        split
        · rfl
        · split
          · rfl
          · split
            · rfl
            · rw [if_pos (by omega)]; rfl
      · rw [if_neg k16] at lk ⊢
        rw [if_neg k16, if_neg (by omega)] at qC
        rw [if_neg k16] at qB
        rw [if_pos (show a = eT T fl top k by unfold eT; omega)]; rfl
theorem QA_some : ∀ m a, (∃ j, j < m ∧ (wq T c fl top j a).isSome = true) ∨ (tailQ (ln T fl top) a).isSome = true → (QA T c fl top m a).isSome = true := by
  intro m
  induction m with
  | zero =>
    intro a h
    rcases h with ⟨j, hj, -⟩ | h
    · omega
    · exact h
  | succ m ih =>
    intro a h
    unfold QA
    cases e : wq T c fl top m a with
    | some q => rfl
    | none =>
      refine ih a ?_
      rcases h with ⟨j, hj, hh⟩ | h
      · refine Or.inl ⟨j, ?_, hh⟩
        have : j ≠ m := fun z => by rw [z, e] at hh; cases hh
        omega
      · exact Or.inr h
/-- each place is written -/
theorem cov (tr : TR T top) {a : Nat} (ha : a < ln T fl top + 2) : ∃ q, QA T c fl top (top + 1) a = some q := by
  refine Option.isSome_iff_exists.mp (QA_some _ _ ?_)
  by_cases h : a < ln T fl top
  · obtain ⟨j, hj, hh⟩ := covk (c := c) (fl := fl) tr top (Nat.le_refl top) (by rw [SS_top]) a (by show (SS T fl top top).1 ≤ a; rw [SS_top]; exact Nat.zero_le _) (by show a < (SS T fl top top).1 + _; rw [SS_top]; show a < 0 + _; omega)
    exact Or.inl ⟨j, by omega, hh⟩
  · refine Or.inr ?_
    unfold tailQ
    by_cases e : a = ln T fl top + 1
    · rw [if_pos e]; rfl
    · rw [if_neg e, if_pos (by omega)]; rfl
/-- the sum of f over the numbers below n -/
def su (f : Nat → Nat) : Nat → Nat
  | 0 => 0
  | n + 1 => su f n + f n
theorem su_add (f g' : Nat → Nat) : ∀ n, su (fun a => f a + g' a) n = su f n + su g' n := by
  intro n
  induction n with
  | zero => rfl
  | succ n ih => unfold su; rw [ih]; omega
theorem su_one {s : Nat} : ∀ n, su (fun a => if (s == a) = true then 1 else 0) n = if s < n then 1 else 0 := by
  intro n
  induction n with
  | zero => rfl
  | succ n ih =>
    unfold su
    rw [ih]
    by_cases h : s = n
    · rw [if_neg (by omega), if_pos (by rw [h]; exact beq_self_eq_true n), if_pos (by omega)]
    · rw [if_neg (c := (s == n) = true) (by rw [beq_false_of_ne h]; exact Bool.false_ne_true)]
      by_cases h2 : s < n
      · rw [if_pos h2, if_pos (by omega)]
      · rw [if_neg h2, if_neg (by omega)]
theorem su_zero : ∀ n, su (fun _ => 0) n = 0 := by
  intro n
  induction n with
  | zero => rfl
  | succ n ih => unfold su; rw [ih]
/-- as many nodes begin as there are -/
theorem su_cb (tr : TR T top) : ∀ m, m ≤ top + 1 → su (cb T fl top m) (ln T fl top + 2) = m := by
  intro m
  induction m with
  | zero => intro _; exact su_zero _
  | succ m ih =>
    intro h
    have e : cb T fl top (m + 1) = fun a => cb T fl top m a + if (sT T fl top m == a) = true then 1 else 0 := by
      funext a
      unfold cb
      rfl
    rw [e, su_add, ih (by omega), su_one, if_pos (s_lt tr (by omega))]
/-- folding makes no code longer -/
theorem ln_mono (hP : PL T) : ∀ k, (∀ j, j ≤ k → WF T j) → ln T true k ≤ ln T false k := by
  intro k
  induction k using Nat.strongRecOn with
  | ind k ih =>
    intro hw
    have m : ∀ o, (∀ p, o = some p → part T k p) → oF o 0 (ln T true) ≤ oF o 0 (ln T false) := fun o ho => by
      cases o with
      | none => exact Nat.le_refl _
      | some p =>
        have := hP k p (ho p rfl)
        exact ih p this (fun j hj => hw j (by omega))
    have e := ln_parts (fl := false) (k := k) hP rfl
    cases hp : pu T true k with
    | true =>
      have := pu_kd hP hp
      have := ln_pos (fl := false) hP (hw k (Nat.le_refl k)) (by omega)
      rw [pu_ln hP hp]; exact this
    | false =>
      have e2 := ln_parts (fl := true) (k := k) hP hp
      have a := m (pA T k) (fun p q => Or.inr (Or.inr q))
      have b := m (pB T k) (fun p q => Or.inl q)
      have d := m (pC T k) (fun p q => Or.inr (Or.inl q))
      omega
end PL
