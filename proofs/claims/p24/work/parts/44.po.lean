section PO
variable {T : TT} {N top : Nat} {k : Nat} {c : Int32}
/-- a part's sums -/
theorem nkp (tr : TR T top) {p s l : Nat} (hp : p ≤ top) (hs : sT T false top p = s) (hl : ln T false p = l) : dS T c top (s + l) = dS T c top s + (if kd T p < 8 then 1 else 0) ∧ lS T c top (s + l) = lS T c top s := by
  have n := nk (c := c) tr p hp
  unfold NK at n
  rw [hs, hl] at n
  exact ⟨n.1, n.2.1⟩
theorem kp12 (tr : TR T top) (hk : k ≤ top) (h : kd T k = 12) : ∃ p q, pB T k = some q ∧ pC T k = some p ∧ 12 ≤ kd T p ∧ 12 ≤ kd T q ∧ sT T false top q = sT T false top k ∧ pA T k = none ∧
    dS T c top (sT T false top p) = dS T c top (sT T false top k) ∧ lS T c top (sT T false top p) = lS T c top (sT T false top k) := by
  obtain ⟨lb, lc, la, eb, ec, ea, el, eL, gB, gC, gA⟩ := nums tr hk
  have hw := tr.2.1 k hk
  obtain ⟨p, ep⟩ := hC_of hw h rfl
  obtain ⟨q, eq⟩ := hB_of hw h rfl
  have gp := gC p ep
  have gq := gB q eq
  have o := own_12 h
  have kp := (hw.2.2.2.2.1.2.1 p ep).2
  have kq := (hw.2.2.2.2.1.2.2.1 q eq).2
  rw [if_pos (Or.inl h)] at kp
  rw [if_pos h] at kq
  have qk := tr.1 k q (Or.inl eq)
  have n := nkp (c := c) (p := q) (s := sT T false top k) (l := lb) tr (by omega) (by omega) gq.2.1
  rw [if_neg (show ¬ kd T q < 8 by omega)] at n
  have sp : sT T false top p = sT T false top k + lb := by omega
  exact ⟨p, q, eq, ep, kp, kq, by omega, hA_none hw (by omega), by rw [sp]; omega, by rw [sp]; exact n.2⟩
theorem kp15 (tr : TR T top) (hk : k ≤ top) (h : kd T k = 15) : ∃ p q lb lc, pB T k = some q ∧ pC T k = some p ∧ 12 ≤ kd T p ∧ kd T q < 8 ∧
    sT T false top q = sT T false top k ∧ sT T false top p = sT T false top k + lb + 1 ∧ sC' T false top k = sT T false top k + lb + 1 ∧ lC T false k = lc ∧ 
    (dS T c top (sT T false top k + lb) = dS T c top (sT T false top k) + 1 ∧ lS T c top (sT T false top k + lb) = lS T c top (sT T false top k)) ∧
    (dS T c top (sT T false top k + lb + 1) = dS T c top (sT T false top k) ∧ lS T c top (sT T false top k + lb + 1) = lS T c top (sT T false top k)) ∧
    (dS T c top (sT T false top k + lb + 1 + lc) = dS T c top (sT T false top k) ∧ lS T c top (sT T false top k + lb + 1 + lc) = lS T c top (sT T false top k)) ∧
    (pA T k = none → ln T false k = lb + 1 + lc) ∧
    (∀ y, pA T k = some y → 12 ≤ kd T y ∧ sT T false top y = sT T false top k + lb + 1 + lc + 1 ∧ ln T false k = lb + 1 + lc + 1 + ln T false y ∧
      dS T c top (sT T false top k + lb + 1 + lc + 1) = dS T c top (sT T false top k) ∧ lS T c top (sT T false top k + lb + 1 + lc + 1) = lS T c top (sT T false top k)) := by
  obtain ⟨lb, lc, la, eb, ec, ea, el, eL, gB, gC, gA⟩ := nums tr hk
  have hw := tr.2.1 k hk
  have W := wqF (c := c) tr hk
  obtain ⟨p, ep⟩ := hC_of hw h rfl
  obtain ⟨q, eq⟩ := hB_of hw h rfl
  have gp := gC p ep
  have gq := gB q eq
  have hob : ahd T k = 0 ∧ btw T k = 1 := by
    cases eA : pA T k with
    | none => exact (own_15n h eA).2
    | some y => exact (own_15s h eA).2
  have kp := (hw.2.2.2.2.1.2.1 p ep).2
  have kq := (hw.2.2.2.2.1.2.2.1 q eq).2
  rw [if_pos (Or.inr (Or.inl h))] at kp
  rw [if_neg (show ¬ kd T k = 12 by omega)] at kq
  have qk := tr.1 k q (Or.inl eq)
  have pk := tr.1 k p (Or.inr (Or.inl ep))
  have nq := nkp (c := c) (p := q) (s := sT T false top k) (l := lb) tr (by omega) (by omega) gq.2.1
  rw [if_pos kq] at nq
  have np := nkp (c := c) (p := p) (s := sT T false top k + lb + 1) (l := lc) tr (by omega) (by omega) gp.2.1
  rw [if_neg (show ¬ kd T p < 8 by omega)] at np
  have w1 : Ic T c top (sT T false top k + lb) = (21, nI (sC' T false top k + lC T false k + (if (pA T k).isSome then 1 else 0)), 0, nI k) := Ic_eq tr hk (by
    rw [W, if_neg (show ¬ kd T k = 12 by omega), if_pos h, if_neg (show ¬ ((pA T k).isSome = true ∧ sT T false top k + lb = sC' T false top k + lC T false k) from fun z => by omega), if_pos (by omega)])
  have u1 := dS_o w1 (v := -1) (w := 0) (by decide) (by decide)
  refine ⟨p, q, lb, lc, eq, ep, kp, kq, by omega, by omega, by omega, eL, by omega, by omega, by omega, fun eA => ?_, fun y eA => ?_⟩
  · have := own_15n h eA
    rw [eA] at ea
    have : la = 0 := ea.symm
    omega
  · have o := own_15s h eA
    have gy := gA y eA
    have ky := (hw.2.2.2.2.1.1 y eA).2
    have w2 : Ic T c top (sT T false top k + lb + 1 + lc) = (22, nI (sT T false top k + ln T false k), 0, nI k) := Ic_eq tr hk (by
      rw [W, if_neg (show ¬ kd T k = 12 by omega), if_pos h, eA, if_pos ⟨rfl, by omega⟩])
    have u2 := dS_o w2 (v := 0) (w := 0) (by decide) (by decide)
    exact ⟨ky, by omega, by omega, by omega, by omega⟩
theorem kp16 (tr : TR T top) (hk : k ≤ top) (h : kd T k = 16) : ∃ p q lb lc, pB T k = some q ∧ pC T k = some p ∧ 12 ≤ kd T p ∧ kd T q < 8 ∧ pA T k = none ∧
    sT T false top q = sT T false top k + 1 ∧ sT T false top p = sT T false top k + 1 + lb + 1 ∧ sC' T false top k = sT T false top k + 1 + lb + 1 ∧ sB T false top k = sT T false top k + 1 ∧
    eT T false top k = sT T false top k + 1 + lb + 1 + lc + 1 ∧ ln T false k = 1 + lb + 1 + lc + 1 + 1 ∧
    (dS T c top (sT T false top k + 1) = dS T c top (sT T false top k) ∧ lS T c top (sT T false top k + 1) = lS T c top (sT T false top k) + 1) ∧
    (dS T c top (sT T false top k + 1 + lb) = dS T c top (sT T false top k) + 1 ∧ lS T c top (sT T false top k + 1 + lb) = lS T c top (sT T false top k) + 1) ∧
    (dS T c top (sT T false top k + 1 + lb + 1) = dS T c top (sT T false top k) ∧ lS T c top (sT T false top k + 1 + lb + 1) = lS T c top (sT T false top k) + 1) ∧
    (dS T c top (sT T false top k + 1 + lb + 1 + lc) = dS T c top (sT T false top k) ∧ lS T c top (sT T false top k + 1 + lb + 1 + lc) = lS T c top (sT T false top k) + 1) ∧
    (dS T c top (sT T false top k + 1 + lb + 1 + lc + 1) = dS T c top (sT T false top k) ∧ lS T c top (sT T false top k + 1 + lb + 1 + lc + 1) = lS T c top (sT T false top k) + 1) := by
  obtain ⟨lb, lc, la, eb, ec, ea, el, eL, gB, gC, gA⟩ := nums tr hk
  have hw := tr.2.1 k hk
  have W := wqF (c := c) tr hk
  obtain ⟨p, ep⟩ := hC_of hw h rfl
  obtain ⟨q, eq⟩ := hB_of hw h rfl
  have gp := gC p ep
  have gq := gB q eq
  have o := own_16 h
  have eA := hA_none hw (by omega)
  rw [eA] at ea
  have ea0 : la = 0 := ea.symm
  have kp := (hw.2.2.2.2.1.2.1 p ep).2
  have kq := (hw.2.2.2.2.1.2.2.1 q eq).2
  rw [if_pos (Or.inr (Or.inr h))] at kp
  rw [if_neg (show ¬ kd T k = 12 by omega)] at kq
  have qk := tr.1 k q (Or.inl eq)
  have pk := tr.1 k p (Or.inr (Or.inl ep))
  have nq := nkp (c := c) (p := q) (s := sT T false top k + 1) (l := lb) tr (by omega) (by omega) gq.2.1
  rw [if_pos kq] at nq
  have np := nkp (c := c) (p := p) (s := sT T false top k + 1 + lb + 1) (l := lc) tr (by omega) (by omega) gp.2.1
  rw [if_neg (show ¬ kd T p < 8 by omega)] at np
  have el' : ln T false k = 1 + lb + 1 + lc + 1 + 1 := by omega
  have ee : eT T false top k = sT T false top k + 1 + lb + 1 + lc + 1 := by unfold eT; omega
  have k12 : ¬ kd T k = 12 := by omega
  have k15 : ¬ kd T k = 15 := by omega
  have w0 : Ic T c top (sT T false top k) = (23, av T k, 0, nI k) := Ic_eq tr hk (by
    rw [W, if_neg k12, if_neg k15, if_pos h, if_neg (by omega), if_neg (by omega), if_neg (by omega), if_pos rfl])
  have w1 : Ic T c top (sT T false top k + 1 + lb) = (21, nI (eT T false top k), 0, nI k) := Ic_eq tr hk (by
    rw [W, if_neg k12, if_neg k15, if_pos h, if_neg (by omega), if_neg (by omega), if_pos (by omega)])
  have w2 : Ic T c top (sT T false top k + 1 + lb + 1 + lc) = (22, nI (sB T false top k), 0, nI k) := Ic_eq tr hk (by
    rw [W, if_neg k12, if_neg k15, if_pos h, if_neg (by omega), if_pos (by omega)])
  have u0 := dS_o w0 (v := 0) (w := 1) (by decide) (by decide)
  have u1 := dS_o w1 (v := -1) (w := 0) (by decide) (by decide)
  have u2 := dS_o w2 (v := 0) (w := 0) (by decide) (by decide)
  exact ⟨p, q, lb, lc, eq, ep, kp, kq, eA, by omega, by omega, by omega, by omega, ee, el', by omega, by omega, by omega, by omega, by omega⟩
/-- at the start of a statement there are no operands -/
theorem stm0 (tr : TR T top) : ∀ k, k ≤ top → 12 ≤ kd T k → dS T c top (sT T false top k) = 0 := by
  refine down tr (fun _ => ?_) (fun w j hw hp ih hj => ?_)
  · show dS T c top (SS T false top top).1 = 0
    rw [SS_top]; rfl
  · have W := tr.2.1 w hw
    have kw : kd T w = 12 ∨ kd T w = 15 ∨ kd T w = 16 := by
      rcases hp with hp | hp | hp
      · have := (W.2.2.2.2.1.2.2.1 j hp).2
        by_cases e : kd T w = 12
        · exact Or.inl e
        · rw [if_neg e] at this; omega
      · have := (W.2.2.2.2.1.2.1 j hp).2
        by_cases e : kd T w = 12 ∨ kd T w = 15 ∨ kd T w = 16
        · exact e
        · rw [if_neg e] at this; omega
      · exact Or.inr (Or.inl (W.2.2.2.1 (by rw [hp]; rfl)))
    have i := ih (by omega)
    rcases kw with h | h | h
    · obtain ⟨p, q, eq, ep, k1, k2, s1, eA, d1, d2⟩ := kp12 (c := c) tr hw h
      rcases hp with hp | hp | hp
      · rw [eq] at hp; cases hp; rw [s1]; exact i
      · rw [ep] at hp; cases hp; rw [d1]; exact i
      · rw [eA] at hp; cases hp
    · obtain ⟨p, q, lb, lc, eq, ep, k1, k2, s1, s2, -, -, -, d2, -, -, d5⟩ := kp15 (c := c) tr hw h
      rcases hp with hp | hp | hp
      · rw [eq] at hp; cases hp; omega
      · rw [ep] at hp; cases hp; rw [s2, d2.1]; exact i
      · obtain ⟨-, y1, -, y2, -⟩ := d5 j hp
        rw [y1, y2]; exact i
    · obtain ⟨p, q, lb, lc, eq, ep, k1, k2, eA, s1, s2, -, -, -, -, d1, d2, d3, -, -⟩ := kp16 (c := c) tr hw h
      rcases hp with hp | hp | hp
      · rw [eq] at hp; cases hp; omega
      · rw [ep] at hp; cases hp; rw [s2, d3.1]; exact i
      · rw [eA] at hp; cases hp
theorem kp1 (tr : TR T top) (hk : k ≤ top) (k12 : kd T k ≠ 12) (k15 : kd T k ≠ 15) (k16 : kd T k ≠ 16) : 
    dS T c top (eT T false top k) = dS T c top (sT T false top k) + (if hBk (kd T k) then 1 else 0) + (if hCk (kd T k) then 1 else 0) ∧ lS T c top (eT T false top k) = lS T c top (sT T false top k) ∧ 1 ≤ ln T false k := by
  obtain ⟨lb, lc, la, eb, ec, ea, el, eL, gB, gC, gA⟩ := nums tr hk
  have hw := tr.2.1 k hk
  have o := own_1 k12 k15 k16
  have eA := hA_none hw k15
  rw [eA] at ea
  have ea0 : la = 0 := ea.symm
  have e : eT T false top k = sT T false top k + lb + lc := by unfold eT; omega
  obtain ⟨-, hB, hC, -, -, -, -⟩ := hw
  have hw := tr.2.1 k hk
  rw [e]
  have b : dS T c top (sT T false top k + lb) = dS T c top (sT T false top k) + (if hBk (kd T k) then 1 else 0) ∧ lS T c top (sT T false top k + lb) = lS T c top (sT T false top k) := by
    cases eq : pB T k with
    | none =>
      rw [eq] at hB eb
      have : lb = 0 := eb.symm
      rw [this, ← hB]
      exact ⟨(Int.add_zero _).symm, rfl⟩
    | some q =>
      rw [eq] at hB
      have gq := gB q eq
      have kq := (hw.2.2.2.2.1.2.2.1 q eq).2
      rw [if_neg k12] at kq
      have qk := tr.1 k q (Or.inl eq)
      have n := nkp (c := c) (p := q) (s := sT T false top k) (l := lb) tr (by omega) (by omega) gq.2.1
      rw [if_pos kq] at n
      rw [← hB]
      exact n
  have d : dS T c top (sT T false top k + lb + lc) = dS T c top (sT T false top k + lb) + (if hCk (kd T k) then 1 else 0) ∧ lS T c top (sT T false top k + lb + lc) = lS T c top (sT T false top k + lb) := by
    cases ep : pC T k with
    | none =>
      rw [ep] at hC ec
      have : lc = 0 := ec.symm
      rw [this, ← hC]
      exact ⟨(Int.add_zero _).symm, rfl⟩
    | some q =>
      rw [ep] at hC
      have gq := gC q ep
      have kq := (hw.2.2.2.2.1.2.1 q ep).2
      rw [if_neg (by omega)] at kq
      have qk := tr.1 k q (Or.inr (Or.inl ep))
      have n := nkp (c := c) (p := q) (s := sT T false top k + lb) (l := lc) tr (by omega) (by omega) gq.2.1
      rw [if_pos kq] at n
      rw [← hC]
      exact n
  exact ⟨by omega, by omega, by omega⟩
/-- the cell of a number's name -/
def isC (T : TT) (c : Int32) (k : Nat) (y : Int32) : Prop := nmK (kd T k) = true ∧ isN (nm T k) = 6 ∧ y = tgN c (nm T k) ∧ (y = 0 ∨ y = 1 ∨ y = 3)
/-- what an instruction may be -/
def TY (T : TT) (c : Int32) (top a k : Nat) (o x y : Int32) : Prop :=
  (o = 1) ∨ (o = 2 ∧ x = 0 ∧ isC T c k y) ∨ (o = 3 ∧ x = 0 ∧ y = 2 ∧ nmK (kd T k) = true ∧ nm T k = 2 ∧ 1 ≤ dS T c top a) ∨
  ((∃ κ, 3 ≤ κ ∧ κ ≤ 7 ∧ o = nI (κ + 1)) ∧ 2 ≤ dS T c top a) ∨ (o = 19 ∧ x = 0 ∧ isC T c k y ∧ 1 ≤ dS T c top a) ∨ (o = 20 ∧ x = 0 ∧ y = 2 ∧ 2 ≤ dS T c top a) ∨
  (o = 21 ∧ 1 ≤ dS T c top a ∧ ∃ t, x = nI t ∧ t ≤ ln T false top ∧ dS T c top t = dS T c top a - 1 ∧ lS T c top t = lS T c top a) ∨
  (o = 22 ∧ ∃ t, x = nI t ∧ t ≤ ln T false top ∧ dS T c top t = dS T c top a ∧ lS T c top t = lS T c top a) ∨
  (o = 23 ∧ dS T c top a = 0 ∧ sT T false top k + ln T false k ≤ ln T false top ∧ 1 ≤ ln T false k ∧ dS T c top (eT T false top k) = 0 ∧ lS T c top (eT T false top k) = lS T c top a + 1) ∨
  (o = 24 ∧ 1 ≤ lS T c top a) ∨ (o = 25 ∧ x = 0 ∧ dS T c top a = 0) ∨ (o = 26 ∧ 1 ≤ dS T c top a)
theorem dbd (tr : TR T top) (h12 : 12 ≤ kd T top) {a : Nat} (ha : a ≤ ln T false top) : 0 ≤ dS T c top a ∧ dS T c top a ≤ 56 ∧ 0 ≤ lS T c top a ∧ lS T c top a ≤ 56 := by
  have n := nk (c := c) tr top (Nat.le_refl top)
  unfold NK at n
  have s0 : sT T false top top = 0 := by show (SS T false top top).1 = 0; rw [SS_top]
  rw [s0] at n
  have d0 : dS T c top 0 = 0 := rfl
  have l0 : lS T c top 0 = 0 := rfl
  have := n.2.2 a (Nat.zero_le a) (by omega)
  have := tr.2.2.2.2
  omega
theorem dEnd (tr : TR T top) (h12 : 12 ≤ kd T top) : dS T c top (ln T false top) = 0 ∧ lS T c top (ln T false top) = 0 := by
  have n := nk (c := c) tr top (Nat.le_refl top)
  unfold NK at n
  have s0 : sT T false top top = 0 := by show (SS T false top top).1 = 0; rw [SS_top]
  rw [s0, Nat.zero_add, if_neg (show ¬ kd T top < 8 by omega)] at n
  exact ⟨by rw [n.1]; rfl, by rw [n.2.1]; rfl⟩
theorem ty (tr : TR T top) (h12 : 12 ≤ kd T top) {a : Nat} (ha : a < ln T false top) : ∃ k o x y, k ≤ top ∧ Ic T c top a = (o, x, y, nI k) ∧ TY T c top a k o x y := by
  obtain ⟨k, hk, hs⟩ := covk (c := c) (fl := false) tr top (Nat.le_refl top) (by rw [SS_top]) a (by show (SS T false top top).1 ≤ a; rw [SS_top]; exact Nat.zero_le _) (by show a < (SS T false top top).1 + _; rw [SS_top]; show a < 0 + _; omega)
  have r : sT T false top k + ln T false k ≤ ln T false top := (rng (fl := false) tr k hk).1 (swF tr k hk)
  have hw := tr.2.1 k hk
  obtain ⟨q, e⟩ := Option.isSome_iff_exists.mp hs
  have eI := Ic_eq (c := c) tr hk e
  rw [wqF tr hk] at e
  have s1 := stm0 (c := c) tr k hk
  by_cases k12 : kd T k = 12
  · rw [if_pos k12] at e; cases e
  rw [if_neg k12] at e
  by_cases k15 : kd T k = 15
  · rw [if_pos k15] at e
    obtain ⟨p, q', lb, lc, eq, ep, k1, k2, g1, g2, g3, g4, d1, d2, d3, dn, ds⟩ := kp15 (c := c) tr hk k15
    rw [g3, g4] at e
    have s0 := s1 (by omega)
    have nkk := nk (c := c) tr k hk
    unfold NK at nkk
    rw [if_neg (show ¬ kd T k < 8 by omega)] at nkk
    cases eA : pA T k with
    | none =>
      have dn := dn eA
      rw [eA, if_neg (show ¬ ((none : Option Nat).isSome = true ∧ a = sT T false top k + lb + 1 + lc) from fun z => by cases z.1)] at e
      by_cases z : a = sT T false top k + lb + 1 - 1
      · rw [if_pos z] at e
        cases e
        refine ⟨k, _, _, _, hk, eI, Or.inr (Or.inr (Or.inr (Or.inr (Or.inr (Or.inr (Or.inl ⟨rfl, ?_, sT T false top k + lb + 1 + lc, rfl, ?_, ?_, ?_⟩))))))⟩
        all_goals (have za : a = sT T false top k + lb := by omega
                   try rw [za])
        · omega
        · omega
        · omega
        · omega
      · rw [if_neg z] at e; cases e
    | some y =>
      obtain ⟨y1, y2, y3, y4, y5⟩ := ds y eA
      rw [eA] at e
      by_cases z : a = sT T false top k + lb + 1 + lc
      · rw [if_pos ⟨rfl, z⟩] at e
        cases e
        refine ⟨k, _, _, _, hk, eI, Or.inr (Or.inr (Or.inr (Or.inr (Or.inr (Or.inr (Or.inr (Or.inl ⟨rfl, _, rfl, r, ?_, ?_⟩)))))))⟩
        · rw [z, nkk.1]; omega
        · rw [z, nkk.2.1]; omega
      · rw [if_neg (show ¬ ((some y).isSome = true ∧ a = sT T false top k + lb + 1 + lc) from fun w => z w.2)] at e
        by_cases z : a = sT T false top k + lb + 1 - 1
        · rw [if_pos z] at e
          cases e
          refine ⟨k, _, _, _, hk, eI, Or.inr (Or.inr (Or.inr (Or.inr (Or.inr (Or.inr (Or.inl ⟨rfl, ?_, sT T false top k + lb + 1 + lc + 1, rfl, ?_, ?_, ?_⟩))))))⟩
          all_goals (have za : a = sT T false top k + lb := by omega
                     try rw [za])
          · omega
          · omega
          · omega
          · omega
        · rw [if_neg z] at e; cases e
  rw [if_neg k15] at e
  by_cases k16 : kd T k = 16
  · rw [if_pos k16] at e
    obtain ⟨p, q', lb, lc, eq, ep, k1, k2, eA, g1, g2, g3, g4, g5, g6, d1, d2, d3, d4, d5⟩ := kp16 (c := c) tr hk k16
    have s0 := s1 (by omega)
    have bd := dbd (c := c) tr h12 (a := sT T false top k) (by omega)
    rw [g3, g4] at e
    by_cases z : a = eT T false top k
    · rw [if_pos z] at e
      cases e
      refine ⟨k, _, _, _, hk, eI, Or.inr (Or.inr (Or.inr (Or.inr (Or.inr (Or.inr (Or.inr (Or.inr (Or.inr (Or.inl ⟨rfl, ?_⟩)))))))))⟩
      rw [z, g5]; omega
    rw [if_neg z] at e
    by_cases z2 : a = eT T false top k - 1
    · rw [if_pos z2] at e
      cases e
      have za : a = sT T false top k + 1 + lb + 1 + lc := by omega
      refine ⟨k, _, _, _, hk, eI, Or.inr (Or.inr (Or.inr (Or.inr (Or.inr (Or.inr (Or.inr (Or.inl ⟨rfl, sT T false top k + 1, rfl, ?_, ?_, ?_⟩)))))))⟩
      · omega
      · rw [za]; omega
      · rw [za]; omega
    rw [if_neg z2] at e
    by_cases z3 : a = sT T false top k + 1 + lb + 1 - 1
    · rw [if_pos z3] at e
      cases e
      have za : a = sT T false top k + 1 + lb := by omega
      refine ⟨k, _, _, _, hk, eI, Or.inr (Or.inr (Or.inr (Or.inr (Or.inr (Or.inr (Or.inl ⟨rfl, ?_, _, rfl, ?_, ?_, ?_⟩))))))⟩
      · rw [za]; omega
      · omega
      · rw [za, g5]; omega
      · rw [za, g5]; omega
    rw [if_neg z3] at e
    by_cases z4 : a = sT T false top k
    · rw [if_pos z4] at e
      cases e
      refine ⟨k, _, _, _, hk, eI, Or.inr (Or.inr (Or.inr (Or.inr (Or.inr (Or.inr (Or.inr (Or.inr (Or.inl ⟨rfl, ?_, r, ?_, ?_, ?_⟩))))))))⟩
      · rw [z4]; exact s0
      · omega
      · rw [g5]; omega
      · rw [z4, g5]; omega
    rw [if_neg z4] at e; cases e
  rw [if_neg k16] at e
  by_cases z : a = eT T false top k
  · rw [if_pos z] at e
    cases e
    obtain ⟨d1, d2, l1⟩ := kp1 (c := c) tr hk k12 k15 k16
    have bd := dbd (c := c) tr h12 (a := sT T false top k) (by omega)
    rw [← z] at d1
    have okκ := hw.1
    have hlt := hw.lt
    have n8 : kd T k ≠ 8 := okK_ne okκ rfl
    have n9 : kd T k ≠ 9 := okK_ne okκ rfl
    have n10 : kd T k ≠ 10 := okK_ne okκ rfl
    have n11 : kd T k ≠ 11 := okK_ne okκ rfl
    have n18 : kd T k ≠ 18 := okK_ne okκ rfl
    have n20 : kd T k ≠ 20 := okK_ne okκ rfl
    have n21 : kd T k ≠ 21 := okK_ne okκ rfl
    have cell : nm T k < 5 → nm T k ≠ 2 → nm T k ≠ 3 → nmK (kd T k) = true → isC T c k (tgN c (nm T k)) := fun a1 a2 a3 a4 => by
      refine ⟨a4, ?_, rfl, ?_⟩
      all_goals (rcases (show nm T k = 0 ∨ nm T k = 1 ∨ nm T k = 4 by omega) with q | q | q <;> rw [q])
      · decide
      · decide
      · decide
      · exact Or.inl rfl
      · exact Or.inr (Or.inl rfl)
      · exact Or.inr (Or.inr rfl)
    unfold lq at eI
    by_cases k0 : kd T k = 0
    · rw [if_pos k0] at eI
      exact ⟨k, _, _, _, hk, eI, Or.inl rfl⟩
    rw [if_neg k0] at eI
    by_cases k1 : kd T k = 1
    · by_cases n3 : nm T k = 3
      · rw [if_pos ⟨k1, n3⟩] at eI
        exact ⟨k, _, _, _, hk, eI, Or.inl rfl⟩
      · rw [if_neg (fun z => n3 z.2), if_pos k1] at eI
        have hn : nmK (kd T k) = true := by rw [k1]; rfl
        have h5 := hw.2.2.2.2.2.1 hn
        exact ⟨k, _, _, _, hk, eI, Or.inr (Or.inl ⟨rfl, rfl, cell h5.2.1 (h5.2.2.1 k1) n3 hn⟩)⟩
    rw [if_neg (fun z => k1 z.1), if_neg k1] at eI
    by_cases k2 : kd T k = 2
    · rw [if_pos k2] at eI
      have hn : nmK (kd T k) = true := by rw [k2]; rfl
      have h2 := (hw.2.2.2.2.2.1 hn).2.2.2.1 (Or.inl k2)
      rw [k2, show hBk 2 = true from rfl, show hCk 2 = false from rfl, if_pos rfl, if_neg Bool.false_ne_true] at d1
      exact ⟨k, _, _, _, hk, eI, Or.inr (Or.inr (Or.inl ⟨rfl, rfl, by rw [h2]; rfl, hn, h2, by omega⟩))⟩
    rw [if_neg k2] at eI
    by_cases k7 : kd T k < 8
    · rw [if_pos k7] at eI
      have b1 : hBk (kd T k) = true := by unfold hBk; simp only [Bool.or_eq_true, Bool.and_eq_true, decide_eq_true_eq, beq_iff_eq]; omega
      have c1 : hCk (kd T k) = true := by unfold hCk; simp only [Bool.or_eq_true, Bool.and_eq_true, decide_eq_true_eq, beq_iff_eq]; omega
      rw [b1, c1, if_pos rfl] at d1
      exact ⟨k, _, _, _, hk, eI, Or.inr (Or.inr (Or.inr (Or.inl ⟨⟨kd T k, by omega, by omega, rfl⟩, by omega⟩)))⟩
    rw [if_neg k7] at eI
    by_cases k13 : kd T k = 13
    · rw [if_pos k13] at eI
      have hn : nmK (kd T k) = true := by rw [k13]; rfl
      have h5 := hw.2.2.2.2.2.1 hn
      have h2 := h5.2.2.2.2 k13
      rw [k13, show hBk 13 = true from rfl, show hCk 13 = false from rfl, if_pos rfl, if_neg Bool.false_ne_true] at d1
      exact ⟨k, _, _, _, hk, eI, Or.inr (Or.inr (Or.inr (Or.inr (Or.inl ⟨rfl, rfl, cell h5.2.1 h2.1 h2.2 hn, by omega⟩))))⟩
    rw [if_neg k13] at eI
    by_cases k14 : kd T k = 14
    · rw [if_pos k14] at eI
      have hn : nmK (kd T k) = true := by rw [k14]; rfl
      have h2 := (hw.2.2.2.2.2.1 hn).2.2.2.1 (Or.inr k14)
      rw [k14, show hBk 14 = true from rfl, show hCk 14 = true from rfl, if_pos rfl] at d1
      exact ⟨k, _, _, _, hk, eI, Or.inr (Or.inr (Or.inr (Or.inr (Or.inr (Or.inl ⟨rfl, rfl, by rw [h2]; rfl, by omega⟩)))))⟩
    rw [if_neg k14] at eI
    by_cases k17 : kd T k = 17
    · rw [if_pos k17] at eI
      have s0 := s1 (by omega)
      rw [k17, show hBk 17 = false from rfl, show hCk 17 = false from rfl, if_neg Bool.false_ne_true] at d1
      exact ⟨k, _, _, _, hk, eI, Or.inr (Or.inr (Or.inr (Or.inr (Or.inr (Or.inr (Or.inr (Or.inr (Or.inr (Or.inr (Or.inl ⟨rfl, rfl, by omega⟩))))))))))⟩
    rw [if_neg k17] at eI
    have k19 : kd T k = 19 := by omega
    rw [k19, show hBk 19 = true from rfl, show hCk 19 = false from rfl, if_pos rfl, if_neg Bool.false_ne_true] at d1
    exact ⟨k, _, _, _, hk, eI, Or.inr (Or.inr (Or.inr (Or.inr (Or.inr (Or.inr (Or.inr (Or.inr (Or.inr (Or.inr (Or.inr ⟨rfl, by omega⟩))))))))))⟩
  · rw [if_neg z] at e; cases e
end PO
