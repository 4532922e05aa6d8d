section PN
variable {T : TT} {N top : Nat} {k : Nat} {c : Int32}
/-- the code without passes -/
def Ic (T : TT) (c : Int32) (top a : Nat) : QQ := ov (QA T c false top (top + 1) a) (0, 0, 0, 0)
theorem Ic_eq (tr : TR T top) (hk : k ≤ top) {a : Nat} {q : QQ} (h : wq T c false top k a = some q) : Ic T c top a = q := by
  unfold Ic; rw [QA_eq tr hk h]; rfl
/-- what an instruction does to the operands, and to the loops -/
def eff (o : Int32) : Int := if o = 1 ∨ o = 2 then 1 else if o = 4 ∨ o = 5 ∨ o = 6 ∨ o = 7 ∨ o = 8 ∨ o = 19 ∨ o = 21 ∨ o = 26 then -1 else if o = 20 then -2 else 0
def lef (o : Int32) : Int := if o = 23 then 1 else if o = 24 then -1 else 0
def dS (T : TT) (c : Int32) (top : Nat) : Nat → Int
  | 0 => 0
  | a + 1 => dS T c top a + eff (Ic T c top a).1
def lS (T : TT) (c : Int32) (top : Nat) : Nat → Int
  | 0 => 0
  | a + 1 => lS T c top a + lef (Ic T c top a).1
theorem dS_s {a : Nat} {q : QQ} {v w : Int} (h : Ic T c top a = q) (h1 : eff q.1 = v) (h2 : lef q.1 = w) : dS T c top (a + 1) = dS T c top a + v ∧ lS T c top (a + 1) = lS T c top a + w := by
  subst h; subst h1; subst h2; exact ⟨rfl, rfl⟩
theorem dS_o {a : Nat} {o x y n : Int32} {v w : Int} (h : Ic T c top a = (o, x, y, n)) (h1 : eff o = v) (h2 : lef o = w) : dS T c top (a + 1) = dS T c top a + v ∧ lS T c top (a + 1) = lS T c top a + w := dS_s h h1 h2
def NK (T : TT) (c : Int32) (top k : Nat) : Prop :=
  dS T c top (sT T false top k + ln T false k) = dS T c top (sT T false top k) + (if kd T k < 8 then 1 else 0) ∧ lS T c top (sT T false top k + ln T false k) = lS T c top (sT T false top k) ∧
  ∀ x, sT T false top k ≤ x → x ≤ sT T false top k + ln T false k → dS T c top (sT T false top k) ≤ dS T c top x ∧ 2 * (dS T c top x - dS T c top (sT T false top k)) ≤ (k : Int) + 1 - lo T k + 1 ∧
    lS T c top (sT T false top k) ≤ lS T c top x ∧ 2 * (lS T c top x - lS T c top (sT T false top k)) ≤ (k : Int) + 1 - lo T k
theorem eff_k {κ : Nat} (h3 : 3 ≤ κ) (h7 : κ ≤ 7) : eff (nI (κ + 1)) = -1 ∧ lef (nI (κ + 1)) = 0 := by
  rcases (show κ = 3 ∨ κ = 4 ∨ κ = 5 ∨ κ = 6 ∨ κ = 7 by omega) with rfl | rfl | rfl | rfl | rfl <;> decide
theorem nk (tr : TR T top) : ∀ k, k ≤ top → NK T c top k := by
  intro k
  induction k using Nat.strongRecOn with
  | ind k ih =>
    intro hk
    obtain ⟨lb, lc, la, eb, ec, ea, el, eL, gB, gC, gA⟩ := nums tr hk
    have hw := tr.2.1 k hk
    obtain ⟨-, hB, hC, -, ⟨wA, wC, wB, wl, wk⟩, -, -⟩ := hw
    have hw := tr.2.1 k hk
    obtain ⟨prA, prC, prB, l1, l2, l3⟩ := prt (T := T) (k := k) tr.1 (fun i hi => tr.2.1 i (by omega))
    have W := wqF (c := c) tr hk
    have nB : pB T k = none → eB T k = eC T k := fun e => by unfold eB; rw [e]; rfl
    have nC : pC T k = none → eC T k = eA T k := fun e => by unfold eC; rw [e]; rfl
    have nA : pA T k = none → eA T k = k := fun e => by unfold eA; rw [e]; rfl
    unfold NK
    by_cases k12 : kd T k = 12
    · obtain ⟨p, ep⟩ := hC_of hw k12 rfl
      obtain ⟨q, eq⟩ := hB_of hw k12 rfl
      have eA := hA_none hw (by omega)
      have o := own_12 k12
      rw [eA] at ea
      have ea0 : la = 0 := ea.symm
      have nA := nA eA
      have gp := gC p ep
      have gq := gB q eq
      have pp := prC p ep
      have pq := prB q eq
      have np := ih p (by omega) (by omega)
      have nq := ih q (by omega) (by omega)
      have kp := (wC p ep).2
      have kq := (wB q eq).2
      rw [if_pos (Or.inl k12)] at kp
      rw [if_pos k12] at kq
      unfold NK at np nq
      rw [gp.2.1, if_neg (show ¬ kd T p < 8 by omega)] at np
      rw [gq.2.1, if_neg (show ¬ kd T q < 8 by omega)] at nq
      have sq : sT T false top q = sT T false top k := by omega
      have sp : sT T false top p = sT T false top k + lb := by omega
      rw [sp] at np
      rw [sq] at nq
      rw [if_neg (show ¬ kd T k < 8 by omega), show ln T false k = lb + lc by omega, ← Nat.add_assoc]
      refine ⟨by omega, by omega, fun x x1 x2 => ?_⟩
      by_cases z : x ≤ sT T false top k + lb
      · have := nq.2.2 x x1 z; omega
      · have := np.2.2 x (by omega) x2; omega
    by_cases k15 : kd T k = 15
    · obtain ⟨p, ep⟩ := hC_of hw k15 rfl
      obtain ⟨q, eq⟩ := hB_of hw k15 rfl
      have gp := gC p ep
      have gq := gB q eq
      have pp := prC p ep
      have pq := prB q eq
      have np := ih p (by omega) (by omega)
      have nq := ih q (by omega) (by omega)
      have kp := (wC p ep).2
      have kq := (wB q eq).2
      rw [if_pos (Or.inr (Or.inl k15))] at kp
      rw [if_neg (show ¬ kd T k = 12 by omega)] at kq
      unfold NK at np nq
      rw [gp.2.1, if_neg (show ¬ kd T p < 8 by omega)] at np
      rw [gq.2.1, if_pos kq] at nq
      have hob : ahd T k = 0 ∧ btw T k = 1 := by
        cases eA : pA T k with
        | none => exact (own_15n k15 eA).2
        | some y => exact (own_15s k15 eA).2
      have sq : sT T false top q = sT T false top k := by omega
      have sp : sT T false top p = sT T false top k + lb + 1 := by omega
      rw [sp] at np
      rw [sq] at nq
      have w1 : Ic T c top (sT T false top k + lb) = (21, nI (sC' T false top k + lC T false k + (if (pA T k).isSome then 1 else 0)), 0, nI k) := Ic_eq tr hk (by
        rw [W, if_neg k12, if_pos k15, if_neg (show ¬ ((pA T k).isSome = true ∧ sT T false top k + lb = sC' T false top k + lC T false k) from fun z => by omega), if_pos (by omega)])
      have u1 := dS_o w1 (v := -1) (w := 0) (by decide) (by decide)
      rw [if_neg (show ¬ kd T k < 8 by omega)]
      cases eA : pA T k with
      | none =>
        have o := own_15n k15 eA
        rw [eA] at ea
        have ea0 : la = 0 := ea.symm
        have nA := nA eA
        rw [show ln T false k = lb + 1 + lc by omega, ← Nat.add_assoc, ← Nat.add_assoc]
        refine ⟨by omega, by omega, fun x x1 x2 => ?_⟩
        by_cases z : x ≤ sT T false top k + lb
        · have := nq.2.2 x x1 z; omega
        · have := np.2.2 x (by omega) x2; omega
      | some y =>
        have o := own_15s k15 eA
        have gy := gA y eA
        have py := prA y eA
        have ny := ih y (by omega) (by omega)
        have ky := (wA y eA).2
        unfold NK at ny
        rw [gy.2, if_neg (show ¬ kd T y < 8 by omega)] at ny
        have sy : sT T false top y = sT T false top k + lb + 1 + lc + 1 := by omega
        rw [sy] at ny
        have w2 : Ic T c top (sT T false top k + lb + 1 + lc) = (22, nI (sT T false top k + ln T false k), 0, nI k) := Ic_eq tr hk (by
          rw [W, if_neg k12, if_pos k15, eA, if_pos ⟨rfl, by omega⟩])
        have u2 := dS_o w2 (v := 0) (w := 0) (by decide) (by decide)
        rw [show ln T false k = lb + 1 + lc + 1 + la by omega, ← Nat.add_assoc, ← Nat.add_assoc, ← Nat.add_assoc, ← Nat.add_assoc]
        refine ⟨by omega, by omega, fun x x1 x2 => ?_⟩
        by_cases z : x ≤ sT T false top k + lb
        · have := nq.2.2 x x1 z; omega
        · by_cases z2 : x ≤ sT T false top k + lb + 1 + lc
          · have := np.2.2 x (by omega) z2; omega
          · have := ny.2.2 x (by omega) x2; omega
    have eA := hA_none hw k15
    rw [eA] at ea
    have ea0 : la = 0 := ea.symm
    have nA := nA eA
    by_cases k16 : kd T k = 16
    · obtain ⟨p, ep⟩ := hC_of hw k16 rfl
      obtain ⟨q, eq⟩ := hB_of hw k16 rfl
      have gp := gC p ep
      have gq := gB q eq
      have pp := prC p ep
      have pq := prB q eq
      have np := ih p (by omega) (by omega)
      have nq := ih q (by omega) (by omega)
      have kp := (wC p ep).2
      have kq := (wB q eq).2
      rw [if_pos (Or.inr (Or.inr k16))] at kp
      rw [if_neg (show ¬ kd T k = 12 by omega)] at kq
      unfold NK at np nq
      rw [gp.2.1, if_neg (show ¬ kd T p < 8 by omega)] at np
      rw [gq.2.1, if_pos kq] at nq
      have o := own_16 k16
      have sq : sT T false top q = sT T false top k + 1 := by omega
      have sp : sT T false top p = sT T false top k + 1 + lb + 1 := by omega
      rw [sp] at np
      rw [sq] at nq
      have el' : ln T false k = 1 + lb + 1 + lc + 1 + 1 := by omega
      have ee : eT T false top k = sT T false top k + 1 + lb + 1 + lc + 1 := by unfold eT; omega
      have w0 : Ic T c top (sT T false top k) = (23, av T k, 0, nI k) := Ic_eq tr hk (by
        rw [W, if_neg k12, if_neg k15, if_pos k16, if_neg (by omega), if_neg (by omega), if_neg (by omega), if_pos rfl])
      have w1 : Ic T c top (sT T false top k + 1 + lb) = (21, nI (eT T false top k), 0, nI k) := Ic_eq tr hk (by
        rw [W, if_neg k12, if_neg k15, if_pos k16, if_neg (by omega), if_neg (by omega), if_pos (by omega)])
      have w2 : Ic T c top (sT T false top k + 1 + lb + 1 + lc) = (22, nI (sB T false top k), 0, nI k) := Ic_eq tr hk (by
        rw [W, if_neg k12, if_neg k15, if_pos k16, if_neg (by omega), if_pos (by omega)])
      have w3 : Ic T c top (sT T false top k + 1 + lb + 1 + lc + 1) = (24, 0, 0, nI k) := Ic_eq tr hk (by
        rw [W, if_neg k12, if_neg k15, if_pos k16, if_pos (by omega)])
      have u0 := dS_o w0 (v := 0) (w := 1) (by decide) (by decide)
      have u1 := dS_o w1 (v := -1) (w := 0) (by decide) (by decide)
      have u2 := dS_o w2 (v := 0) (w := 0) (by decide) (by decide)
      have u3 := dS_o w3 (v := 0) (w := -1) (by decide) (by decide)
      rw [if_neg (show ¬ kd T k < 8 by omega), el', ← Nat.add_assoc, ← Nat.add_assoc, ← Nat.add_assoc, ← Nat.add_assoc, ← Nat.add_assoc]
      refine ⟨by omega, by omega, fun x x1 x2 => ?_⟩
      by_cases z0 : x = sT T false top k
      · rw [z0]; omega
      · by_cases z : x ≤ sT T false top k + 1 + lb
        · have := nq.2.2 x (by omega) z; omega
        · by_cases z2 : x ≤ sT T false top k + 1 + lb + 1 + lc
          · have := np.2.2 x (by omega) z2; omega
          · by_cases z3 : x = sT T false top k + 1 + lb + 1 + lc + 1
            · rw [z3]; omega
            · have : x = sT T false top k + 1 + lb + 1 + lc + 1 + 1 := by omega
              rw [this]; omega
    have o := own_1 k12 k15 k16
    have el' : ln T false k = lb + lc + 1 := by omega
    have we : Ic T c top (sT T false top k + lb + lc) = lq T c k := Ic_eq tr hk (by
      rw [W, if_neg k12, if_neg k15, if_neg k16, if_pos (by unfold eT; omega)])
    rw [el', ← Nat.add_assoc, ← Nat.add_assoc]
    have okκ := hw.1
    -- the parts that there are are expressions
    have np : ∀ p, pC T k = some p → NK T c top p ∧ kd T p < 8 := fun p ep => by
      have kp := (wC p ep).2
      rw [if_neg (by omega)] at kp
      have := prC p ep
      exact ⟨ih p (by omega) (by omega), kp⟩
    have nq : ∀ p, pB T k = some p → NK T c top p ∧ kd T p < 8 := fun p ep => by
      have kp := (wB p ep).2
      rw [if_neg k12] at kp
      have := prB p ep
      exact ⟨ih p (by omega) (by omega), kp⟩
    have noB : hBk (kd T k) = false → pB T k = none := fun h => by
      rw [h] at hB
      cases e : pB T k with
      | none => rfl
      | some p => rw [e] at hB; cases hB
    have noC : hCk (kd T k) = false → pC T k = none := fun h => by
      rw [h] at hC
      cases e : pC T k with
      | none => rfl
      | some p => rw [e] at hC; cases hC
    have lb0 : pB T k = none → lb = 0 := fun e => by rw [e] at eb; exact eb.symm
    have lc0 : pC T k = none → lc = 0 := fun e => by rw [e] at ec; exact ec.symm
    -- no parts
    have leaf : ∀ v w : Int, hBk (kd T k) = false → hCk (kd T k) = false → eff (lq T c k).1 = v → lef (lq T c k).1 = w → 0 ≤ v → v ≤ 1 → w = 0 → v = (if kd T k < 8 then 1 else 0) → 
        dS T c top (sT T false top k + lb + lc + 1) = dS T c top (sT T false top k) + (if kd T k < 8 then 1 else 0) ∧ lS T c top (sT T false top k + lb + lc + 1) = lS T c top (sT T false top k) ∧
        ∀ x, sT T false top k ≤ x → x ≤ sT T false top k + lb + lc + 1 → dS T c top (sT T false top k) ≤ dS T c top x ∧ 2 * (dS T c top x - dS T c top (sT T false top k)) ≤ (k : Int) + 1 - lo T k + 1 ∧
          lS T c top (sT T false top k) ≤ lS T c top x ∧ 2 * (lS T c top x - lS T c top (sT T false top k)) ≤ (k : Int) + 1 - lo T k := fun v w b1 c1 e1 e2 v0 v1 w0 ve => by
      have a1 := lb0 (noB b1)
      have a2 := lc0 (noC c1)
      have u := dS_s we e1 e2
      rw [a1, a2] at u ⊢
      simp only [Nat.add_zero] at u ⊢
      rw [← ve]
      refine ⟨by omega, by omega, fun x x1 x2 => ?_⟩
      by_cases z : x = sT T false top k
      · rw [z]; omega
      · have : x = sT T false top k + 1 := by omega
        rw [this]; omega
    -- b alone
    have oneB : ∀ v : Int, hBk (kd T k) = true → hCk (kd T k) = false → eff (lq T c k).1 = v → lef (lq T c k).1 = 0 → v ≤ 0 → -1 ≤ v → 1 + v = (if kd T k < 8 then 1 else 0) → 
        dS T c top (sT T false top k + lb + lc + 1) = dS T c top (sT T false top k) + (if kd T k < 8 then 1 else 0) ∧ lS T c top (sT T false top k + lb + lc + 1) = lS T c top (sT T false top k) ∧
        ∀ x, sT T false top k ≤ x → x ≤ sT T false top k + lb + lc + 1 → dS T c top (sT T false top k) ≤ dS T c top x ∧ 2 * (dS T c top x - dS T c top (sT T false top k)) ≤ (k : Int) + 1 - lo T k + 1 ∧
          lS T c top (sT T false top k) ≤ lS T c top x ∧ 2 * (lS T c top x - lS T c top (sT T false top k)) ≤ (k : Int) + 1 - lo T k := fun v b1 c1 e1 e2 v0 v1 ve => by
      have a2 := lc0 (noC c1)
      have a3 := nC (noC c1)
      rw [b1] at hB
      obtain ⟨q, eq⟩ := Option.isSome_iff_exists.mp hB
      obtain ⟨n, kq⟩ := nq q eq
      have gq := gB q eq
      have pq := prB q eq
      unfold NK at n
      have sq : sT T false top q = sT T false top k := by omega
      rw [gq.2.1, sq, if_pos kq] at n
      have u := dS_s we e1 e2
      rw [a2] at u ⊢
      simp only [Nat.add_zero] at u ⊢
      rw [← ve]
      refine ⟨by omega, by omega, fun x x1 x2 => ?_⟩
      by_cases z : x ≤ sT T false top k + lb
      · have := n.2.2 x x1 z; omega
      · have : x = sT T false top k + lb + 1 := by omega
        rw [this]
        have := n.2.2 (sT T false top k + lb) (by omega) (by omega)
        omega
    -- b and c
    have bc : ∀ v : Int, hBk (kd T k) = true → hCk (kd T k) = true → eff (lq T c k).1 = v → lef (lq T c k).1 = 0 → v ≤ 0 → -2 ≤ v → 2 + v = (if kd T k < 8 then 1 else 0) → 
        dS T c top (sT T false top k + lb + lc + 1) = dS T c top (sT T false top k) + (if kd T k < 8 then 1 else 0) ∧ lS T c top (sT T false top k + lb + lc + 1) = lS T c top (sT T false top k) ∧
        ∀ x, sT T false top k ≤ x → x ≤ sT T false top k + lb + lc + 1 → dS T c top (sT T false top k) ≤ dS T c top x ∧ 2 * (dS T c top x - dS T c top (sT T false top k)) ≤ (k : Int) + 1 - lo T k + 1 ∧
          lS T c top (sT T false top k) ≤ lS T c top x ∧ 2 * (lS T c top x - lS T c top (sT T false top k)) ≤ (k : Int) + 1 - lo T k := fun v b1 c1 e1 e2 v0 v1 ve => by
      rw [b1] at hB
      rw [c1] at hC
      obtain ⟨q, eq⟩ := Option.isSome_iff_exists.mp hB
      obtain ⟨p, ep⟩ := Option.isSome_iff_exists.mp hC
      obtain ⟨n, kq⟩ := nq q eq
      obtain ⟨m, kp⟩ := np p ep
      have gq := gB q eq
      have pq := prB q eq
      have gp := gC p ep
      have pp := prC p ep
      unfold NK at n m
      have sq : sT T false top q = sT T false top k := by omega
      have sp : sT T false top p = sT T false top k + lb := by omega
      rw [gq.2.1, sq, if_pos kq] at n
      rw [gp.2.1, sp, if_pos kp] at m
      have u := dS_s we e1 e2
      rw [← ve]
      refine ⟨by omega, by omega, fun x x1 x2 => ?_⟩
      by_cases z : x ≤ sT T false top k + lb
      · have := n.2.2 x x1 z; omega
      · by_cases z2 : x ≤ sT T false top k + lb + lc
        · have := m.2.2 x (by omega) z2; omega
        · have : x = sT T false top k + lb + lc + 1 := by omega
          rw [this]
          have := m.2.2 (sT T false top k + lb + lc) (by omega) (by omega)
          omega
    have hlt := hw.lt
    have n8 : kd T k ≠ 8 := okK_ne okκ rfl
    have n9 : kd T k ≠ 9 := okK_ne okκ rfl
    have n10 : kd T k ≠ 10 := okK_ne okκ rfl
    have n11 : kd T k ≠ 11 := okK_ne okκ rfl
    have n18 : kd T k ≠ 18 := okK_ne okκ rfl
    have n20 : kd T k ≠ 20 := okK_ne okκ rfl
    have n21 : kd T k ≠ 21 := okK_ne okκ rfl
    by_cases k0 : kd T k = 0
    · have e : (lq T c k).1 = 1 := by unfold lq; rw [if_pos k0]
      exact leaf 1 0 (by rw [k0]; rfl) (by rw [k0]; rfl) (by rw [e]; decide) (by rw [e]; decide) (by omega) (by omega) rfl (by rw [if_pos (by omega)])
    by_cases k1 : kd T k = 1
    · have e : (lq T c k).1 = 1 ∨ (lq T c k).1 = 2 := by
        unfold lq; rw [if_neg k0]
        by_cases n3 : nm T k = 3
        · rw [if_pos ⟨k1, n3⟩]; exact Or.inl rfl
        · rw [if_neg (fun z => n3 z.2), if_pos k1]; exact Or.inr rfl
      exact leaf 1 0 (by rw [k1]; rfl) (by rw [k1]; rfl) (by rcases e with e | e <;> rw [e] <;> decide) (by rcases e with e | e <;> rw [e] <;> decide) (by omega) (by omega) rfl (by rw [if_pos (by omega)])
    by_cases k2 : kd T k = 2
    · have e : (lq T c k).1 = 3 := by unfold lq; rw [if_neg k0, if_neg (fun z => k1 z.1), if_neg k1, if_pos k2]
      exact oneB 0 (by rw [k2]; rfl) (by rw [k2]; rfl) (by rw [e]; decide) (by rw [e]; decide) (by omega) (by omega) (by rw [if_pos (by omega)]; rfl)
    by_cases k7 : kd T k < 8
    · have e : (lq T c k).1 = nI (kd T k + 1) := by unfold lq; rw [if_neg k0, if_neg (fun z => k1 z.1), if_neg k1, if_neg k2, if_pos k7]
      have ek := eff_k (κ := kd T k) (by omega) (by omega)
      exact bc (-1) (by unfold hBk; simp only [Bool.or_eq_true, Bool.and_eq_true, decide_eq_true_eq, beq_iff_eq]; omega) (by unfold hCk; simp only [Bool.or_eq_true, Bool.and_eq_true, decide_eq_true_eq, beq_iff_eq]; omega) (by rw [e]; exact ek.1) (by rw [e]; exact ek.2) (by omega) (by omega) (by rw [if_pos k7]; rfl)
    have lq8 : ∀ q, lq T c k = q → (if kd T k = 13 then (19, 0, tgN c (nm T k), nI k) else if kd T k = 14 then (20, 0, tgN c (nm T k), nI k) else if kd T k = 17 then (25, 0, av T k, nI k) else (26, 0, 0, nI k)) = q := fun q e => by
      unfold lq at e; rw [if_neg k0, if_neg (fun z => k1 z.1), if_neg k1, if_neg k2, if_neg k7] at e; exact e
    have lq9 := (lq8 _ rfl).symm
    by_cases k13 : kd T k = 13
    · rw [if_pos k13] at lq9
      exact oneB (-1) (by rw [k13]; rfl) (by rw [k13]; rfl) (by rw [lq9]; show eff 19 = -1; decide) (by rw [lq9]; show lef 19 = 0; decide) (by omega) (by omega) (by rw [if_neg (by omega)]; rfl)
    rw [if_neg k13] at lq9
    by_cases k14 : kd T k = 14
    · rw [if_pos k14] at lq9
      exact bc (-2) (by rw [k14]; rfl) (by rw [k14]; rfl) (by rw [lq9]; show eff 20 = -2; decide) (by rw [lq9]; show lef 20 = 0; decide) (by omega) (by omega) (by rw [if_neg (by omega)]; rfl)
    rw [if_neg k14] at lq9
    by_cases k17 : kd T k = 17
    · rw [if_pos k17] at lq9
      exact leaf 0 0 (by rw [k17]; rfl) (by rw [k17]; rfl) (by rw [lq9]; show eff 25 = 0; decide) (by rw [lq9]; show lef 25 = 0; decide) (by omega) (by omega) rfl (by rw [if_neg (by omega)])
    rw [if_neg k17] at lq9
    have k19 : kd T k = 19 := by omega
    exact oneB (-1) (by rw [k19]; rfl) (by rw [k19]; rfl) (by rw [lq9]; show eff 26 = -1; decide) (by rw [lq9]; show lef 26 = 0; decide) (by omega) (by omega) (by rw [if_neg (by omega)]; rfl)
end PN
