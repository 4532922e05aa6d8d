section PP
variable {σ τ : FS} {b N w cnt : Nat} {Φ : Int32 → FS → Prop} {Ψ : FS → Prop}
/-- a Table of the width w with cnt rows -/
def tb (b w cnt : Nat) (σ : FS) : Prop := σ.1 b 0 = nI w ∧ σ.1 b 2 = nI cnt
theorem nI_mul (a b : Nat) : nI a * nI b = nI (a * b) := (Int32.ofNat_mul a b).symm
theorem has_ok {r q : Nat} (hT : tb b w cnt σ) (h1 : r < cnt) (h2 : q < w) (hc : cnt < 2 ^ 31) (hw : w < 2 ^ 31) (h : Φ 1 σ) : wp_X7_has b N σ (nI r) (nI q) Φ := by
  unfold wp_X7_has
  rw [hT.1, hT.2]
  exact br_f (nI_pos (by omega)) (br_f (nI_ge h1 hc) (br_f (nI_pos (by omega)) (br_f (nI_ge h2 hw) h)))
theorem at_ok {r q : Nat} (hT : tb b w cnt σ) (h1 : r < cnt) (h2 : q < w) (hN : r * w + q < N) (hN1 : N < 2 ^ 31) (hc : cnt < 2 ^ 31) (hw : w < 2 ^ 31) (h : Φ (σ.1 (b + 1) (r * w + q)) σ) : wp_X7_at b N σ (nI r) (nI q) Φ := by
  unfold wp_X7_at
  refine has_ok hT h1 h2 hc hw (br_f (by decide) ?_)
  rw [hT.1, nI_mul, nI_add, q_I (by omega)]
  exact ⟨q_in hN hN1, h⟩
theorem tput_ok {r q : Nat} {v : Int32} (hT : tb b w cnt σ) (h1 : r < cnt) (h2 : q < w) (hN : r * w + q < N) (hN1 : N < 2 ^ 31) (hc : cnt < 2 ^ 31) (hw : w < 2 ^ 31) (h : Ψ (sF σ (b + 1) (r * w + q) v)) : wp_X7_put b N σ (nI r) (nI q) v Ψ := by
  unfold wp_X7_put
  refine has_ok hT h1 h2 hc hw (br_f (by decide) ?_)
  rw [hT.1, nI_mul, nI_add]
  refine ⟨q_in hN hN1, nm_e ?_⟩
  rw [q_A (by omega)]
  exact h
theorem cut_ok {k : Nat} (hT : tb b w cnt σ) (hk : k ≤ cnt) (hc : cnt < 2 ^ 31) (h : ∀ τ, Fr (fun a => a == b) σ τ → tb b w k τ → Ψ τ) : wp_X7_cut b N σ (nI k) Ψ := by
  unfold wp_X7_cut
  rw [hT.2]
  refine br_f (nI_pos (by omega)) ?_
  by_cases e : cnt ≤ k
  · have : k = cnt := by omega
    refine br_t (nI_le e (by omega)) (h σ Fr.rf ?_)
    rw [this]; exact hT
  · refine br_f (nI_ge (by omega) hc) (nm_e (h _ (Fr.rf.put (beq_self_eq_true b)) ⟨?_, q_s⟩))
    rw [q_o (by omega)]; exact hT.1
theorem add_ok (hT : tb b w cnt σ) (hN : (cnt + 1) * w ≤ N) (hN1 : N < 1999999) (hw : w ≤ N) (hc : cnt < 2 ^ 30)
    (h : ∀ τ, Fr (fun a => a == b || a == b + 1) σ τ → tb b w (cnt + 1) τ → (∀ i, i < cnt * w → τ.1 (b + 1) i = σ.1 (b + 1) i) → (∀ i, cnt * w ≤ i → i < cnt * w + w → τ.1 (b + 1) i = 0) → Φ (nI cnt) τ) : wp_X7_add b N σ Φ := by
  have hs : (cnt + 1) * w = cnt * w + w := Nat.succ_mul cnt w
  unfold wp_X7_add
  refine nm_e ?_
  rw [hT.1, hT.2, nI_1, nI_mul, hs]
  rw [hs] at hN
  refine br_t (nI_le hN (by omega)) (br_t (nI_le hN (by omega)) (nm_e ?_))
  rw [nI_sub (by omega), Nat.add_sub_cancel]
  have fT : ∀ a, a = b ∨ a = b + 1 → (a == b || a == b + 1) = true := fun a p => by rcases p with p | p <;> rw [p] <;> simp
  have key : ∀ d i f τ, i + d = cnt * w + w → cnt * w ≤ i → d < f → (Fr (fun a => a == b || a == b + 1) σ τ ∧ tb b w cnt τ ∧ (∀ j, j < cnt * w → τ.1 (b + 1) j = σ.1 (b + 1) j) ∧ (∀ j, cnt * w ≤ j → j < i → τ.1 (b + 1) j = 0)) →
      wp_X7_add_67 b N (nI (cnt * w + w)) Φ (fun (σ4 : FS) (_ : Int32) => ∀ σ6 : FS, σ6 = sF σ4 b 2 ((σ4.1 b 2) + 1) → Φ ((σ6.1 b 2) - 1) σ6) f τ (nI i) := by
    intro d
    induction d with
    | zero =>
      intro i f τ h1 h0 h2 ⟨hF, hT', q1, q2⟩
      cases f with
      | zero => omega
      | succ f =>
        unfold wp_X7_add_67
        refine br_t (nI_le (by omega) (by omega)) (nm_e ?_)
        rw [q_s, hT'.2, nI_1, nI_pred]
        refine h _ (hF.put (fT _ (Or.inl rfl))) ⟨?_, q_s⟩ (fun j hj => ?_) (fun j j1 j2 => ?_)
        · rw [q_o (by omega)]; exact hT'.1
        · rw [q_n (by omega)]; exact q1 j hj
        · rw [q_n (by omega)]; exact q2 j j1 (by omega)
    | succ d ih =>
      intro i f τ h1 h0 h2 ⟨hF, hT', q1, q2⟩
      cases f with
      | zero => omega
      | succ f =>
        unfold wp_X7_add_67
        refine br_f (nI_ge (by omega) (by omega)) ⟨q_in (by omega) (by omega), nm_e ?_⟩
        rw [q_A (by omega), nI_1]
        refine ih (i + 1) f _ (by omega) (by omega) (by omega) ⟨hF.put (fT _ (Or.inr rfl)), ⟨?_, ?_⟩, fun j hj => ?_, fun j j1 j2 => ?_⟩
        · rw [q_n (by omega)]; exact hT'.1
        · rw [q_n (by omega)]; exact hT'.2
        · rw [q_o (by omega)]; exact q1 j hj
        · by_cases e : j = i
          · rw [e, q_s]
          · rw [q_o e]; exact q2 j j1 (by omega)
  exact key w (cnt * w) FUEL σ (by omega) (Nat.le_refl _) (FUEL_le (by omega)) ⟨Fr.rf, hT, fun _ _ => rfl, fun j j1 j2 => by omega⟩
theorem tb_fr {S : Nat → Bool} (h : tb b w cnt σ) (hF : Fr S σ τ) (hs : S b = false) : tb b w cnt τ := by unfold tb; rw [hF.1 b hs]; exact h
theorem f2 {a b c : Nat} (h1 : a ≠ b) (h2 : a ≠ c) : (a == b || a == c) = false := by rw [beq_false_of_ne h1, beq_false_of_ne h2]; rfl
/-- the operands: numbers -/
def Q2 (oc : Nat) (ops : Nat → Int32) (σ : FS) : Prop := tb 68 2 oc σ ∧ oc ≤ 64 ∧ ∀ i, i < oc → σ.1 69 (2 * i) = ops i ∧ σ.1 69 (2 * i + 1) = 0
def fu {α : Type} (f : Nat → α) (i : Nat) (v : α) : Nat → α := fun j => if j = i then v else f j
theorem fu_s {α : Type} {f : Nat → α} {i : Nat} {v : α} : fu f i v i = v := if_pos rfl
theorem fu_o {α : Type} {f : Nat → α} {i j : Nat} {v : α} (h : j ≠ i) : fu f i v j = f j := if_neg h
def S68 (a : Nat) : Bool := a == 68 || a == 69
theorem Q2_fr {S : Nat → Bool} {oc : Nat} {ops : Nat → Int32} (h : Q2 oc ops σ) (hF : Fr S σ τ) (h1 : S 68 = false) (h2 : S 69 = false) : Q2 oc ops τ := by
  obtain ⟨a, b, c⟩ := h
  exact ⟨tb_fr a hF h1, b, fun i hi => by rw [hF.1 69 h2]; exact c i hi⟩
theorem push_ok {oc : Nat} {ops : Nat → Int32} {v : Int32} (h : Q2 oc ops σ) (ho : oc ≤ 63) (hk : ∀ τ, Fr S68 σ τ → Q2 (oc + 1) (fu ops oc v) τ → Ψ τ) : wp_X3_push σ v 0 Ψ := by
  obtain ⟨hT, hc, hi⟩ := h
  unfold wp_X3_push
  refine add_ok (N := 128) hT (by omega) (by omega) (by omega) (by omega) (fun τ F1 T1 e1 e2 => ?_)
  have i0' : (0 : Int32) = nI 0 := i0
  have T2 : ∀ x v, tb 68 2 (oc + 1) (sF τ 69 x v) := fun x v => ⟨by rw [q_n (by omega)]; exact T1.1, by rw [q_n (by omega)]; exact T1.2⟩
  have p1 : wp_X7_put 68 128 τ (nI oc) (nI 0) v (fun (σ3 : FS) => wp_X7_put 68 128 σ3 (nI oc) (nI 1) 0 (fun (σ4 : FS) => Ψ σ4)) := by
    refine tput_ok T1 (by omega) (by omega) (by omega) (by omega) (by omega) (by omega) (tput_ok (T2 _ _) (by omega) (by omega) (by omega) (by omega) (by omega) (by omega) ?_)
    refine hk _ ((F1.put rfl).put rfl) ⟨⟨?_, ?_⟩, by omega, fun i hi' => ?_⟩
    · rw [q_n (by omega), q_n (by omega)]; exact T1.1
    · rw [q_n (by omega), q_n (by omega)]; exact T1.2
    · show (sF (sF τ 69 (oc * 2 + 0) v) 69 (oc * 2 + 1) 0).1 69 (2 * i) = _ ∧ (sF (sF τ 69 (oc * 2 + 0) v) 69 (oc * 2 + 1) 0).1 69 (2 * i + 1) = 0
      by_cases e : i = oc
      · rw [e, fu_s, q_o (by omega), show 2 * oc = oc * 2 + 0 by omega, q_s]
        refine ⟨rfl, ?_⟩
        rw [show oc * 2 + 0 + 1 = oc * 2 + 1 by omega, q_s]
      · rw [fu_o e, q_o (by omega), q_o (by omega), q_o (by omega), q_o (by omega)]
        rw [show τ.1 69 (2 * i) = σ.1 69 (2 * i) from e1 _ (by omega), show τ.1 69 (2 * i + 1) = σ.1 69 (2 * i + 1) from e1 _ (by omega)]
        exact hi i (by omega)
  exact p1
theorem pop_ok {oc : Nat} {ops : Nat → Int32} (h : Q2 (oc + 1) ops σ) (hk : ∀ τ, Fr (fun a => a == 68) σ τ → Q2 oc ops τ → Φ (ops oc) τ) : wp_X3_pop σ Φ := by
  obtain ⟨hT, hc, hi⟩ := h
  unfold wp_X3_pop
  rw [hT.2, nI_pred]
  have p1 : wp_X7_at 68 128 σ (nI oc) (nI 0) (fun (x2 : Int32) (σ1 : FS) => wp_X7_cut 68 128 σ1 ((σ1.1 68 2) - 1) (fun (σ3 : FS) => Φ x2 σ3)) := by
    refine at_ok hT (by omega) (by omega) (by omega) (by omega) (by omega) (by omega) ?_
    rw [hT.2, nI_pred]
    refine cut_ok hT (by omega) (by omega) (fun τ F1 T1 => ?_)
    rw [show σ.1 (68 + 1) (oc * 2 + 0) = ops oc by rw [show oc * 2 + 0 = 2 * oc by omega]; exact (hi oc (by omega)).1]
    refine hk τ F1 ⟨T1, by omega, fun i hi' => ?_⟩
    rw [F1.1 69 rfl]; exact hi i (by omega)
  exact p1
/-- the memory: eight cells -/
def wd (i : Nat) : Int32 := if i = 2 then 4 else 0
def Q3 (mem : Nat → Int32) (σ : FS) : Prop := tb 66 2 8 σ ∧ ∀ i, i < 8 → σ.1 67 (2 * i) = mem i ∧ σ.1 67 (2 * i + 1) = wd i
theorem Q3_fr {S : Nat → Bool} {mem : Nat → Int32} (h : Q3 mem σ) (hF : Fr S σ τ) (h1 : S 66 = false) (h2 : S 67 = false) : Q3 mem τ := by
  obtain ⟨a, c⟩ := h
  exact ⟨tb_fr a hF h1, fun i hi => by rw [hF.1 67 h2]; exact c i hi⟩
theorem mat0 {mem : Nat → Int32} {i : Nat} (h : Q3 mem σ) (hi : i < 8) (hk : Φ (mem i) σ) : wp_X7_at 66 128 σ (nI i) 0 Φ := by
  have p1 : wp_X7_at 66 128 σ (nI i) (nI 0) Φ := by
    refine at_ok h.1 hi (by omega) (by omega) (by omega) (by omega) (by omega) ?_
    rw [show σ.1 (66 + 1) (i * 2 + 0) = mem i by rw [show i * 2 + 0 = 2 * i by omega]; exact (h.2 i hi).1]
    exact hk
  exact p1
theorem mat1 {mem : Nat → Int32} {i : Nat} (h : Q3 mem σ) (hi : i < 8) (hk : Φ (wd i) σ) : wp_X7_at 66 128 σ (nI i) 1 Φ := by
  have p1 : wp_X7_at 66 128 σ (nI i) (nI 1) Φ := by
    refine at_ok h.1 hi (by omega) (by omega) (by omega) (by omega) (by omega) ?_
    rw [show σ.1 (66 + 1) (i * 2 + 1) = wd i by rw [show i * 2 + 1 = 2 * i + 1 by omega]; exact (h.2 i hi).2]
    exact hk
  exact p1
theorem mput0 {mem : Nat → Int32} {i : Nat} {v : Int32} (h : Q3 mem σ) (hi : i < 8) (hk : ∀ τ, Fr (fun a => a == 67) σ τ → Q3 (fu mem i v) τ → Ψ τ) : wp_X7_put 66 128 σ (nI i) 0 v Ψ := by
  have p1 : wp_X7_put 66 128 σ (nI i) (nI 0) v Ψ := by
    refine tput_ok h.1 hi (by omega) (by omega) (by omega) (by omega) (by omega) (hk _ (Fr.rf.put rfl) ⟨⟨?_, ?_⟩, fun j hj => ?_⟩)
    · rw [q_n (by omega)]; exact h.1.1
    · rw [q_n (by omega)]; exact h.1.2
    · show (sF σ 67 (i * 2 + 0) v).1 67 (2 * j) = _ ∧ (sF σ 67 (i * 2 + 0) v).1 67 (2 * j + 1) = _
      rw [q_o (j := 2 * j + 1) (by omega)]
      by_cases e : j = i
      · rw [e, fu_s, show 2 * i = i * 2 + 0 by omega, q_s]
        exact ⟨rfl, by rw [show i * 2 + 0 + 1 = 2 * i + 1 by omega]; exact (h.2 i hi).2⟩
      · rw [fu_o e, q_o (by omega)]; exact h.2 j hj
  exact p1
theorem mput1 {mem : Nat → Int32} {i : Nat} (h : Q3 mem σ) (hi : i < 8) (h2 : i ≠ 2) (hk : ∀ τ, Fr (fun a => a == 67) σ τ → Q3 mem τ → Ψ τ) : wp_X7_put 66 128 σ (nI i) 1 0 Ψ := by
  have p1 : wp_X7_put 66 128 σ (nI i) (nI 1) 0 Ψ := by
    refine tput_ok h.1 hi (by omega) (by omega) (by omega) (by omega) (by omega) (hk _ (Fr.rf.put rfl) ⟨⟨?_, ?_⟩, fun j hj => ?_⟩)
    · rw [q_n (by omega)]; exact h.1.1
    · rw [q_n (by omega)]; exact h.1.2
    · show (sF σ 67 (i * 2 + 1) 0).1 67 (2 * j) = _ ∧ (sF σ 67 (i * 2 + 1) 0).1 67 (2 * j + 1) = _
      rw [q_o (j := 2 * j) (by omega)]
      refine ⟨(h.2 j hj).1, ?_⟩
      by_cases e : j = i
      · rw [e, show 2 * i + 1 = i * 2 + 1 by omega, q_s]; unfold wd; rw [if_neg h2]
      · rw [q_o (by omega)]; exact (h.2 j hj).2
  exact p1
/-- the loops that are going on: label, and where they are shut -/
def Q4 (lc : Nat) (lab : Nat → Int32) (sh : Nat → Nat) (σ : FS) : Prop := tb 74 5 lc σ ∧ lc ≤ 64 ∧ ∀ r, r < lc → σ.1 75 (5 * r) = 0 ∧ σ.1 75 (5 * r + 1) = lab r ∧ σ.1 75 (5 * r + 2) = 1 ∧ σ.1 75 (5 * r + 3) = 0 ∧ σ.1 75 (5 * r + 4) = nI (sh r)
theorem Q4_fr {S : Nat → Bool} {lc : Nat} {lab : Nat → Int32} {sh : Nat → Nat} (h : Q4 lc lab sh σ) (hF : Fr S σ τ) (h1 : S 74 = false) (h2 : S 75 = false) : Q4 lc lab sh τ := by
  obtain ⟨a, b, c⟩ := h
  exact ⟨tb_fr a hF h1, b, fun i hi => by rw [hF.1 75 h2]; exact c i hi⟩
theorem lat {lc : Nat} {lab : Nat → Int32} {sh : Nat → Nat} {r q : Nat} (h : Q4 lc lab sh σ) (hr : r < lc) (hq : q < 5) (hk : Φ (σ.1 75 (5 * r + q)) σ) : wp_X7_at 74 320 σ (nI r) (nI q) Φ := by
  have := h.2.1
  refine at_ok h.1 hr hq (by omega) (by omega) (by omega) (by omega) ?_
  rw [show r * 5 + q = 5 * r + q by omega]
  exact hk
theorem lcut {lc k : Nat} {lab : Nat → Int32} {sh : Nat → Nat} (h : Q4 lc lab sh σ) (hk : k ≤ lc) (hh : ∀ τ, Fr (fun a => a == 74) σ τ → Q4 k lab sh τ → Ψ τ) : wp_X7_cut 74 320 σ (nI k) Ψ := by
  have := h.2.1
  exact cut_ok h.1 hk (by omega) (fun τ F1 T1 => hh τ F1 ⟨T1, by omega, fun i hi => by rw [F1.1 75 rfl]; exact h.2.2 i (by omega)⟩)
end PP
