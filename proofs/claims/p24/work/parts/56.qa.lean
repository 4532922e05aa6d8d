section QA1
theorem and_pos (x : Int32) : ¬ x &&& 2147483647 < 0 := by
  intro h
  have h1 : (x &&& 2147483647).toInt < 0 := Int32.lt_iff_toInt_lt.mp h
  have h2 : (x &&& 2147483647).toBitVec.msb = true := by
    rw [BitVec.msb_eq_toInt]
    exact decide_eq_true h1
  rw [Int32.toBitVec_and, BitVec.msb_and] at h2
  rw [show ((2147483647 : Int32).toBitVec).msb = false by decide, Bool.and_false] at h2
  cases h2
end QA1
section QA2
variable {T : TT} {n d : Nat} {σ τ : FS} {k : Nat} {Φ : Int32 → FS → Prop} {Ψ : FS → Prop} {c : Int32} {ga : SG}
theorem below_ok {x : Int32} {m : Nat} (h0 : 0 < m) (hm : m < 2 ^ 31) (h : ∀ v, v < m → Φ (nI v) σ) : wp_L_below ga σ x (nI m) Φ := by
  unfold wp_L_below
  refine ⟨nI_ne0 h0 hm, nm_e ?_⟩
  obtain ⟨j, hj, e⟩ := nI_of (and_pos x)
  rw [e, nI_mod hj hm]
  exact h _ (Nat.mod_lt _ h0)
theorem cell_ok (hga : ga.2.1 < 2 ^ 31) {i : Nat} (hi : i < 2 ^ 31) (h : ∀ v, Φ v σ) : wp_L_cell ga σ (nI i) Φ := by
  unfold wp_L_cell
  by_cases e : ga.2.1 ≤ i
  · exact br_t (nI_le e hi) (h _)
  · exact br_f (nI_ge (by omega) hga) ⟨q_in (by omega) hga, h _⟩
theorem draw_ok {m : Nat} (hga : ga.2.1 < 2 ^ 31) (h0 : 0 < m) (hm : m < 2 ^ 31) (hd : σ.1 88 2 = nI d) (hd1 : d < 2 ^ 30) (h : ∀ v, v < m → Φ (nI v) (sF σ 88 2 (nI (d + 1)))) : wp_X9_draw ga σ (nI m) Φ := by
  unfold wp_X9_draw
  rw [hd, show (24 : Int32) = nI 24 by decide, nI_mod (by omega) (by omega)]
  refine cell_ok hga (by have := Nat.mod_lt d (show 0 < 24 by omega); omega) (fun v => nm_e (nm_e (below_ok h0 hm (fun w hw => nm_e ?_))))
  rw [hd, nI_1]
  exact h w hw
/-- facts of the law's own object, beside its nodes -/
def B0 (c : Int32) (σ : FS) : Prop := Dcl c σ ∧ σ.1 7 0 = -1 ∧ (σ.1 0 9 = 1 ∧ σ.1 0 10 = 7 ∧ σ.1 0 11 = nI 1000 ∧ σ.1 0 12 = 20 ∧ σ.1 0 13 = 0) ∧ WT σ ∧ σ.1 88 7 = c
/-- n nodes are there, d numbers are drawn -/
def Gn (T : TT) (n d : Nat) (c : Int32) (σ : FS) : Prop := B0 c σ ∧ σ.1 13 0 = nI n ∧ σ.1 88 3 = nI n ∧ n ≤ 110 ∧ σ.1 88 2 = nI d ∧ d < 2 ^ 20 ∧ PL T ∧ (∀ k, k < n → mt T σ k ∧ WF T k) ∧
  (∀ k p, k < n → part T k p → σ.1 18 p = nI k) ∧ (∀ k, k < n → σ.1 19 k = -1) ∧ (∀ k, n ≤ k → ∀ p, ¬ part T k p)
/-- the same cells, but for those of S -/
def Sm (S : Nat → Bool) (σ τ : FS) : Prop := ∀ a, S a = false → τ.1 a = σ.1 a
theorem Dcl.sm {S : Nat → Bool} (h : Dcl c σ) (hF : Sm S σ τ) (hs : ∀ k, k < 13 → k ≠ 7 → S k = false) : Dcl c τ := by
  have e : ∀ k, k < 13 → k ≠ 7 → τ.1 k = σ.1 k := fun k hk h7 => hF k (hs k hk h7)
  unfold Dcl
  rw [e 1 (by omega) (by omega), e 2 (by omega) (by omega), e 3 (by omega) (by omega), e 4 (by omega) (by omega), e 5 (by omega) (by omega), e 6 (by omega) (by omega), e 8 (by omega) (by omega), e 9 (by omega) (by omega), e 10 (by omega) (by omega), e 11 (by omega) (by omega), e 12 (by omega) (by omega)]
  exact h
theorem WT.sm {S : Nat → Bool} (h : WT σ) (hF : Sm S σ τ) (h1 : S 66 = false) (h2 : S 68 = false) (h3 : S 70 = false) (h4 : S 72 = false) (h5 : S 74 = false) : WT τ := by
  unfold WT tb at h ⊢
  rw [hF 66 h1, hF 68 h2, hF 70 h3, hF 72 h4, hF 74 h5]; exact h
theorem Gn.draw (h : Gn T n d c σ) (hd : d + 1 < 2 ^ 20) : Gn T n (d + 1) c (sF σ 88 2 (nI (d + 1))) := by
  obtain ⟨⟨b1, b2, b3, b4, b5⟩, g1, g2, g3, g4, g5, g6, g7, g8, g9, g10⟩ := h
  have e : ∀ a, a ≠ 88 → (sF σ 88 2 (nI (d + 1))).1 a = σ.1 a := fun a ha => q_n ha
  have sm : Sm (fun a => a == 88) σ (sF σ 88 2 (nI (d + 1))) := fun a ha => e a (fun q => by rw [q] at ha; cases ha)
  refine ⟨⟨b1.sm sm (fun k hk _ => beq_false_of_ne (by omega)), by rw [e 7 (by omega)]; exact b2, by rw [e 0 (by omega)]; exact b3, b4.sm sm rfl rfl rfl rfl rfl, by rw [q_o (by omega)]; exact b5⟩, by rw [e 13 (by omega)]; exact g1, by rw [q_o (by omega)]; exact g2, g3, q_s, hd, g6, fun k hk => ?_, fun k p hk hp => by rw [e 18 (by omega)]; exact g8 k p hk hp, fun k hk => by rw [e 19 (by omega)]; exact g9 k hk, g10⟩
  unfold mt
  rw [e 14 (by omega), e 15 (by omega), e 16 (by omega), e 17 (by omega)]
  exact g7 k hk
/-- a root: part of nothing yet -/
def Fe (n : Nat) (σ : FS) (p : Nat) : Prop := p < n ∧ σ.1 18 p = -1
theorem isPartFor_ok {ρ : Int32} {p : Nat} (hG : Gn T n d c σ) (hF : Fe n σ p) (hρ : (ρ = 4 ∧ kd T p < 8) ∨ (ρ = 5 ∧ 12 ≤ kd T p) ∨ (ρ = 6 ∧ 12 ≤ kd T p)) (h : Φ 1 σ) : wp_X5_isPartFor σ ρ (nI p) Φ := by
  obtain ⟨-, g1, -, g3, -, -, -, g7, -, g9, -⟩ := hG
  obtain ⟨hp, h18⟩ := hF
  have hin := q_in (show p < 110 by omega) (show 110 < 2 ^ 31 by omega)
  have hm := (g7 p hp).1
  have hlt := (g7 p hp).2.lt
  unfold wp_X5_isPartFor wp_X5_has
  rw [g1]
  refine br_f (nI_pos (by omega)) (br_f (nI_ge hp (by omega)) (br_f (by decide) ?_))
  unfold wp_X5_isFree
  refine ⟨hin, ?_⟩
  rw [q_I (by omega), q_I (by omega), h18, g9 p hp]
  refine br_t rfl ⟨hin, br_t rfl (br_f (by decide) ?_)⟩
  have st : 12 ≤ kd T p → ∀ Φ : Int32 → FS → Prop, Φ 1 σ → wp_X5_isStatement σ (nI p) Φ := fun h12 Φ hh => by
    unfold wp_X5_isStatement
    refine ⟨hin, ?_⟩
    rw [q_I (by omega), hm.1]
    exact br_f (nI_nlt (a := kd T p) (b := 12) h12 (by omega)) hh
  rcases hρ with ⟨e, hk⟩ | ⟨e, hk⟩ | ⟨e, hk⟩
  · rw [e]
    refine br_t rfl ?_
    unfold wp_X5_isExpression
    refine ⟨hin, ?_⟩
    rw [q_I (by omega), hm.1]
    exact br_f (nI_nlt (a := 8) (b := kd T p) (by omega) (by omega)) ⟨Or.inr rfl, h⟩
  · rw [e]; exact br_f (by decide) (br_t rfl (st hk _ ⟨Or.inr rfl, h⟩))
  · rw [e]; exact br_f (by decide) (br_f (by decide) (br_t rfl (st hk _ ⟨Or.inr rfl, h⟩)))
theorem fill0 (h : Φ 1 σ) : wp_X5_fills σ 0 0 Φ := by unfold wp_X5_fills; exact br_t rfl (br_t rfl h)
theorem fill4 {p : Nat} (hG : Gn T n d c σ) (hF : Fe n σ p) (hk : kd T p < 8) (h : Φ 1 σ) : wp_X5_fills σ 4 (nI p) Φ := by
  unfold wp_X5_fills
  exact br_f (by decide) (br_f (by decide) (br_f (by decide) (br_f (by decide) (br_t rfl (isPartFor_ok hG hF (Or.inl ⟨rfl, hk⟩) ⟨Or.inr rfl, h⟩)))))
theorem fill5 {p : Nat} (hG : Gn T n d c σ) (hF : Fe n σ p) (hk : 12 ≤ kd T p) (h : Φ 1 σ) : wp_X5_fills σ 5 (nI p) Φ := by
  unfold wp_X5_fills
  exact br_f (by decide) (br_f (by decide) (br_f (by decide) (br_f (by decide) (br_f (by decide) (br_t rfl (isPartFor_ok hG hF (Or.inr (Or.inl ⟨rfl, hk⟩)) ⟨Or.inr rfl, h⟩))))))
theorem fill6 {o : Option Nat} (hG : Gn T n d c σ) (ho : ∀ p, o = some p → Fe n σ p ∧ 12 ≤ kd T p) (h : Φ 1 σ) : wp_X5_fills σ 6 (oI o) Φ := by
  unfold wp_X5_fills
  refine br_f (by decide) (br_f (by decide) (br_f (by decide) (br_f (by decide) (br_f (by decide) (br_f (by decide) (br_t rfl ?_))))))
  cases o with
  | none => exact br_t rfl h
  | some p =>
    obtain ⟨hF, hk⟩ := ho p rfl
    have := hG.2.2.2.1
    exact br_f (q_m1 (by have := hF.1; omega)) (isPartFor_ok hG hF (Or.inr (Or.inr ⟨rfl, hk⟩)) (br_f (by decide) h))
theorem fill1 {a : Int32} (ha : ¬ a < -999 ∧ ¬ 999 < a) (h : Φ 1 σ) : wp_X5_fills σ 1 a Φ := by
  unfold wp_X5_fills
  exact br_f (by decide) (br_t rfl (br_f ha.1 (br_f ha.2 h)))
theorem fill2 {a : Nat} (ha : a < 5) (h : Φ 1 σ) : wp_X5_fills σ 2 (nI a) Φ := by
  unfold wp_X5_fills wp_X8_isName
  exact br_f (by decide) (br_f (by decide) (br_t rfl (br_f (nI_pos (by omega)) (br_f (nI_ge (b := 16) (by omega) (by omega)) ⟨Or.inr rfl, h⟩))))
theorem fill3 {a : Nat} (ha : a < 10) (h : Φ 1 σ) : wp_X5_fills σ 3 (nI a) Φ := by
  unfold wp_X5_fills
  exact br_f (by decide) (br_f (by decide) (br_f (by decide) (br_t rfl (br_f (nI_pos (by omega)) (br_f (nI_ge (b := 10) ha (by omega)) h)))))
theorem same0 {a b x y : Int32} (h1 : a < 4) (h : Φ 0 σ) : wp_X5_isSamePart σ a x b y Φ := by unfold wp_X5_isSamePart; exact br_t h1 h
theorem same0' {a b x y : Int32} (h1 : b < 4) (h : Φ 0 σ) : wp_X5_isSamePart σ a x b y Φ := by
  unfold wp_X5_isSamePart
  exact ⟨fun _ => h, fun _ => br_t h1 h⟩
theorem same1 {a b x y : Int32} (hne : ¬ x = y) (h : Φ 0 σ) : wp_X5_isSamePart σ a x b y Φ := by
  unfold wp_X5_isSamePart
  exact ⟨fun _ => h, fun _ => ⟨fun _ => h, fun _ => br_f hne h⟩⟩
/-- a record for a node -/
abbrev rcd (κ : Nat) (a : Int32) (pb pc pa : Option Nat) (l : Nat) : (Nat × Int32) × (Option Nat × Option Nat × Option Nat) × Nat := ((κ, a), (pb, pc, pa), l)
/-- what a, b, c of a node may be -/
def arg1 (T : TT) (n : Nat) (σ : FS) (κ : Nat) (a : Int32) (pa : Option Nat) : Prop :=
  (κ = 0 → ¬ a < -999 ∧ ¬ 999 < a) ∧ (nmK κ = true → ∃ j, j < 5 ∧ a = nI j) ∧ (κ = 16 ∨ κ = 17 → ∃ j, j < 10 ∧ a = nI j) ∧ (κ = 15 → a = oI pa) ∧ (κ ≠ 0 ∧ nmK κ = false ∧ κ ≠ 15 ∧ κ ≠ 16 ∧ κ ≠ 17 → a = 0)
def partsOk (T : TT) (n : Nat) (σ : FS) (κ : Nat) (pb pc pa : Option Nat) : Prop :=
  (∀ p, pb = some p → Fe n σ p ∧ (if κ = 12 then 12 ≤ kd T p else kd T p < 8)) ∧ (∀ p, pc = some p → Fe n σ p ∧ (if κ = 12 ∨ κ = 15 ∨ κ = 16 then 12 ≤ kd T p else kd T p < 8)) ∧ (∀ p, pa = some p → Fe n σ p ∧ 12 ≤ kd T p) ∧
  pb.isSome = hBk κ ∧ pc.isSome = hCk κ ∧ (pa.isSome = true → κ = 15) ∧ (∀ p, pb = some p → pc ≠ some p ∧ pa ≠ some p) ∧ (∀ p, pc = some p → pa ≠ some p)
theorem roles (κ : Nat) : κ < 22 → okK κ = true → (tROLE_B κ = if hBk κ then (if κ = 12 then 5 else 4) else 0) ∧ (tROLE_C κ = if hCk κ then (if κ = 12 ∨ κ = 15 ∨ κ = 16 then 5 else 4) else 0) ∧ (tROLE_A κ = if κ = 0 then 1 else if nmK κ then 2 else if κ = 15 then 6 else if κ = 16 ∨ κ = 17 then 3 else 0) := by
  revert κ
  decide
theorem suits_ok {κ : Nat} {a : Int32} {pb pc pa : Option Nat} (hG : Gn T n d c σ) (hκ : okK κ = true) (hA : arg1 T n σ κ a pa) (hP : partsOk T n σ κ pb pc pa) (h : Φ 1 σ) : wp_X5_suits σ (nI κ) a (oF pb 0 nI) (oF pc 0 nI) Φ := by
  have hlt := okK_lt hκ
  have hin := q_in hlt (show 22 < 2 ^ 31 by omega)
  obtain ⟨a0, a1, a2, a3, a4⟩ := hA
  obtain ⟨p1, p2, p3, p4, p5, p6, p7, p8⟩ := hP
  obtain ⟨rB, rC, rA⟩ := roles κ hlt hκ
  have n110 := hG.2.2.2.1
  unfold wp_X5_suits
  rw [nI_clamp (by omega), rA, rB, rC]
  refine br_f (nI_pos (by omega)) (br_t (nI_le (b := 21) (by omega) (by omega)) ⟨hin, ?_⟩)
  have fa : ∀ Φ : Int32 → FS → Prop, Φ 1 σ → wp_X5_fills σ (if κ = 0 then 1 else if nmK κ then 2 else if κ = 15 then 6 else if κ = 16 ∨ κ = 17 then 3 else 0) a Φ := fun Φ hh => by
    by_cases k0 : κ = 0
    · rw [if_pos k0]; exact fill1 (a0 k0) hh
    rw [if_neg k0]
    cases kn : nmK κ with
    | true =>
      obtain ⟨j, hj, e⟩ := a1 kn
      rw [if_pos rfl, e]; exact fill2 hj hh
    | false =>
      rw [if_neg Bool.false_ne_true]
      by_cases k15 : κ = 15
      · rw [if_pos k15, a3 k15]; exact fill6 hG p3 hh
      rw [if_neg k15]
      by_cases k16 : κ = 16 ∨ κ = 17
      · obtain ⟨j, hj, e⟩ := a2 k16
        rw [if_pos k16, e]; exact fill3 hj hh
      · rw [if_neg k16, a4 ⟨k0, kn, k15, fun q => k16 (Or.inl q), fun q => k16 (Or.inr q)⟩]; exact fill0 hh
  have fb : ∀ Φ : Int32 → FS → Prop, Φ 1 σ → wp_X5_fills σ (if hBk κ then (if κ = 12 then 5 else 4) else 0) (oF pb 0 nI) Φ := fun Φ hh => by
    cases e : pb with
    | none =>
      rw [e] at p4
      rw [← p4]; exact fill0 hh
    | some p =>
      obtain ⟨f, hk⟩ := p1 p e
      rw [e] at p4
      rw [← p4]
      show wp_X5_fills σ (if κ = 12 then 5 else 4) (nI p) Φ
      by_cases k12 : κ = 12
      · rw [if_pos k12] at hk ⊢; exact fill5 hG f hk hh
      · rw [if_neg k12] at hk ⊢; exact fill4 hG f hk hh
  have fc : ∀ Φ : Int32 → FS → Prop, Φ 1 σ → wp_X5_fills σ (if hCk κ then (if κ = 12 ∨ κ = 15 ∨ κ = 16 then 5 else 4) else 0) (oF pc 0 nI) Φ := fun Φ hh => by
    cases e : pc with
    | none =>
      rw [e] at p5
      rw [← p5]; exact fill0 hh
    | some p =>
      obtain ⟨f, hk⟩ := p2 p e
      rw [e] at p5
      rw [← p5]
      show wp_X5_fills σ (if κ = 12 ∨ κ = 15 ∨ κ = 16 then 5 else 4) (nI p) Φ
      by_cases k12 : κ = 12 ∨ κ = 15 ∨ κ = 16
      · rw [if_pos k12] at hk ⊢; exact fill5 hG f hk hh
      · rw [if_neg k12] at hk ⊢; exact fill4 hG f hk hh
  refine fa _ (br_f (by decide) ⟨hin, fb _ (br_f (by decide) ⟨hin, fc _ (br_f (by decide) ⟨hin, hin, ?_⟩)⟩)⟩)
  -- no two parts are the same
  have ne15 : ∀ o, (∀ p, o = some p → p < 110 ∧ pa ≠ some p) → o.isSome = true → κ = 15 → ¬ a = oF o 0 nI := fun o ho hs k15 e => by
    obtain ⟨p, ep⟩ := Option.isSome_iff_exists.mp hs
    obtain ⟨h1, h2⟩ := ho p ep
    rw [a3 k15, ep] at e
    have e : oI pa = nI p := e
    cases eA : pa with
    | none => rw [eA] at e; exact q_m1 (by omega) e.symm
    | some q =>
      rw [eA] at e
      have hq := (p3 q eA).1.1
      have : q = p := (nI_eq (by omega) (by omega)).mp e
      rw [this] at eA; exact h2 eA
  have sA : ∀ (o : Option Nat) (b : Int32), (∀ p, o = some p → p < 110 ∧ pa ≠ some p) → (κ = 15 → o.isSome = true) → ∀ Φ : Int32 → FS → Prop, Φ 0 σ → wp_X5_isSamePart σ (if κ = 0 then 1 else if nmK κ then 2 else if κ = 15 then 6 else if κ = 16 ∨ κ = 17 then 3 else 0) a b (oF o 0 nI) Φ := fun o b ho h15 Φ hh => by
    by_cases k15 : κ = 15
    · exact same1 (ne15 o ho (h15 k15) k15) hh
    · refine same0 ?_ hh
      by_cases k0 : κ = 0
      · rw [if_pos k0]; decide
      rw [if_neg k0]
      cases nmK κ with
      | true => rw [if_pos rfl]; decide
      | false =>
        rw [if_neg Bool.false_ne_true, if_neg k15]
        by_cases k16 : κ = 16 ∨ κ = 17
        · rw [if_pos k16]; decide
        · rw [if_neg k16]; decide
  refine sA pb _ (fun p e => ⟨by have := (p1 p e).1.1; omega, (p7 p e).2⟩) (fun k15 => by rw [p4, k15]; rfl) _ (br_t rfl ⟨hin, hin, ?_⟩)
  refine sA pc _ (fun p e => ⟨by have := (p2 p e).1.1; omega, p8 p e⟩) (fun k15 => by rw [p5, k15]; rfl) _ (br_t rfl ⟨hin, hin, ?_⟩)
  cases eb : pb with
  | none =>
    rw [eb] at p4
    rw [← p4]
    exact same0 (show (0 : Int32) < 4 by decide) (br_t rfl h)
  | some p =>
    cases ec : pc with
    | none =>
      rw [ec] at p5
      rw [← p5]
      exact same0' (show (0 : Int32) < 4 by decide) (br_t rfl h)
    | some q =>
      have hp := (p1 p eb).1.1
      have hq := (p2 q ec).1.1
      have : p ≠ q := fun e => (p7 p eb).1 (by rw [e]; exact ec)
      exact same1 (nI_ne this (by omega) (by omega)) (br_t rfl h)
end QA2
