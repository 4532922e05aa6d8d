section PA
/-- the cells named by S alone may have changed -/
def Fr (S : Nat → Bool) (σ τ : FS) : Prop := (∀ k, S k = false → τ.1 k = σ.1 k) ∧ τ.2.2 = σ.2.2
theorem Fr.rf {S : Nat → Bool} {σ : FS} : Fr S σ σ := ⟨fun _ _ => rfl, rfl⟩
theorem Fr.tr {S : Nat → Bool} {σ τ ρ : FS} (h : Fr S σ τ) (h2 : Fr S τ ρ) : Fr S σ ρ := ⟨fun k hk => (h2.1 k hk).trans (h.1 k hk), h2.2.trans h.2⟩
theorem Fr.mono {S T : Nat → Bool} {σ τ : FS} (h : Fr S σ τ) (hs : ∀ k, T k = false → S k = false) : Fr T σ τ := ⟨fun k hk => h.1 k (hs k hk), h.2⟩
theorem q_n {σ : FS} {k i a : Nat} {v : Int32} (h : a ≠ k) : (sF σ k i v).1 a = σ.1 a := by funext j; exact if_neg h
theorem q_e {σ : FS} {k i j : Nat} {v : Int32} : (sF σ k i v).1 k j = if j = i then v else σ.1 k j := if_pos rfl
theorem q_s {σ : FS} {k i : Nat} {v : Int32} : (sF σ k i v).1 k i = v := by rw [q_e, if_pos rfl]
theorem q_o {σ : FS} {k i j : Nat} {v : Int32} (h : j ≠ i) : (sF σ k i v).1 k j = σ.1 k j := by rw [q_e, if_neg h]
theorem q_I {σ : FS} {k i : Nat} (h : i < 2 ^ 31) : g σ k (nI i) = σ.1 k i := by unfold g; rw [nI_clamp h]
theorem q_A {σ : FS} {k i : Nat} {v : Int32} (h : i < 2 ^ 31) : sA σ k (nI i) v = sF σ k i v := by unfold sA; rw [nI_clamp h]
theorem q_in {i N : Nat} (h : i < N) (hN : N < 2 ^ 31) : vp_in (nI i) N := vp_in_nI h hN
theorem q_m1 {i : Nat} (h : i < 2 ^ 31) : ¬ nI i = -1 := fun e => by
  have := congrArg Int32.toInt e
  rw [nI_toInt h] at this
  have h2 : (-1 : Int32).toInt = -1 := by decide
  omega
theorem Fr.put {S : Nat → Bool} {σ τ : FS} {k i : Nat} {v : Int32} (h : Fr S σ τ) (hk : S k = true) : Fr S σ (sF τ k i v) := ⟨fun a ha => by rw [q_n (fun e => by rw [e, hk] at ha; cases ha)]; exact h.1 a ha, h.2⟩
theorem q_c {σ : FS} {k j : Nat} {v : Int32} : (sC σ k v).1 k j = v := if_pos rfl
theorem q_cn {σ : FS} {k a : Nat} {v : Int32} (h : a ≠ k) : (sC σ k v).1 a = σ.1 a := by funext j; exact if_neg h
theorem Fr.fill {S : Nat → Bool} {σ τ : FS} {k : Nat} {v : Int32} (h : Fr S σ τ) (hk : S k = true) : Fr S σ (sC τ k v) := ⟨fun a ha => by rw [q_cn (fun e => by rw [e, hk] at ha; cases ha)]; exact h.1 a ha, h.2⟩
theorem Fr.long {S : Nat → Bool} {σ τ : FS} {k : Nat} {v : Int64} (h : Fr S σ τ) : Fr S σ (sL τ k v) := ⟨fun a ha => h.1 a ha, h.2⟩
theorem FUEL_le {n : Nat} (h : n < 2000000) : n < FUEL := h
theorem FUEL_s : FUEL = 1999999 + 1 := rfl
theorem i0 : (0 : Int32) = nI 0 := by decide
theorem i1 : (1 : Int32) = nI 1 := by decide
theorem nI_sub {a b : Nat} (h : b ≤ a) : nI a - nI b = nI (a - b) := by
  obtain ⟨c, rfl⟩ := Nat.exists_eq_add_of_le h
  rw [Nat.add_sub_cancel_left, ← nI_add, Int32.add_comm, Int32.add_sub_cancel]
theorem nI_m1 {a : Nat} (h : 0 < a) : nI a - 1 = nI (a - 1) := nI_sub h
theorem nI_m1' {a : Nat} (h : 0 < a) : nI a + (-1) = nI (a - 1) := by rw [← nI_m1 h, Int32.sub_eq_add_neg]
theorem nI_ne {a b : Nat} (h : a ≠ b) (ha : a < 2 ^ 31) (hb : b < 2 ^ 31) : ¬ nI a = nI b := fun e => h ((nI_eq ha hb).mp e)

/-- a generic walk up: for i from 0 to N -/
theorem walk {P : Nat → FS → Prop} {W : Nat → FS → Int32 → Prop} {N : Nat} (hN : N < 1999999) (hs : ∀ i f τ, i < N → P i τ → (∀ τ', P (i + 1) τ' → W f τ' (nI (i + 1))) → W (f + 1) τ (nI i)) (he : ∀ f τ, P N τ → W (f + 1) τ (nI N)) :
    ∀ d i f τ, i + d = N → d < f → P i τ → W f τ (nI i) := by
  intro d
  induction d with
  | zero =>
    intro f i τ h1 h2 h3
    cases i with
    | zero => omega
    | succ i =>
      have e : f = N := by omega
      subst e
      exact he i τ h3
  | succ d ih =>
    intro i f τ h1 h2 h3
    cases f with
    | zero => omega
    | succ f => exact hs i f τ (by omega) h3 (fun τ' h => ih (i + 1) f τ' (by omega) (by omega) h)
/-- recursion over nodes whose parts are smaller -/
def rc {α : Type} (d : α) (F : (Nat → α) → Nat → α) : Nat → Nat → α
  | 0, _ => d
  | f + 1, k => F (rc d F f) k
theorem rc_eq {α : Type} {d : α} {F : (Nat → α) → Nat → α} (hF : ∀ k g h, (∀ j, j < k → g j = h j) → F g k = F h k) : ∀ f f' k, k < f → k < f' → rc d F f k = rc d F f' k := by
  intro f
  induction f with
  | zero => intro f' k h _; omega
  | succ f ih =>
    intro f' k h h'
    cases f' with
    | zero => omega
    | succ f' => exact hF k _ _ (fun j hj => ih f' j (by omega) (by omega))
def ru {α : Type} (d : α) (F : (Nat → α) → Nat → α) (k : Nat) : α := rc d F (k + 1) k
theorem ru_eq {α : Type} {d : α} {F : (Nat → α) → Nat → α} (hF : ∀ k g h, (∀ j, j < k → g j = h j) → F g k = F h k) (k : Nat) : ru d F k = F (ru d F) k :=
  hF k _ _ (fun j hj => rc_eq hF k (j + 1) j hj (by omega))

/-- a program: of each node its kind and its a, its parts b, c and a, and the first node of it -/
abbrev TT := Nat → (Nat × Int32) × (Option Nat × Option Nat × Option Nat) × Nat
def kd (T : TT) (k : Nat) : Nat := (T k).1.1
def av (T : TT) (k : Nat) : Int32 := (T k).1.2
def pB (T : TT) (k : Nat) : Option Nat := (T k).2.1.1
def pC (T : TT) (k : Nat) : Option Nat := (T k).2.1.2.1
def pA (T : TT) (k : Nat) : Option Nat := (T k).2.1.2.2
def lo (T : TT) (k : Nat) : Nat := (T k).2.2
def nm (T : TT) (k : Nat) : Nat := (av T k).toNatClampNeg
def oI (o : Option Nat) : Int32 := match o with | none => -1 | some p => nI p
def oF {α : Type} (o : Option Nat) (d : α) (f : Nat → α) : α := match o with | none => d | some p => f p
def part (T : TT) (k p : Nat) : Prop := pB T k = some p ∨ pC T k = some p ∨ pA T k = some p
/-- all parts are smaller -/
def PL (T : TT) : Prop := ∀ k p, part T k p → p < k
theorem oF_some {α : Type} {p : Nat} {d : α} {f : Nat → α} : oF (some p) d f = f p := rfl
theorem oF_none {α : Type} {d : α} {f : Nat → α} : oF none d f = d := rfl
theorem oF_c {α : Type} {o : Option Nat} {d : α} {f f' : Nat → α} (h : ∀ p, o = some p → f p = f' p) : oF o d f = oF o d f' := by
  cases o with
  | none => rfl
  | some p => exact h p rfl
def okK (κ : Nat) : Bool := κ < 8 || (12 ≤ κ && κ < 18) || κ == 19
def nmK (κ : Nat) : Bool := κ == 1 || κ == 2 || κ == 13 || κ == 14
def hBk (κ : Nat) : Bool := (2 ≤ κ && κ < 8) || (12 ≤ κ && κ < 17) || κ == 19
def hCk (κ : Nat) : Bool := (3 ≤ κ && κ < 8) || κ == 12 || κ == 14 || κ == 15 || κ == 16
def hAk (κ : Nat) : Bool := κ == 15
/-- what stands behind the parts: ends of a, c, b, as firsts of what follows -/
def eA (T : TT) (k : Nat) : Nat := oF (pA T k) k (lo T)
def eC (T : TT) (k : Nat) : Nat := oF (pC T k) (eA T k) (lo T)
def eB (T : TT) (k : Nat) : Nat := oF (pB T k) (eC T k) (lo T)
def WF (T : TT) (k : Nat) : Prop :=
  okK (kd T k) = true ∧ (pB T k).isSome = hBk (kd T k) ∧ (pC T k).isSome = hCk (kd T k) ∧ ((pA T k).isSome = true → kd T k = 15) ∧
  ((∀ p, pA T k = some p → p + 1 = k ∧ 12 ≤ kd T p) ∧ (∀ p, pC T k = some p → p + 1 = eA T k ∧ (if kd T k = 12 ∨ kd T k = 15 ∨ kd T k = 16 then 12 ≤ kd T p else kd T p < 8)) ∧
   (∀ p, pB T k = some p → p + 1 = eC T k ∧ (if kd T k = 12 then 12 ≤ kd T p else kd T p < 8)) ∧ lo T k = eB T k ∧ lo T k ≤ k) ∧
  (nmK (kd T k) = true → av T k = nI (nm T k) ∧ nm T k < 5 ∧ (kd T k = 1 → nm T k ≠ 2) ∧ (kd T k = 2 ∨ kd T k = 14 → nm T k = 2) ∧ (kd T k = 13 → nm T k ≠ 2 ∧ nm T k ≠ 3)) ∧
  (kd T k = 15 → av T k = oI (pA T k))
/-- node k of a world is that of the program -/
def mt (T : TT) (σ : FS) (k : Nat) : Prop := σ.1 14 k = nI (kd T k) ∧ σ.1 15 k = av T k ∧ σ.1 16 k = oF (pB T k) 0 nI ∧ σ.1 17 k = oF (pC T k) 0 nI
def Pg (T : TT) (N : Nat) (σ : FS) : Prop := σ.1 13 0 = nI N ∧ N ≤ 110 ∧ PL T ∧ ∀ k, k < N → mt T σ k ∧ WF T k
theorem Pg.fr {T : TT} {N : Nat} {σ τ : FS} {S : Nat → Bool} (h : Pg T N σ) (hF : Fr S σ τ) (hs : ∀ k, 13 ≤ k → k < 20 → S k = false) : Pg T N τ := by
  have e : ∀ k, 13 ≤ k → k < 20 → τ.1 k = σ.1 k := fun k h1 h2 => hF.1 k (hs k h1 h2)
  refine ⟨?_, h.2.1, h.2.2.1, fun k hk => ⟨?_, (h.2.2.2 k hk).2⟩⟩
  · rw [e 13 (by omega) (by omega)]; exact h.1
  · unfold mt
    rw [e 14 (by omega) (by omega), e 15 (by omega) (by omega), e 16 (by omega) (by omega), e 17 (by omega) (by omega)]
    exact (h.2.2.2 k hk).1
theorem okK_lt {κ : Nat} (h : okK κ = true) : κ < 22 := by
  unfold okK at h
  simp only [Bool.or_eq_true, Bool.and_eq_true, decide_eq_true_eq, beq_iff_eq] at h
  omega
theorem nmK_r : ∀ κ, κ < 22 → okK κ = true → ((tROLE_A κ = 2) ↔ nmK κ = true) := by decide
theorem rB_r : ∀ κ, κ < 22 → okK κ = true → ((tROLE_B κ < 4) ↔ hBk κ = false) := by decide
theorem rC_r : ∀ κ, κ < 22 → okK κ = true → ((tROLE_C κ < 4) ↔ hCk κ = false) := by decide
theorem rA_r : ∀ κ, κ < 22 → okK κ = true → ((tROLE_A κ < 4) ↔ hAk κ = false) := by decide
variable {T : TT} {N : Nat} {σ τ : FS} {k : Nat} {Φ : Int32 → FS → Prop} {Ψ : FS → Prop}
theorem WF.lt (h : WF T k) : kd T k < 22 := okK_lt h.1
theorem hasName_ok (hk : k < 110) (hm : mt T σ k) (hw : WF T k) (h : Φ (if nmK (kd T k) then 1 else 0) σ) : wp_X5_hasName σ (nI k) Φ := by
  have hκ := hw.lt
  unfold wp_X5_hasName
  rw [q_I (by omega), hm.1]
  refine ⟨q_in hk (by omega), q_in hκ (by omega), nm_e ?_⟩
  rw [nI_clamp (by omega)]
  have h9 := nmK_r _ hκ hw.1
  by_cases hn : nmK (kd T k) = true
  · rw [hn] at h; exact br_t (h9.mpr hn) h
  · rw [if_neg hn] at h; exact br_f (fun q => hn (h9.mp q)) h
theorem partB_ok (hk : k < 110) (hm : mt T σ k) (hw : WF T k) (h : Φ (oI (pB T k)) σ) : wp_X5_partB σ (nI k) Φ := by
  have hκ := hw.lt
  unfold wp_X5_partB
  rw [q_I (by omega), hm.1]
  refine ⟨q_in hk (by omega), q_in hκ (by omega), nm_e ?_⟩
  rw [nI_clamp (by omega), q_I (by omega), hm.2.2.1]
  have h9 := rB_r _ hκ hw.1
  have h8 := hw.2.1
  cases e : pB T k with
  | none => rw [e] at h h8; exact br_t (h9.mpr h8.symm) h
  | some p => rw [e] at h h8; exact br_f (fun q => by have := h9.mp q; rw [← h8] at this; cases this) ⟨q_in hk (by omega), h⟩
theorem partC_ok (hk : k < 110) (hm : mt T σ k) (hw : WF T k) (h : Φ (oI (pC T k)) σ) : wp_X5_partC σ (nI k) Φ := by
  have hκ := hw.lt
  unfold wp_X5_partC
  rw [q_I (by omega), hm.1]
  refine ⟨q_in hk (by omega), q_in hκ (by omega), nm_e ?_⟩
  rw [nI_clamp (by omega), q_I (by omega), hm.2.2.2]
  have h9 := rC_r _ hκ hw.1
  have h8 := hw.2.2.1
  cases e : pC T k with
  | none => rw [e] at h h8; exact br_t (h9.mpr h8.symm) h
  | some p => rw [e] at h h8; exact br_f (fun q => by have := h9.mp q; rw [← h8] at this; cases this) ⟨q_in hk (by omega), h⟩
theorem partA_ok (hk : k < 110) (hm : mt T σ k) (hw : WF T k) (h : Φ (oI (pA T k)) σ) : wp_X5_partA σ (nI k) Φ := by
  have hκ := hw.lt
  unfold wp_X5_partA
  rw [q_I (by omega), hm.1]
  refine ⟨q_in hk (by omega), q_in hκ (by omega), nm_e ?_⟩
  rw [nI_clamp (by omega), q_I (by omega), hm.2.1]
  have h9 := rA_r _ hκ hw.1
  by_cases h15 : kd T k = 15
  · rw [hw.2.2.2.2.2.2 h15]
    exact br_f (fun q => by have := h9.mp q; rw [h15] at this; cases this) ⟨q_in hk (by omega), h⟩
  · have e : pA T k = none := by
      cases e : pA T k with
      | none => rfl
      | some p => exact absurd (hw.2.2.2.1 (by rw [e]; rfl)) h15
    rw [e] at h
    exact br_t (h9.mpr (by unfold hAk; exact beq_false_of_ne h15)) h
theorem oI_none {o : Option Nat} : o = none → oI o = -1 := fun h => by rw [h]; rfl
theorem oI_some {o : Option Nat} {p : Nat} : o = some p → oI o = nI p := fun h => by rw [h]; rfl
end PA
