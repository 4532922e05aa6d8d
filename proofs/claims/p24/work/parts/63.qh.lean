section QI
variable {T : TT} {N top : Nat} {σ τ ρ : FS} {k : Nat} {Φ : Int32 → FS → Prop} {Ψ : FS → Prop} {c : Int32} {ga : SG} {b : Option Nat}
/-- the law's program: a tree up to top; behind it there may be a BREAK alone -/
def Sit (T : TT) (c : Int32) (N top : Nat) (σ : FS) : Prop := Pg T N σ ∧ Dcl c σ ∧ WT σ ∧ (σ.1 0 10 = 7 ∧ σ.1 0 11 = nI 1000 ∧ σ.1 0 12 = 20) ∧ (TR T top ∧ 12 ≤ kd T top ∧ LB T 0 (top + 1) ∧ kd T (top + 1) = 17) ∧
  (∀ k p, k < N → part T k p → σ.1 18 p = nI k) ∧ σ.1 18 top = -1 ∧ (N = top + 1 ∨ (N = top + 2 ∧ σ.1 18 (top + 1) = -1))
/-- the body of MAIN -/
def Bd (N : Nat) (b : Option Nat) (σ : FS) : Prop := σ.1 7 0 = oI b ∧ ∀ k, k < N → σ.1 19 k = if b = some k then 0 else -1
/-- cells 0 and 7, 19, 20 to 39 and 52 may have changed; of cell 0 the first of the law's own flags alone -/
def S0 (a : Nat) : Bool := decide (a = 0 ∨ a = 7 ∨ (19 ≤ a ∧ a ≤ 39) ∨ a = 52)
theorem S0_f {a : Nat} (h : ¬ (a = 0 ∨ a = 7 ∨ (19 ≤ a ∧ a ≤ 39) ∨ a = 52)) : S0 a = false := decide_eq_false h
theorem S0_t {a : Nat} (h : a = 0 ∨ a = 7 ∨ (19 ≤ a ∧ a ≤ 39) ∨ a = 52) : S0 a = true := decide_eq_true h
/-- what is kept -/
def K0 (σ τ : FS) : Prop := Fr S0 σ τ ∧ ∀ j, j ≠ 9 → τ.1 0 j = σ.1 0 j
theorem Sit.k0 (h : Sit T c N top σ) (hK : K0 σ τ) : Sit T c N top τ := by
  obtain ⟨h1, h2, h3, h4, h5, h6, h7, h8⟩ := h
  obtain ⟨hF, h0⟩ := hK
  have e : ∀ a, ¬ (a = 0 ∨ a = 7 ∨ (19 ≤ a ∧ a ≤ 39) ∨ a = 52) → τ.1 a = σ.1 a := fun a ha => hF.1 a (S0_f ha)
  refine ⟨⟨?_, h1.2.1, h1.2.2.1, fun k hk => ⟨?_, (h1.2.2.2 k hk).2⟩⟩, ?_, ⟨wt_fr h3.1 hF rfl, wt_fr h3.2.1 hF rfl, wt_fr h3.2.2.1 hF rfl, wt_fr h3.2.2.2.1 hF rfl, wt_fr h3.2.2.2.2 hF rfl⟩, ?_, h5, fun k p hk hp => ?_, ?_, ?_⟩
  · rw [e 13 (by omega)]; exact h1.1
  · unfold mt
    rw [e 14 (by omega), e 15 (by omega), e 16 (by omega), e 17 (by omega)]
    exact (h1.2.2.2 k hk).1
  · unfold Dcl
    rw [e 1 (by omega), e 2 (by omega), e 3 (by omega), e 4 (by omega), e 5 (by omega), e 6 (by omega), e 8 (by omega), e 9 (by omega), e 10 (by omega), e 11 (by omega), e 12 (by omega)]
    exact h2
  · rw [h0 10 (by omega), h0 11 (by omega), h0 12 (by omega)]; exact h4
  · rw [e 18 (by omega)]; exact h6 k p hk hp
  · rw [e 18 (by omega)]; exact h7
  · rw [e 18 (by omega)]; exact h8
theorem Sit.N1 (h : Sit T c N top σ) : top < N ∧ N ≤ 110 ∧ N ≤ top + 2 := ⟨by have := h.2.2.2.2.2.2.2; omega, h.1.2.1, by have := h.2.2.2.2.2.2.2; omega⟩
/-- body() -/
theorem body_ok {t : Nat} (hS : Sit T c N top σ) (hB : Bd N b σ) (ht : t < N) (hk : 12 ≤ kd T t) (h18 : σ.1 18 t = -1) (hne : b ≠ some t) (hb : ∀ q, b = some q → q < N)
    (h : ∀ τ, K0 σ τ → Sit T c N top τ → Bd N (some t) τ → τ.1 0 9 = 1 → Φ (oI b) τ) : wp_X8_body σ 0 (nI t) Φ := by
  have hN := hS.1.2.1
  have hin := q_in (show t < 110 by omega) (show 110 < 2 ^ 31 by omega)
  have hm := (hS.1.2.2.2 t ht).1
  have hw := (hS.1.2.2.2 t ht).2
  have h19 : σ.1 19 t = -1 := by rw [hB.2 t ht, if_neg hne]
  unfold wp_X8_body
  refine needProc_ok hS.2.1.1.1 (needNode_ok hS.1.1 hN ht ?_)
  unfold wp_X5_isStatement
  refine ⟨hin, ?_⟩
  rw [q_I (by omega), hm.1]
  refine br_f (nI_nlt (a := kd T t) (b := 12) hk (by have := hw.lt; omega)) (needArg_ok ?_)
  unfold wp_X5_isFree
  refine ⟨hin, ?_⟩
  rw [q_I (by omega), q_I (by omega), h18, h19]
  refine br_t rfl ⟨hin, br_t rfl (needState_ok (nm_e ⟨z10, nm_e ?_⟩))⟩
  rw [g0, q_n (by omega), hB.1]
  have fin : ∀ τ, K0 σ τ → τ.1 7 0 = nI t → (∀ k, k < N → τ.1 19 k = if t = k then 0 else -1) → τ.1 0 9 = 1 → Φ (oI b) τ := fun τ hK h7 h19 h9 => h τ hK (hS.k0 hK) ⟨h7, fun k hk => by
    rw [h19 k hk]
    by_cases e : t = k
    · rw [if_pos e, if_pos (by rw [e])]
    · rw [if_neg e, if_neg (fun q => e (by cases q; rfl))]⟩ h9
  cases b with
  | none =>
    refine br_t rfl ⟨z10, nm_e ⟨hin, nm_e ?_⟩⟩
    rw [sa00, q_A (by omega)]
    refine fin _ ⟨((Fr.rf.put (S0_t (by omega))).put (S0_t (by omega))).put (S0_t (by omega)), fun j hj => ?_⟩ ?_ (fun k hk => ?_) ?_
    · rw [q_n (by omega), q_n (by omega), q_o hj]
    · rw [q_n (by omega), q_s]
    · rw [q_e, q_n (by omega), q_n (by omega)]
      by_cases e : t = k
      · rw [if_pos e.symm, if_pos e]
      · rw [if_neg (fun q => e q.symm), if_neg e, hB.2 k hk, if_neg (fun q => by cases q)]
    · rw [q_n (by omega), q_n (by omega), q_s]
  | some q =>
    have hq := hb q rfl
    refine br_f (q_m1 (show q < 2 ^ 31 by omega)) ⟨q_in (show q < 110 by omega) (by omega), nm_e ⟨z10, nm_e ⟨hin, nm_e ?_⟩⟩⟩
    rw [show oI (some q) = nI q from rfl, q_A (by omega), sa00, q_A (by omega)]
    refine fin _ ⟨(((Fr.rf.put (S0_t (by omega))).put (S0_t (by omega))).put (S0_t (by omega))).put (S0_t (by omega)), fun j hj => ?_⟩ ?_ (fun k hk => ?_) ?_
    · rw [q_n (by omega), q_n (by omega), q_n (by omega), q_o hj]
    · rw [q_n (by omega), q_s]
    · rw [q_e, q_n (by omega), q_e, q_n (by omega)]
      by_cases e : t = k
      · rw [if_pos e.symm, if_pos e]
      · rw [if_neg (fun q => e q.symm), if_neg e, hB.2 k hk]
        by_cases e2 : k = q
        · rw [if_pos e2]
        · rw [if_neg e2, if_neg (fun z => e2 (by cases z; rfl))]
    · rw [q_n (by omega), q_n (by omega), q_n (by omega), q_s]
/-- of what each node is part -/
theorem Sit.whole (hS : Sit T c N top σ) (hk : k < top) : ∃ w, k < w ∧ w ≤ top ∧ w < N ∧ σ.1 18 k = nI w := by
  obtain ⟨w, hw, hp⟩ := has_wh hS.2.2.2.2.1.1 hk
  have := hS.N1
  exact ⟨w, hS.1.2.2.1 w k hp, hw, by omega, hS.2.2.2.2.2.1 w k (by omega) hp⟩
theorem wh_n (hS : Sit T c N top σ) (hB : Bd N none σ) (hN : N = top + 1) : Wh T N (fun _ => false) σ := by
  intro k hk
  refine Or.inr ⟨by rw [hB.2 k hk, if_neg (fun q => by cases q)], ?_⟩
  by_cases e : k < top
  · obtain ⟨w, h1, h2, h3, h4⟩ := hS.whole e
    exact Or.inr ⟨w, h1, h3, h4, rfl⟩
  · have : k = top := by omega
    rw [this]
    exact Or.inl ⟨hS.2.2.2.2.2.2.1, rfl⟩
theorem iT_t {k : Nat} (h : k ≤ top) : iT top k = true := decide_eq_true h
theorem iT_f {k : Nat} (h : ¬ k ≤ top) : iT top k = false := decide_eq_false h
theorem wh_t (hS : Sit T c N top σ) (hB : Bd N (some top) σ) : Wh T N (iT top) σ := by
  have n1 := hS.N1
  intro k hk
  rw [hB.2 k hk]
  by_cases e : k < top
  · obtain ⟨w, h1, h2, h3, h4⟩ := hS.whole e
    exact Or.inr ⟨by rw [if_neg (fun q => by cases q; omega)], Or.inr ⟨w, h1, h3, h4, by rw [iT_t (show k ≤ top by omega), iT_t h2]⟩⟩
  · by_cases e2 : k = top
    · rw [e2]
      exact Or.inl ⟨by rw [if_pos rfl], iT_t (Nat.le_refl top)⟩
    · refine Or.inr ⟨by rw [if_neg (fun q => by cases q; omega)], Or.inl ⟨?_, iT_f (by omega)⟩⟩
      rcases hS.2.2.2.2.2.2.2 with q | ⟨q, q2⟩
      · omega
      · rw [show k = top + 1 by omega]; exact q2
def iO (top k : Nat) : Bool := k == top + 1
theorem wh_o (hS : Sit T c N top σ) (hN : N = top + 2) (hB : Bd N (some (top + 1)) σ) : Wh T N (iO top) σ := by
  intro k hk
  rw [hB.2 k hk]
  have f : ∀ j, j ≤ top → iO top j = false := fun j hj => beq_false_of_ne (by omega)
  by_cases e : k < top
  · obtain ⟨w, h1, h2, h3, h4⟩ := hS.whole e
    exact Or.inr ⟨by rw [if_neg (fun q => by cases q; omega)], Or.inr ⟨w, h1, h3, h4, by rw [f k (by omega), f w h2]⟩⟩
  · by_cases e2 : k = top
    · rw [e2]
      exact Or.inr ⟨by rw [if_neg (fun q => by cases q)], Or.inl ⟨hS.2.2.2.2.2.2.1, f top (Nat.le_refl top)⟩⟩
    · have : k = top + 1 := by omega
      rw [this]
      exact Or.inl ⟨by rw [if_pos rfl], beq_iff_eq.mpr rfl⟩
theorem br_none : Br T N (fun _ => false) lT σ := fun k _ _ hi => by cases hi
theorem br_top (hS : Sit T c N top σ) : Br T N (iT top) lT σ := by
  intro k hk h17 hi
  have hkt : k ≤ top := of_decide_eq_true hi
  have n1 := hS.N1
  obtain ⟨h8, ⟨a1, a2⟩, ⟨b1, b2⟩, ⟨c1, c2⟩, ⟨d1, d2⟩, ev⟩ := hS.2.2.2.2.1.2.2.1 k (Nat.zero_le k) (by omega) h17
  have P := hS.2.2.2.2.2.1
  exact Or.inl ⟨rfl, by omega, by omega, P (k + 1) k (by omega) (Or.inr (Or.inl a2)), P (k + 2) (k + 1) (by omega) (Or.inr (Or.inl b2)), P (k + 7) (k + 2) (by omega) (Or.inl c2), P (k + 8) (k + 7) (by omega) (Or.inr (Or.inl d2)), a1, b1, c1, d1, ev⟩
theorem br_o (hS : Sit T c N top σ) (hN : N = top + 2) : Br T N (iO top) (fun _ => false) σ := by
  intro k hk h17 hi
  have hkt : k = top + 1 := beq_iff_eq.mp hi
  refine Or.inr ⟨rfl, ?_⟩
  rcases hS.2.2.2.2.2.2.2 with q | ⟨q, q2⟩
  · omega
  · rw [hkt]; exact q2
/-- behind refresh() -/
theorem k0_ref (F : Fr (fun a => S20 a || S34 a) σ ρ) : K0 σ (sF (sF (sF ρ 39 3 (-1)) 52 3 (-1)) 0 9 0) := by
  have F' : Fr S0 σ ρ := F.mono (fun a ha => by
    have h := of_decide_eq_false ha
    rw [S20_f (by omega), S34_f (by omega)]; rfl)
  refine ⟨((F'.put (S0_t (by omega))).put (S0_t (by omega))).put (S0_t (by omega)), fun j hj => ?_⟩
  rw [q_o hj, q_n (by omega), q_n (by omega), F.1 0 rfl]
theorem mn_ref {inn lp : Nat → Bool} (h : Mn T c N inn lp ρ) : Mn T c N inn lp (sF (sF (sF ρ 39 3 (-1)) 52 3 (-1)) 0 9 0) := by
  have e : ∀ a, a ≠ 39 → a ≠ 52 → a ≠ 0 → (sF (sF (sF ρ 39 3 (-1)) 52 3 (-1)) 0 9 0).1 a = ρ.1 a := fun a h1 h2 h3 => by rw [q_n h3, q_n h2, q_n h1]
  obtain ⟨m, m2⟩ := h
  refine ⟨fun k hk => ?_, ?_⟩
  · obtain ⟨x1, x2, x3, x4, x5, x6⟩ := m k hk
    unfold bz at x2 ⊢
    unfold fz at x3 ⊢
    rw [e 21 (by omega) (by omega) (by omega), e 22 (by omega) (by omega) (by omega), e 23 (by omega) (by omega) (by omega), e 24 (by omega) (by omega) (by omega), e 25 (by omega) (by omega) (by omega), e 26 (by omega) (by omega) (by omega), e 27 (by omega) (by omega) (by omega), e 28 (by omega) (by omega) (by omega), e 29 (by omega) (by omega) (by omega), e 30 (by omega) (by omega) (by omega)]
    exact ⟨x1, x2, x3, x4, x5, x6⟩
  · rw [e 32 (by omega) (by omega) (by omega), e 33 (by omega) (by omega) (by omega), e 20 (by omega) (by omega) (by omega)]; exact m2
theorem bd_ref (hB : Bd N b σ) (F : Fr (fun a => S20 a || S34 a) σ ρ) : Bd N b (sF (sF (sF ρ 39 3 (-1)) 52 3 (-1)) 0 9 0) := by
  have e : ∀ a, a ≠ 39 → a ≠ 52 → a ≠ 0 → (sF (sF (sF ρ 39 3 (-1)) 52 3 (-1)) 0 9 0).1 a = ρ.1 a := fun a h1 h2 h3 => by rw [q_n h3, q_n h2, q_n h1]
  unfold Bd
  rw [e 7 (by omega) (by omega) (by omega), e 19 (by omega) (by omega) (by omega), F.1 7 rfl, F.1 19 rfl]
  exact hB
theorem cl_ref {a : Nat} (h1 : a ≠ 39) (h2 : a ≠ 52) (h3 : a ≠ 0) : (sF (sF (sF ρ 39 3 (-1)) 52 3 (-1)) 0 9 0).1 a = ρ.1 a := by rw [q_n h3, q_n h2, q_n h1]
theorem ref_n (hS : Sit T c N top σ) (hB : Bd N none σ) (hN : N = top + 1) (h9 : σ.1 0 9 = 1) (h : ∀ τ, K0 σ τ → Sit T c N top τ → Bd N none τ → τ.1 0 9 = 0 → Mn T c N (fun _ => false) lT τ → τ.1 34 3 = 1 → Ψ τ) : wp_X8_refresh σ Ψ := by
  refine refresh_yes (Q := fun ρ => ρ.1 34 3 = 1) (by rw [h9]; decide) hS.1 hS.2.1 (wh_n hS hB hN) br_none (fun τ Ψ' F M hh => ?_) (fun ρ F M q => ?_)
  · refine flt_none (T := T) (N := N) (hS.1.fr F (fun k _ _ => S20_f (by omega))) (by rw [F.1 1 rfl]; exact hS.2.1.1.1) (by rw [F.1 7 rfl]; exact hB.1) (fun ρ F2 a1 a2 a3 a4 => hh ρ F2 a1)
  · have K := k0_ref F
    exact h _ K (hS.k0 K) (bd_ref hB F) q_s (mn_ref M) (by rw [cl_ref (by omega) (by omega) (by omega)]; exact q)
theorem ref_t (hS : Sit T c N top σ) (hB : Bd N (some top) σ) (h9 : σ.1 0 9 = 1) (h : ∀ τ, K0 σ τ → Sit T c N top τ → Bd N (some top) τ → Gs T c N top τ → Ψ τ) : wp_X8_refresh σ Ψ := by
  have n1 := hS.N1
  refine refresh_yes (Q := fun ρ => ρ.1 34 3 = 0) (by rw [h9]; decide) hS.1 hS.2.1 (wh_t hS hB) (br_top hS) (fun τ Ψ' F M hh => ?_) (fun ρ F M q => ?_)
  · refine flt_0 (T := T) (G := fun k => k ≤ top) (top := top) (hS.1.fr F (fun k _ _ => S20_f (by omega))) (by rw [F.1 1 rfl]; exact hS.2.1.1.1) (by rw [F.1 7 rfl]; exact hB.1) M (fun k hk => ⟨by omega, iT_t hk, fun _ => rfl, fun p hp => by have := hS.1.2.2.1 k p hp; omega⟩) (Nat.le_refl top) (fun ρ F2 a1 => hh ρ F2 a1)
  · have K := k0_ref F
    have S' := hS.k0 K
    have B' := bd_ref hB F
    have e3 : (sF (sF (sF ρ 39 3 (-1)) 52 3 (-1)) 0 9 0).1 39 3 = -1 := by rw [q_n (by omega), q_n (by omega), q_s]
    have e5 : (sF (sF (sF ρ 39 3 (-1)) 52 3 (-1)) 0 9 0).1 52 3 = -1 := by rw [q_n (by omega), q_s]
    refine h _ K S' B' ⟨⟨S'.1, S'.2.1, mn_ref M, n1.1, hS.2.2.2.2.1.1.2.2.1, B'.1, S'.2.2.2.2.2.1, S'.2.2.2.2.2.2.1⟩, hS.2.2.2.2.1.2.1, S'.2.2.1, ⟨q_s, S'.2.2.2.1⟩, by rw [cl_ref (by omega) (by omega) (by omega)]; exact q, fun fl z => absurd e3 z, fun z => ?_⟩
    rw [e5] at z
    exact absurd z (by decide)
theorem ref_o (hS : Sit T c N top σ) (hB : Bd N (some (top + 1)) σ) (hN : N = top + 2) (h9 : σ.1 0 9 = 1) (h : ∀ τ, K0 σ τ → Sit T c N top τ → Bd N (some (top + 1)) τ → τ.1 0 9 = 0 → Mn T c N (iO top) (fun _ => false) τ → τ.1 34 3 = 1 → τ.1 35 0 = 6 → Ψ τ) : wp_X8_refresh σ Ψ := by
  refine refresh_yes (Q := fun ρ => ρ.1 34 3 = 1 ∧ ρ.1 35 0 = 6) (by rw [h9]; decide) hS.1 hS.2.1 (wh_o hS hN hB) (br_o hS hN) (fun τ Ψ' F M hh => ?_) (fun ρ F M q => ?_)
  · refine flt_6 (T := T) (top := top + 1) (hS.1.fr F (fun k _ _ => S20_f (by omega))) (by rw [F.1 1 rfl]; exact hS.2.1.1.1) (by rw [F.1 7 rfl]; exact hB.1) M (by omega) hS.2.2.2.2.1.2.2.2 (beq_iff_eq.mpr rfl) rfl (fun ρ F2 a1 a2 a3 a4 => hh ρ F2 ⟨a1, a2⟩)
  · have K := k0_ref F
    exact h _ K (hS.k0 K) (bd_ref hB F) q_s (mn_ref M) (by rw [cl_ref (by omega) (by omega) (by omega)]; exact q.1) (by rw [cl_ref (by omega) (by omega) (by omega)]; exact q.2)
end QI
