section PU
variable {T : TT} {N top : Nat} {σ σ0 τ : FS} {k t a : Nat} {Φ : Int32 → FS → Prop} {Ψ : FS → Prop} {c cl : Int32} {most : Nat}
theorem mLeave_told {m : MS} {y n : Int32} : (mLeave m y n).2.2.1 = m.2.2.1 := by
  cases e : fnd m.2.1.2.2.1 y m.1.2.2 with
  | none => rw [mLeave_none e]; rfl
  | some r => rw [mLeave_some e]
theorem pf_told {q : QQ} {e : Nat} {m : MS} : (pf q e m).2.2.1.1 = m.2.2.1.1 ∧ (pf q e m).2.2.1.2.1 ≤ m.2.2.1.2.1 + 1 ∧ m.2.2.1.2.1 ≤ (pf q e m).2.2.1.2.1 := by
  have z : ∀ m' : MS, m'.2.2.1 = m.2.2.1 → m'.2.2.1.1 = m.2.2.1.1 ∧ m'.2.2.1.2.1 ≤ m.2.2.1.2.1 + 1 ∧ m.2.2.1.2.1 ≤ m'.2.2.1.2.1 := fun m' h => by rw [h]; exact ⟨rfl, Nat.le_succ _, Nat.le_refl _⟩
  unfold pf
  by_cases c1 : q.1 = 1
  · rw [if_pos c1]; exact z _ rfl
  rw [if_neg c1]
  by_cases c2 : q.1 = 2
  · rw [if_pos c2]; exact z _ rfl
  rw [if_neg c2]
  by_cases c3 : q.1 = 3
  · rw [if_pos c3]; split <;> exact z _ rfl
  rw [if_neg c3]
  by_cases c4 : q.1 = 7 ∧ mTop m = 0
  · rw [if_pos c4]; exact z _ rfl
  rw [if_neg c4]
  by_cases c5 : q.1 = 4 ∨ q.1 = 5 ∨ q.1 = 6 ∨ q.1 = 7 ∨ q.1 = 8
  · rw [if_pos c5]; exact z _ rfl
  rw [if_neg c5]
  by_cases c6 : q.1 = 19
  · rw [if_pos c6]; exact z _ rfl
  rw [if_neg c6]
  by_cases c7 : q.1 = 20
  · rw [if_pos c7]; split <;> exact z _ rfl
  rw [if_neg c7]
  by_cases c8 : q.1 = 21
  · rw [if_pos c8]; split <;> exact z _ rfl
  rw [if_neg c8]
  by_cases c9 : q.1 = 22
  · rw [if_pos c9]; exact z _ rfl
  rw [if_neg c9]
  by_cases c10 : q.1 = 23
  · rw [if_pos c10]; exact z _ rfl
  rw [if_neg c10]
  by_cases c11 : q.1 = 24
  · rw [if_pos c11]; exact z _ rfl
  rw [if_neg c11]
  by_cases c12 : q.1 = 25
  · rw [if_pos c12]; exact z _ mLeave_told
  rw [if_neg c12]
  by_cases c13 : q.1 = 26
  · rw [if_pos c13]
    refine ⟨rfl, Nat.le_refl _, Nat.le_succ _⟩
  rw [if_neg c13]
  by_cases c14 : q.1 = 15
  · rw [if_pos c14]; exact z _ rfl
  rw [if_neg c14]
  exact z _ rfl
def EndR (T : TT) (c cl : Int32) (top t : Nat) (σ0 : FS) (m : MS) (τ : FS) : Prop := m.2.2.2.1 = true ∧ τ.1 65 16 = 1 ∧ OutR T c cl top t σ0 m τ
theorem fr_kp (hF : Fr (SX t) σ0 σ) (hK : Kp t σ τ) : Fr (SX t) σ0 τ := hF.tr (hK.1.mono SPX)
theorem Ic_L (tr : TR T top) : Ic T c top (ln T false top) = (1, 0, 0, -1) ∧ Ic T c top (ln T false top + 1) = (15, 0, 0, -1) := by
  constructor
  · unfold Ic; rw [QA_tail tr (Nat.le_refl _)]; unfold tailQ; rw [if_neg (by omega), if_pos rfl]; rfl
  · unfold Ic; rw [QA_tail tr (by omega)]; unfold tailQ; rw [if_pos rfl]; rfl
theorem turn {m : MS} {i f : Nat} {a1 a3 : Int32} {K : FS → Int32 → Prop} (ht : 80 ≤ t) (h12 : 12 ≤ kd T top) (hi : i < 1000000) (hm : most ≤ 3000) (hR : RunR T c cl N top t most σ0 i m τ)
    (h : ∀ τ', RunR T c cl N top t most σ0 (i + 1) (stp T c top most m) τ' ∨ EndR T c cl top t σ0 (stp T c top most m) τ' → wp_X3_execute_53 t a1 (nI most) a3 Ψ K f τ' (nI (i + 1))) : wp_X3_execute_53 t a1 (nI most) a3 Ψ K (f + 1) τ (nI i) := by
  obtain ⟨hF, h3, hC, hQ, hov, hT, hst, hnu⟩ := hR
  have tr := hC.1.tr
  have L := L_le (fl := false) tr
  have hpc := hT.1
  have q1 := hQ.1
  have q5 : Q5 t m.2.2.1.1 m.2.2.1.2.1 m.2.2.1.2.2.1 m.2.2.1.2.2.2.1 m.2.2.1.2.2.2.2 m.2.2.2.2.1 m.2.2.2.2.2.1 m.2.2.2.2.2.2 τ := hQ.2.2.2.2.1
  have q16 : τ.1 65 16 = 0 := by rw [hQ.2.2.2.2.2, hov]; rfl
  have hin := q_in (show m.1.1 < 460 by omega) (show 460 < 2 ^ 31 by omega)
  unfold wp_X3_execute_53
  refine br_f (nI_ge (b := 1000000) hi (by omega)) (br_t q16 (nm_e ?_))
  rw [q1, hC.2.1.1]
  refine br_f (nI_pos (by omega)) (br_t (nI_lt hpc (by omega)) (begin_ok (T := T) (c := c) (N := N) ht hpc hC.1 hC.2.1 hst hm q5 (fun hle τ1 K1 F1 Q1 => ?_) (fun n hgt hn τ1 K1 F1 Q1 h16 => ?_)))
  · refine br_f (by decide) (nm_e ⟨hin, ?_⟩)
    rw [nI_1, nI_1]
    have es : stp T c top most m = pf (Ic T c top m.1.1) (eT T false top (tN (Ic T c top m.1.1).2.2.2)) (mBegin T top m) := by
      unfold stp; rw [hov, if_neg Bool.false_ne_true, if_pos hle]
    have hC1 := hC.kp ht K1
    have Qm1 : Qm t (m.1, m.2.1, (m.2.2.1.1 + cb T false top (top + 1) m.1.1, m.2.2.1.2), m.2.2.2) τ1 := ⟨by rw [F1.1 65 (beq_false_of_ne (by omega))]; exact q1, Q2_fr hQ.2.1 F1 (beq_false_of_ne (by omega)) (beq_false_of_ne (by omega)), Q3_fr hQ.2.2.1 F1 (beq_false_of_ne (by omega)) (beq_false_of_ne (by omega)), Q4_fr hQ.2.2.2.1 F1 (beq_false_of_ne (by omega)) (beq_false_of_ne (by omega)), Q1, by rw [F1.1 65 (beq_false_of_ne (by omega)), q16, hov]; rfl⟩
    obtain ⟨K2, Qm2⟩ := p_go (p := m.1.1 + 1) ht Qm1
    have Qb : Qm t (mBegin T top m) (sF τ1 65 12 (nI (m.1.1 + 1))) := Qm2
    have K12 := K1.tr K2
    have hC2 := hC1.kp ht K2
    have hF2 := fr_kp hF K12
    have h32 : (sF τ1 65 12 (nI (m.1.1 + 1))).1 52 3 = 0 := by rw [K12.1.1 52 (SP_f (by omega))]; exact h3
    have pt := pf_told (q := Ic T c top m.1.1) (e := eT T false top (tN (Ic T c top m.1.1).2.2.2)) (m := mBegin T top m)
    rw [← es] at pt
    have bst : (mBegin T top m).2.2.1.1 = m.2.2.1.1 + cb T false top (top + 1) m.1.1 := rfl
    have bnu : (mBegin T top m).2.2.1.2.1 = m.2.2.1.2.1 := rfl
    -- behind an instruction that ends no run, or traps
    have after : ∀ τ', Kp t (sF τ1 65 12 (nI (m.1.1 + 1))) τ' → Qm t (stp T c top most m) τ' → ((stp T c top most m).2.2.2.1 = false → TI T c top (stp T c top most m)) → wp_X3_execute_53 t a1 (nI most) a3 Ψ K f τ' (nI (i + 1)) := fun τ' K3 Q3 hti => by
      have hC3 := hC2.kp ht K3
      have hF3 := fr_kp hF2 K3
      have h33 : τ'.1 52 3 = 0 := by rw [K3.1.1 52 (SP_f (by omega))]; exact h32
      cases ho : (stp T c top most m).2.2.2.1 with
      | true => exact h τ' (Or.inr ⟨ho, by rw [Q3.2.2.2.2.2, ho]; rfl, RunR.out hF3 h33 hC3 Q3⟩)
      | false => exact h τ' (Or.inl ⟨hF3, h33, hC3, Q3, ho, hti ho, by omega, by omega⟩)
    by_cases ha : m.1.1 < ln T false top
    · obtain ⟨k, o, x, y, hk, eI, hTY⟩ := ty (c := c) tr h12 ha
      have en : tN (nI k) = k := nI_clamp (by have := hC.1.1.2.1; have := hC.1.2.2.2.1; omega)
      rw [eI] at es
      have es' : stp T c top most m = pf (o, x, y, nI k) (eT T false top k) (mBegin T top m) := by rw [es, en]
      obtain ⟨e55, -, -, -⟩ := Ick tr hC2.2.1 hpc eI
      rw [q_I (by omega), e55]
      refine perform_ok (T := T) (c := c) (N := N) ht hC2 Qb ha h12 hk eI hTY hT.2.1 hT.2.2.1 hT.2.2.2.1 (by rw [bnu]; omega) (fun τ' K3 Q3 => after τ' K3 (by rw [es']; exact Q3) (fun ho => ?_))
      rw [es'] at ho ⊢
      exact TI_step tr h12 hT rfl ha hk eI hTY ho
    · obtain ⟨eL, eL1⟩ := Ic_L (c := c) tr
      have dE := dEnd (c := c) tr h12
      by_cases hL : m.1.1 = ln T false top
      · rw [hL, eL] at es
        have eI : Ic T c top m.1.1 = (1, 0, 0, -1) := by rw [hL]; exact eL
        obtain ⟨e55, e56, -, -⟩ := Ick tr hC2.2.1 hpc eI
        rw [q_I (by omega), e55]
        unfold wp_X3_perform
        refine ⟨hin, nm_e (br_t rfl ?_)⟩
        rw [q_I (by omega), e56]
        have t2 := hT.2.1
        rw [hL, dE.1] at t2
        have t3 := hT.2.2.1
        rw [hL, dE.2] at t3
        have boc : (mBegin T top m).1.2.1 = m.1.2.1 := rfl
        refine p_push (m := mBegin T top m) ht Qb (by omega) (fun τ' K3 Q3 => after τ' K3 (by rw [es]; exact Q3) (fun _ => ?_))
        have u := dS_o eL (v := 1) (w := 0) (by decide) (by decide)
        rw [es]
        refine ⟨by show m.1.1 + 1 < _; omega, by show ((m.1.2.1 + 1 : Nat) : Int) = dS T c top (m.1.1 + 1); rw [hL]; omega, by show (m.1.2.2 : Int) = lS T c top (m.1.1 + 1); rw [hL]; omega, hT.2.2.2.1, hT.2.2.2.2⟩
      · have hL1 : m.1.1 = ln T false top + 1 := by omega
        rw [hL1, eL1] at es
        have eI : Ic T c top m.1.1 = (15, 0, 0, -1) := by rw [hL1]; exact eL1
        obtain ⟨e55, e56, -, -⟩ := Ick tr hC2.2.1 hpc eI
        rw [q_I (by omega), e55]
        unfold wp_X3_perform
        refine ⟨hin, nm_e ?_⟩
        have u := dS_o eL (v := 1) (w := 0) (by decide) (by decide)
        have t2 := hT.2.1
        rw [hL1] at t2
        have boc : (mBegin T top m).1.2.1 = m.1.2.1 := rfl
        have B : wp_X3_goBack t (sF τ1 65 12 (nI (m.1.1 + 1))) (fun (σ26 : FS) => wp_X3_execute_53 t a1 (nI most) a3 Ψ K f σ26 (nI (i + 1))) :=
          p_back (T := T) (c := c) (cl := cl) (N := N) (top := top) (σ0 := σ0) (m := mBegin T top m) ht hF2 h32 hC2 Qb (by omega) (fun τ' h16 hO => h τ' (Or.inr ⟨by rw [es]; rfl, h16, by rw [es]; exact hO⟩))
        exact br_f (by decide) (br_f (by decide) (br_f (by decide) (br_f (by decide) (br_f (by decide) (br_f (by decide) (br_f (by decide) (br_f (by decide) (br_f (by decide) (br_f (by decide) (br_f (by decide) (br_f (by decide) (br_f (by decide) (br_f (by decide) (br_t rfl (B)))))))))))))))
  · refine br_t rfl ?_
    rw [nI_1]
    have es : stp T c top most m = (m.1, m.2.1, (most, m.2.2.1.2), (true, 6, nI n, m.2.2.2.2.2.2)) := by
      unfold stp; rw [hov, if_neg Bool.false_ne_true, if_neg (by omega), hn]; rfl
    have hC1 := hC.kp ht K1
    have hF1 := fr_kp hF K1
    refine h τ1 (Or.inr ⟨by rw [es], h16, ?_⟩)
    rw [es]
    obtain ⟨-, ck, -, ⟨f1, -, -⟩, ⟨g1, -, -, -⟩, e5, e6, e7, e8⟩ := hC1
    have w2 := tb_fr hQ.2.1.1 F1 (f2 (by omega) (by omega))
    have w3 := tb_fr hQ.2.2.1.1 F1 (f2 (by omega) (by omega))
    have w4 := tb_fr hQ.2.2.2.1.1 F1 (f2 (by omega) (by omega))
    exact ⟨hF1, by rw [K1.1.1 52 (SP_f (by omega))]; exact h3, ck, ⟨⟨8, by omega, w3⟩, ⟨m.1.2.1, by have := hQ.2.1.2.1; omega, w2⟩, ⟨1, by omega, f1⟩, ⟨1, by omega, g1⟩, ⟨m.1.2.2, by have := hQ.2.2.2.1.2.1; omega, w4⟩⟩, Q1, e5, e6, e7, e8⟩
/-- all turns -/
theorem turns {a1 a3 : Int32} {K : FS → Int32 → Prop} (ht : 80 ≤ t) (h12 : 12 ≤ kd T top) (hm : most ≤ 3000) (hR : RunR T c cl N top t most σ0 0 m00 τ)
    (h : ∀ τ' x, OutR T c cl top t σ0 (it (stp T c top most) 1000000 m00) τ' → K τ' x) : wp_X3_execute_53 t a1 (nI most) a3 Ψ K FUEL τ 0 := by
  have key : ∀ d i f τ, i + d = 1000000 → d < f → RunR T c cl N top t most σ0 i (it (stp T c top most) i m00) τ ∨ EndR T c cl top t σ0 (it (stp T c top most) i m00) τ → wp_X3_execute_53 t a1 (nI most) a3 Ψ K f τ (nI i) := by
    intro d
    induction d with
    | zero =>
      intro i f τ h1 h2 h3
      have : i = 1000000 := by omega
      subst this
      cases f with
      | zero => omega
      | succ f =>
        unfold wp_X3_execute_53
        refine br_t (by decide) (h τ _ ?_)
        rcases h3 with ⟨hF, h3, hC, hQ, -⟩ | ⟨-, -, hO⟩
        · exact RunR.out hF h3 hC hQ
        · exact hO
    | succ d ih =>
      intro i f τ h1 h2 h3
      cases f with
      | zero => omega
      | succ f =>
        rcases h3 with h3 | ⟨ho, h16, hO⟩
        · exact turn ht h12 (by omega) hm h3 (fun τ' hh => ih (i + 1) f τ' (by omega) (by omega) hh)
        · unfold wp_X3_execute_53
          refine br_f (nI_ge (b := 1000000) (by omega) (by omega)) (br_f (by rw [h16]; decide) (h τ _ ?_))
          have := it_over ho (1000000 - i)
          rw [show i + (1000000 - i) = 1000000 by omega] at this
          rw [this]; exact hO
  exact key 1000000 0 FUEL τ rfl (FUEL_le (by omega)) (Or.inl hR)
end PU
