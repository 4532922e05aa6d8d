section LV
variable {T : TT} {N top n d pn : Nat} {σ τ ρ : FS} {k : Nat} {Φ : Int32 → FS → Prop} {Ψ : FS → Prop} {c : Int32} {ga : SG} {m : MS} {x1 x2 x3 x5 x6 : Int32} {x4 : Int64}
theorem mrg_fr {S : Nat → Bool} (hF : Fr S σ τ) (hs : ∀ a, 88 ≤ a → S a = false) : mrg τ σ = τ := by
  refine Prod.ext ?_ (Prod.ext rfl hF.2.symm)
  funext a j
  show (if a < 88 then τ.1 a j else σ.1 a j) = τ.1 a j
  by_cases h : a < 88
  · rw [if_pos h]
  · rw [if_neg h, hF.1 a (hs a (by omega))]
theorem mrg_self : mrg σ σ = σ := mrg_fr (S := fun _ => false) Fr.rf (fun _ _ => rfl)
theorem mrm_eq (h : ∀ a, 90 ≤ a → τ.1 a = σ.1 a) : mrm τ σ = τ := by
  refine Prod.ext ?_ rfl
  funext a j
  show (if a < 90 then τ.1 a j else σ.1 a j) = τ.1 a j
  by_cases hh : a < 90
  · rw [if_pos hh]
  · rw [if_neg hh, h a (by omega)]
theorem SO_88 : ∀ a, 88 ≤ a → SO a = false := fun a h => SO_f (by omega)
theorem S0_88 : ∀ a, 88 ≤ a → S0 a = false := fun a h => S0_f (by omega)
theorem S80_88 : ∀ a, 88 ≤ a → S80 a = false := fun a h => S80_f (by omega)
/-- what the run told goes into ten places -/
theorem l109 {K : FS → Int32 → Prop} (h : ∀ τ, Fr (fun a => a == 90) σ τ → (∀ j, j < 10 → τ.1 90 j = σ.1 80 j) → K τ 10) : wp_law_109 ga x1 x2 K FUEL σ 0 := by
  have := walk (P := fun i τ => Fr (fun a => a == 90) σ τ ∧ ∀ j, j < i → τ.1 90 j = σ.1 80 j) (W := fun f τ x => wp_law_109 ga x1 x2 K f τ x) (N := 10) (by omega) ?_ ?_ 10 0 FUEL σ rfl (FUEL_le (by omega)) ⟨Fr.rf, fun j hj => absurd hj (by omega)⟩
  · exact this
  · intro i f τ hi ⟨F, hv⟩ go
    show wp_law_109 ga x1 x2 K (f + 1) τ (nI i)
    unfold wp_law_109
    refine br_f (nI_ge (b := 10) hi (by omega)) (ofRun_ok (k := i) (by omega) (nm_e ?_))
    rw [mrg_self]
    refine ⟨q_in hi (by omega), nm_e ?_⟩
    rw [q_A (by omega), nI_1]
    refine go _ ⟨F.put rfl, fun j hj => ?_⟩
    by_cases e : j = i
    · rw [e, q_s]
      unfold vRun
      rw [if_neg (by omega), F.1 80 rfl]
    · rw [q_o e]; exact hv j (by omega)
  · intro f τ ⟨F, hv⟩
    show wp_law_109 ga x1 x2 K (f + 1) τ (nI 10)
    unfold wp_law_109
    exact br_t (by decide) (h τ F hv)
/-- what was printed goes into its places -/
theorem l155 {nu : Nat} {K : FS → Int32 → Prop} (h4 : σ.1 80 4 = nI nu) (hn : nu < 2 ^ 31) (hp : pn = 3 * min nu 50) (h : ∀ τ, Fr (fun a => a == 91) σ τ → (∀ j, j < pn → τ.1 91 j = vPr σ (j / 3) (j % 3)) → K τ (nI pn)) : wp_law_155 ga pn x1 x2 x3 K FUEL σ 0 := by
  have hp2 : pn ≤ 150 := by omega
  have := walk (P := fun i τ => Fr (fun a => a == 91) σ τ ∧ ∀ j, j < i → τ.1 91 j = vPr σ (j / 3) (j % 3)) (W := fun f τ x => wp_law_155 ga pn x1 x2 x3 K f τ x) (N := pn) (by omega) ?_ ?_ pn 0 FUEL σ (by omega) (FUEL_le (by omega)) ⟨Fr.rf, fun j hj => absurd hj (by omega)⟩
  · exact this
  · intro i f τ hi ⟨F, hv⟩ go
    show wp_law_155 ga pn x1 x2 x3 K (f + 1) τ (nI i)
    unfold wp_law_155
    refine br_f (nI_ge (b := pn) hi (by omega)) ?_
    rw [show (3 : Int32) = nI 3 by decide, nI_mod (by omega) (by omega), nI_div (by omega) (by omega)]
    refine printed_ok (nu := nu) (by rw [F.1 80 rfl]; exact h4) hn (by omega) (by omega) (nm_e ?_)
    rw [mrg_self]
    refine ⟨q_in hi (by omega), nm_e ?_⟩
    rw [q_A (by omega), nI_1]
    refine go _ ⟨F.put rfl, fun j hj => ?_⟩
    by_cases e : j = i
    · rw [e, q_s]
      unfold vPr
      rw [F.1 81 rfl, F.1 82 rfl, F.1 83 rfl]
    · rw [q_o e]; exact hv j (by omega)
  · intro f τ ⟨F, hv⟩
    show wp_law_155 ga pn x1 x2 x3 K (f + 1) τ (nI pn)
    unfold wp_law_155
    exact br_t (Int32.le_refl _) (h τ F hv)
/-- the state of the law between its asking -/
def SM (a : Nat) : Bool := SO a || a == 88
theorem SM_f {a : Nat} (h : ¬ ((39 ≤ a ∧ a ≤ 75) ∨ (84 ≤ a ∧ a ≤ 88))) : SM a = false := by
  unfold SM
  rw [SO_f (by omega), Bool.false_or]
  exact beq_false_of_ne (by omega)
def Ph (T : TT) (c : Int32) (top d : Nat) (σ τ : FS) : Prop := Gs T c (top + 1) top τ ∧ Fr SM σ τ ∧ τ.1 88 3 = nI (top + 1) ∧ τ.1 88 2 = nI d
theorem Ph.go (h : Ph T c top d σ τ) (F : Fr SO τ ρ) (G : Gs T c (top + 1) top ρ) : Ph T c top d σ ρ := by
  refine ⟨G, h.2.1.tr (F.mono (fun a ha => ?_)), ?_, ?_⟩
  · unfold SM at ha
    exact (Bool.or_eq_false_iff.mp ha).1
  · rw [F.1 88 (SO_f (by omega))]; exact h.2.2.1
  · rw [F.1 88 (SO_f (by omega))]; exact h.2.2.2
/-- the sum of what begins -/
theorem l383 {l11 x1 x2 x3 x5 : Int32} {x4 : Int64} {K : FS → Int32 → Int32 → Prop} (hG : Ph T c top d σ τ) (h : ∀ ρ, Ph T c top d σ ρ → K ρ (nI (ln T true top + 2)) (nI (top + 1))) : wp_law_383 ga pn l11 x1 x2 x3 x4 x5 (nI (ln T true top + 2)) K FUEL τ 0 0 := by
  have L := L_le (fl := true) hG.1.1.tr
  obtain ⟨A, eA⟩ : ∃ A : Nat → Int32, A = fun i => nI (su (cb T true top (top + 1)) i) := ⟨_, rfl⟩
  have := walk (P := fun _ ρ => Ph T c top d σ ρ) (W := fun f ρ x => wp_law_383 ga pn l11 x1 x2 x3 x4 x5 (nI (ln T true top + 2)) K f ρ x (A x.toNatClampNeg)) (N := ln T true top + 2) (by omega) ?_ ?_ (ln T true top + 2) 0 FUEL τ (by omega) (FUEL_le (by omega)) hG
  · have e0 : A (nI 0).toNatClampNeg = 0 := by rw [eA, nI_clamp (by omega)]; rfl
    rw [e0] at this
    exact this
  · intro i f ρ hi hp go
    show wp_law_383 ga pn l11 x1 x2 x3 x4 x5 (nI (ln T true top + 2)) K (f + 1) ρ (nI i) (A (nI i).toNatClampNeg)
    unfold wp_law_383
    refine br_f (nI_ge hi (by omega)) (code_ok (k := 3) hp.1 hi (by omega) (fun ρ2 F G => nm_e ?_))
    rw [mrg_fr F SO_88, nI_1]
    refine nm_e ?_
    have := go ρ2 (hp.go F G)
    have e : A (nI i).toNatClampNeg + vCode T c top i 3 = A (nI (i + 1)).toNatClampNeg := by
      rw [eA, nI_clamp (by omega), nI_clamp (by omega)]
      show nI (su (cb T true top (top + 1)) i) + vCode T c top i 3 = nI (su (cb T true top (top + 1)) i + cb T true top (top + 1) i)
      rw [← nI_add]
      rfl
    rw [e]
    exact this
  · intro f ρ hp
    show wp_law_383 ga pn l11 x1 x2 x3 x4 x5 (nI (ln T true top + 2)) K (f + 1) ρ (nI (ln T true top + 2)) (A (nI (ln T true top + 2)).toNatClampNeg)
    unfold wp_law_383
    have e : A (nI (ln T true top + 2)).toNatClampNeg = nI (top + 1) := by
      rw [eA, nI_clamp (by omega)]
      show nI (su (cb T true top (top + 1)) (ln T true top + 2)) = nI (top + 1)
      rw [su_cb hp.1.1.tr (top + 1) (Nat.le_refl _)]
    rw [e]
    exact br_t (Int32.le_refl _) (h ρ hp)
/-- what is asked of the code in each round -/
theorem l369 {l11 x21 x3 x30 x46 : Int32} {x40 : Int64} {KJ : FS → Prop} (hG : Ph T c top d σ τ) (h : ∀ ρ, Ph T c top d σ ρ → KJ ρ) : wp_law_369 ga pn l11 x21 x3 x30 x40 x46 KJ τ := by
  have tr := hG.1.1.tr
  have L := L_le (fl := true) tr
  have L2 := L_le (fl := false) tr
  have lm := ln_mono tr.1 top (fun j hj => tr.2.1 j hj)
  unfold wp_law_369
  refine many_ok (k := 10) hG.1 (by omega) (fun τ1 F1 G1 => nm_e ?_)
  rw [mrg_fr F1 SO_88]
  rw [show vMany T (top + 1) top 10 = nI (ln T true top + 2) from rfl]
  refine l383 (hG.go F1 G1) (fun τ2 P2 => br_t P2.2.2.1.symm ?_)
  refine proc_ok (k := 7) P2.1 (by omega) (fun τ3 F3 G3 => nm_e ?_)
  rw [mrg_fr F3 SO_88]
  have P3 := P2.go F3 G3
  refine br_t rfl (many_ok (k := 7) P3.1 (by omega) (fun τ4 F4 G4 => nm_e ?_))
  rw [mrg_fr F4 SO_88]
  have P4 := P3.go F4 G4
  refine with_ok (pv := 7) (fl := true) P4.1 (by omega) f7 (fun τ5 F5 G5 => nm_e ?_)
  rw [mrg_fr F5 SO_88]
  have P5 := P4.go F5 G5
  refine br_t rfl (with_ok (pv := 6) (fl := false) P5.1 (by omega) f6 (fun τ6 F6 G6 => nm_e ?_))
  rw [mrg_fr F6 SO_88]
  have P6 := P5.go F6 G6
  refine with_ok (pv := 7) (fl := true) P6.1 (by omega) f7 (fun τ7 F7 G7 => nm_e ?_)
  rw [mrg_fr F7 SO_88]
  exact br_t (nI_le (by omega) (by omega)) (h τ7 (P6.go F7 G7))
end LV
