section LY
variable {T : TT} {N top n d pn nu : Nat} {σ τ ρ : FS} {k : Nat} {c : Int32} {ga : SG} {x1 x2 x3 x5 x6 : Int32} {x4 : Int64}
theorem l495 {K : FS → Int32 → Prop} (hv : ∀ j, j < 10 → σ.1 80 j = σ.1 90 j) (hk : K σ 10) : wp_law_495 ga pn x1 x2 x3 x4 K FUEL σ 0 := by
  have := walk (P := fun _ ρ => ρ = σ) (W := fun f ρ x => wp_law_495 ga pn x1 x2 x3 x4 K f ρ x) (N := 10) (by omega) ?_ ?_ 10 0 FUEL σ rfl (FUEL_le (by omega)) rfl
  · exact this
  · intro i f ρ hi e go
    rw [e]
    show wp_law_495 ga pn x1 x2 x3 x4 K (f + 1) σ (nI i)
    unfold wp_law_495
    refine br_f (nI_ge (b := 10) hi (by omega)) (ofRun_ok (k := i) (by omega) (nm_e ?_))
    rw [mrg_self, nI_1]
    refine ⟨q_in hi (by omega), br_t ?_ (go σ rfl)⟩
    rw [q_I (by omega)]
    unfold vRun
    rw [if_neg (by omega)]; exact hv i hi
  · intro f ρ e
    rw [e]
    show wp_law_495 ga pn x1 x2 x3 x4 K (f + 1) σ (nI 10)
    unfold wp_law_495
    exact br_t (by decide) hk
theorem l527 {K : FS → Int32 → Prop} (h4 : σ.1 80 4 = nI nu) (hn : nu < 2 ^ 31) (hp : pn = 3 * min nu 50) (hv : ∀ j, j < pn → vPr σ (j / 3) (j % 3) = σ.1 91 j) (hk : K σ (nI pn)) : wp_law_527 ga pn x1 x2 x3 x4 K FUEL σ 0 := by
  have := walk (P := fun _ ρ => ρ = σ) (W := fun f ρ x => wp_law_527 ga pn x1 x2 x3 x4 K f ρ x) (N := pn) (by omega) ?_ ?_ pn 0 FUEL σ (by omega) (FUEL_le (by omega)) rfl
  · exact this
  · intro i f ρ hi e go
    rw [e]
    show wp_law_527 ga pn x1 x2 x3 x4 K (f + 1) σ (nI i)
    unfold wp_law_527
    refine br_f (nI_ge (b := pn) hi (by omega)) ?_
    rw [show (3 : Int32) = nI 3 by decide, nI_mod (by omega) (by omega), nI_div (by omega) (by omega)]
    refine printed_ok (nu := nu) h4 hn (by omega) (by omega) (nm_e ?_)
    rw [mrg_self, nI_1]
    refine ⟨q_in hi (by omega), br_t ?_ (go σ rfl)⟩
    rw [q_I (by omega)]; exact hv i hi
  · intro f ρ e
    rw [e]
    show wp_law_527 ga pn x1 x2 x3 x4 K (f + 1) σ (nI pn)
    unfold wp_law_527
    exact br_t (Int32.le_refl _) hk
theorem l576 {K : FS → Int32 → Int32 → Prop} {y1 y2 y3 y4 : Int32} {y5 : Int64} (hG : Gs T c (top + 1) top σ) (h3 : σ.1 88 3 = nI (top + 1)) (hk : K σ (nI (top + 1)) (nI (cF T (iT top) (top + 1)))) : wp_law_576 ga pn y1 y2 y3 y4 y5 K FUEL σ 0 0 := by
  have hN := hG.1.1.2.1
  obtain ⟨A, eA⟩ : ∃ A : Nat → Int32, A = fun i => nI (ct (fun k => iT top k && (fw T k).1) i) := ⟨_, rfl⟩
  have := walk (P := fun _ ρ => ρ = σ) (W := fun f ρ x => wp_law_576 ga pn y1 y2 y3 y4 y5 K f ρ x (A x.toNatClampNeg)) (N := top + 1) (by omega) ?_ ?_ (top + 1) 0 FUEL σ (by omega) (FUEL_le (by omega)) rfl
  · have e0 : A (nI 0).toNatClampNeg = 0 := by rw [eA, nI_clamp (by omega)]; rfl
    rw [e0] at this
    exact this
  · intro i f ρ hi e go
    rw [e]
    show wp_law_576 ga pn y1 y2 y3 y4 y5 K (f + 1) σ (nI i) (A (nI i).toNatClampNeg)
    unfold wp_law_576
    rw [h3]
    refine br_f (nI_ge hi (by omega)) (ofNode_ok (k := 4) hG hi (by omega) (by omega) (nm_e ?_))
    rw [mrg_self]
    refine br_t (show (if iT top i then (0 : Int32) else -1) = 0 by rw [iT_t (by omega)]; rfl) (ofNode_ok (k := 5) hG hi (by omega) (by omega) (nm_e ?_))
    rw [mrg_self, nI_1]
    refine nm_e ?_
    have ee : A (nI i).toNatClampNeg + vNode T top i 5 = A (nI (i + 1)).toNatClampNeg := by
      rw [eA, nI_clamp (by omega), nI_clamp (by omega)]
      show nI (ct (fun k => iT top k && (fw T k).1) i) + fB (fw T i).1 = nI (ct (fun k => iT top k && (fw T k).1) i + (if (iT top i && (fw T i).1) = true then 1 else 0))
      rw [iT_t (show i ≤ top by omega), Bool.true_and, ← nI_add]
      cases (fw T i).1 <;> rfl
    rw [ee]
    exact go σ rfl
  · intro f ρ e
    rw [e]
    show wp_law_576 ga pn y1 y2 y3 y4 y5 K (f + 1) σ (nI (top + 1)) (A (nI (top + 1)).toNatClampNeg)
    unfold wp_law_576
    rw [h3, eA, nI_clamp (by omega)]
    exact br_t (Int32.le_refl _) hk
theorem l722 {K : FS → Int32 → Prop} {y1 y2 y4 y5 y6 : Int32} {y7 : Int64} (hL : Lo T c top σ) (hk : K σ (nI (top + 1))) : wp_law_722 ga pn y1 y2 (nI (top + 1)) y4 y5 y6 y7 K FUEL σ 0 := by
  have hN := hL.1.1.2.1
  have := walk (P := fun _ ρ => ρ = σ) (W := fun f ρ x => wp_law_722 ga pn y1 y2 (nI (top + 1)) y4 y5 y6 y7 K f ρ x) (N := top + 1) (by omega) ?_ ?_ (top + 1) 0 FUEL σ (by omega) (FUEL_le (by omega)) rfl
  · exact this
  · intro i f ρ hi e go
    rw [e]
    show wp_law_722 ga pn y1 y2 (nI (top + 1)) y4 y5 y6 y7 K (f + 1) σ (nI i)
    unfold wp_law_722
    refine br_f (nI_ge hi (by omega)) ((node_o hL (show i ≤ top by omega) (nm_e ?_)).1)
    rw [mrg_self]
    refine br_t rfl ((node_o hL (show i ≤ top by omega) (nm_e ?_)).2)
    rw [mrg_self, nI_1]
    exact br_t rfl (go σ rfl)
  · intro f ρ e
    rw [e]
    show wp_law_722 ga pn y1 y2 (nI (top + 1)) y4 y5 y6 y7 K (f + 1) σ (nI (top + 1))
    unfold wp_law_722
    exact br_t (Int32.le_refl _) hk
theorem mi_ok {a : Nat} (h : a < 2 ^ 31) : mi 50 (nI a) = nI (min a 50) := by
  unfold mi
  by_cases e : a < 50
  · rw [if_pos (show nI a < 50 from nI_lt (b := 50) e (by omega)), show min a 50 = a by omega]
  · rw [if_neg (show ¬ nI a < 50 from nI_nlt (a := a) (b := 50) (by omega) (by omega)), show min a 50 = 50 by omega]; rfl
/-- what is printed, by the run -/
theorem vPr_q {m : MS} {i : Nat} (hq : Q5m 80 m σ) (hi : i < gnu m) (h50 : i < 50) (k : Nat) : vPr σ i k = if k = 0 then m.2.2.1.2.2.1 i else if k = 1 then m.2.2.1.2.2.2.1 i else m.2.2.1.2.2.2.2 i := by
  obtain ⟨e0, e1, e2⟩ := hq.2.2.1 i hi h50
  unfold vPr
  rw [show σ.1 81 i = m.2.2.1.2.2.1 i from e0, show σ.1 82 i = m.2.2.1.2.2.2.1 i from e1, show σ.1 83 i = m.2.2.1.2.2.2.2 i from e2]
theorem sit_gs (hS : Sit T c N top σ) (hG : Gs T c N top τ) (e18 : τ.1 18 = σ.1 18) : Sit T c N top τ := by
  obtain ⟨-, -, -, -, h5, -, -, h8⟩ := hS
  exact ⟨hG.1.1, hG.1.2.1, hG.2.2.1, hG.2.2.2.1.2, h5, hG.1.2.2.2.2.2.2.1, hG.1.2.2.2.2.2.2.2, by rw [e18]; exact h8⟩
theorem bd_e {b : Option Nat} (hB : Bd N b σ) (e7 : τ.1 7 = σ.1 7) (e19 : τ.1 19 = σ.1 19) : Bd N b τ := by
  unfold Bd
  rw [e7, e19]; exact hB
end LY
