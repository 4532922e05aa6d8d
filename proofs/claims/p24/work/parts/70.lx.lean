section LX
variable {T : TT} {N top n d pn : Nat} {σ τ ρ : FS} {k : Nat} {Φ : Int32 → FS → Prop} {Ψ : FS → Prop} {c : Int32} {ga : SG} {m : MS} {x1 x2 x3 x5 x6 : Int32} {x4 : Int64}
theorem Gs.f {S : Nat → Bool} (h : Gs T c N top τ) (F : Fr S τ ρ) (hs : ∀ a, a < 76 → S a = false) : Gs T c N top ρ := by
  obtain ⟨g1, g2, g3, g4, g5, g6, g7⟩ := h
  refine ⟨g1.fr F (fun a h1 h2 => hs a (by omega)), g2, ⟨wt_fr g3.1 F (hs _ (by omega)), wt_fr g3.2.1 F (hs _ (by omega)), wt_fr g3.2.2.1 F (hs _ (by omega)), wt_fr g3.2.2.2.1 F (hs _ (by omega)), wt_fr g3.2.2.2.2 F (hs _ (by omega))⟩, by rw [F.1 0 (hs _ (by omega))]; exact g4, by rw [F.1 34 (hs _ (by omega))]; exact g5, fun fl a1 a2 => ?_, fun a1 => ?_⟩
  · rw [F.1 39 (hs _ (by omega))] at a1 a2
    exact CK_frb (g6 fl a1 a2) F (fun a a3 a4 => hs a (by omega))
  · rw [F.1 52 (hs _ (by omega))] at a1
    exact CK_frb (g7 a1) F (fun a a3 a4 => hs a (by omega))
theorem Ph.draw {v : Int32} (h : Ph T c top d σ τ) (hv : v = nI n) : Ph T c top n σ (sF τ 88 2 v) := by
  have F : Fr (fun a => a == 88) τ (sF τ 88 2 v) := Fr.rf.put rfl
  refine ⟨h.1.f F (fun a ha => beq_false_of_ne (by omega)), h.2.1.tr (F.mono (fun a ha => ?_)), ?_, ?_⟩
  · unfold SM at ha
    exact (Bool.or_eq_false_iff.mp ha).2
  · rw [q_o (by omega)]; exact h.2.2.1
  · rw [q_s]; exact hv
/-- what the run told, and what it printed, lie in the law's own rows -/
def Told (T : TT) (c : Int32) (top pn : Nat) (σ : FS) : Prop := (∀ j, j < 10 → σ.1 90 j = ansF (clOf 7) (fin T c top 1000) j) ∧ pn = 3 * min (gnu (fin T c top 1000)) 50 ∧ ∀ i, i < min (gnu (fin T c top 1000)) 50 → σ.1 91 (3 * i + 1) = gp1 (fin T c top 1000) i
theorem told_g (hT : Told T c top pn σ) (hp : Ph T c top d σ τ) {j : Nat} (hj : j < 10) : g τ 90 (nI j) = ansF (clOf 7) (fin T c top 1000) j := by
  rw [q_I (by omega), hp.2.1.1 90 (SM_f (by omega))]; exact hT.1 j hj
theorem told_p (hT : Told T c top pn σ) (hp : Ph T c top d σ τ) {i : Nat} (hi : i < min (gnu (fin T c top 1000)) 50) : g τ 91 (nI (3 * i + 1)) = gp1 (fin T c top 1000) i := by
  rw [q_I (by omega), hp.2.1.1 91 (SM_f (by omega))]; exact hT.2.2 i hi
/-- with more steps -/
theorem l224 {mo : Nat} {l11 x2 x3 : Int32} {x4 : Int64} {K : FS → Int32 → Prop} (hT : Told T c top pn σ) (hp : Ph T c top d σ τ) (h1 : gst (fin T c top 1000) < mo) (hm : mo ≤ 3000) (h : ∀ ρ, Ph T c top d σ ρ → K ρ 10) : wp_law_224 ga pn l11 (ansF (clOf 7) (fin T c top 1000) 0) x2 x3 x4 (nI mo) K FUEL τ 0 := by
  have := walk (P := fun _ ρ => Ph T c top d σ ρ) (W := fun f ρ x => wp_law_224 ga pn l11 (ansF (clOf 7) (fin T c top 1000) 0) x2 x3 x4 (nI mo) K f ρ x) (N := 10) (by omega) ?_ ?_ 10 0 FUEL τ rfl (FUEL_le (by omega)) hp
  · exact this
  · intro i f ρ hi hp go
    show wp_law_224 ga pn l11 (ansF (clOf 7) (fin T c top 1000) 0) x2 x3 x4 (nI mo) K (f + 1) ρ (nI i)
    unfold wp_law_224
    refine br_f (nI_ge (b := 10) hi (by omega)) (wouldRun_ok hp.1 (by omega) hm (by omega) (fun ρ2 F G => nm_e ?_))
    rw [mrg_fr F SO_88, nI_1]
    have P2 := hp.go F G
    refine ⟨q_in hi (by omega), ?_⟩
    rw [told_g hT P2 hi]
    have := go ρ2 P2
    by_cases h6 : (fin T c top 1000).2.2.2.2.1 = 6
    · refine ⟨fun _ => this, fun _ => br_t ?_ this⟩
      show nI (fin T c top 1000).2.2.2.2.1 = 6
      rw [h6]; rfl
    · rw [fin_more (a := 1000) (b := mo) h6 h1]
      exact br_t rfl this
  · intro f ρ hp
    show wp_law_224 ga pn l11 (ansF (clOf 7) (fin T c top 1000) 0) x2 x3 x4 (nI mo) K (f + 1) ρ (nI 10)
    unfold wp_law_224
    exact br_t (by decide) (h ρ hp)
theorem e3p (w : Nat) : (3 : Int32) * nI w + 1 = nI (3 * w + 1) := by rw [show (3 : Int32) = nI 3 by decide, nI_mul, nI_1]
theorem e3m {w : Nat} (h : 0 < w) : (3 : Int32) * nI w - 2 = nI (3 * (w - 1) + 1) := by
  rw [show (3 : Int32) = nI 3 by decide, nI_mul, show (2 : Int32) = nI 2 by decide, nI_sub (by omega)]
  exact congrArg nI (by omega)
/-- the rounds -/
theorem l195 {x2 : Int32} {x4 : Int64} {K : FS → Int32 → Prop} (hga : ga.2.1 < 2 ^ 31) (hT : Told T c top pn σ) (hp : Ph T c top d σ τ) (hd : d + 8 < 2 ^ 20) (h : ∀ d' ρ, d' ≤ d + 4 → Ph T c top d' σ ρ → K ρ 4) :
    wp_law_195 ga pn (ansF (clOf 7) (fin T c top 1000) 0) x2 (nI (min (gnu (fin T c top 1000)) 50)) x4 K FUEL τ 0 := by
  have fs := fin_st (T := T) (c := c) (top := top) (most := 1000)
  have := walk (P := fun i ρ => ∃ d', d' ≤ d + i ∧ Ph T c top d' σ ρ) (W := fun f ρ x => wp_law_195 ga pn (ansF (clOf 7) (fin T c top 1000) 0) x2 (nI (min (gnu (fin T c top 1000)) 50)) x4 K f ρ x) (N := 4) (by omega) ?_ ?_ 4 0 FUEL τ rfl (FUEL_le (by omega)) ⟨d, Nat.le_refl _, hp⟩
  · exact this
  · intro i f ρ hi ⟨d', hd', hp⟩ go
    show wp_law_195 ga pn (ansF (clOf 7) (fin T c top 1000) 0) x2 (nI (min (gnu (fin T c top 1000)) 50)) x4 K (f + 1) ρ (nI i)
    unfold wp_law_195
    refine br_f (nI_ge (b := 4) hi (by omega)) (draw_ok (m := 3000) (d := d') hga (by omega) (by omega) hp.2.2.2 (by omega) (fun v hv => nm_e (nm_e ?_)))
    rw [mrm_eq (fun a ha => q_n (by omega)), nI_1, Int32.add_comm 1 (nI v), nI_1]
    have P1 : Ph T c top (d' + 1) σ (sF ρ 88 2 (nI (d' + 1))) := hp.draw rfl
    obtain ⟨ρ1, e1⟩ : ∃ z, z = sF ρ 88 2 (nI (d' + 1)) := ⟨_, rfl⟩
    rw [← e1] at P1 ⊢
    have G3 : g ρ1 90 3 = nI (gst (fin T c top 1000)) := told_g hT P1 (j := 3) (by omega)
    have J : ∀ ρ2, Ph T c top (d' + 1) σ ρ2 → wp_law_369 ga pn (nI i) (ansF (clOf 7) (fin T c top 1000) 0) x2 (nI (min (gnu (fin T c top 1000)) 50)) x4 (nI (v + 1)) (fun (σk : FS) => wp_law_195 ga pn (ansF (clOf 7) (fin T c top 1000) 0) x2 (nI (min (gnu (fin T c top 1000)) 50)) x4 K f σk (nI (i + 1))) ρ2 := fun ρ2 P2 =>
      l369 P2 (fun ρ3 P3 => go ρ3 ⟨d' + 1, by omega, P3⟩)
    rw [G3]
    by_cases hle : v + 1 ≤ gst (fin T c top 1000)
    · refine br_t (nI_le hle (by omega)) ?_
      by_cases hge : gst (fin T c top 1000) ≤ v + 1
      · exact br_t (nI_le hge (by omega)) (J ρ1 P1)
      · refine br_f (nI_ge (by omega) (by omega)) (wouldRun_ok (k := 4) P1.1 (by omega) (by omega) (by omega) (fun ρ2 F2 G2 => nm_e ?_))
        rw [mrg_fr F2 SO_88]
        have P2 := P1.go F2 G2
        refine wouldRun_ok (k := 0) P2.1 (by omega) (by omega) (by omega) (fun ρ3 F3 G3' => nm_e ?_)
        rw [mrg_fr F3 SO_88]
        have P3 := P2.go F3 G3'
        obtain ⟨f1, f2, f3, f4, f5⟩ := fin_less (T := T) (c := c) (top := top) (a := 1000) (b := v + 1) (by omega)
        refine br_t (show nI (fin T c top (v + 1)).2.2.2.2.1 = 6 by rw [f1]; rfl) (wouldRun_ok (k := 3) P3.1 (by omega) (by omega) (by omega) (fun ρ4 F4 G4 => nm_e ?_))
        rw [mrg_fr F4 SO_88]
        have P4 := P3.go F4 G4
        refine br_t (show nI (gst (fin T c top (v + 1))) = nI (v + 1) by rw [f2]) ?_
        rw [show ansF (clOf 7) (fin T c top (v + 1)) 4 = nI (gnu (fin T c top (v + 1))) from rfl]
        rw [show g ρ4 90 4 = nI (gnu (fin T c top 1000)) from told_g hT P4 (j := 4) (by omega)]
        obtain ⟨w, ew⟩ : ∃ w, w = gnu (fin T c top (v + 1)) := ⟨_, rfl⟩
        obtain ⟨nu, en⟩ : ∃ nu, nu = gnu (fin T c top 1000) := ⟨_, rfl⟩
        have tp : ∀ j, j < min nu 50 → g ρ4 91 (nI (3 * j + 1)) = gp1 (fin T c top 1000) j := fun j hj => told_p hT P4 (by rw [← en]; exact hj)
        have hpn : pn = 3 * min nu 50 := by rw [en]; exact hT.2.1
        rw [← ew] at f3 f4 f5 ⊢
        rw [← en] at f3 f5
        have hnu : nu ≤ 1000000 := by rw [en]; exact fs.2.2
        rw [← en] at J ⊢
        have JJ := J ρ4 P4
        have AA : ((nI (min nu 50) ≤ nI w → wp_law_369 ga pn (nI i) (ansF (clOf 7) (fin T c top 1000) 0) x2 (nI (min nu 50)) x4 (nI (v + 1)) (fun (σk : FS) => wp_law_195 ga pn (ansF (clOf 7) (fin T c top 1000) 0) x2 (nI (min nu 50)) x4 K f σk (nI (i + 1))) ρ4) ∧ (¬ (nI (min nu 50) ≤ nI w) → vp_in ((3 * nI w) + 1) pn ∧ (((nI (v + 1) < (g ρ4 91 ((3 * nI w) + 1)) → wp_law_369 ga pn (nI i) (ansF (clOf 7) (fin T c top 1000) 0) x2 (nI (min nu 50)) x4 (nI (v + 1)) (fun (σk : FS) => wp_law_195 ga pn (ansF (clOf 7) (fin T c top 1000) 0) x2 (nI (min nu 50)) x4 K f σk (nI (i + 1))) ρ4) ∧ (¬ (nI (v + 1) < (g ρ4 91 ((3 * nI w) + 1))) → False))))) := by
          by_cases ho : min nu 50 ≤ w
          · exact br_t (nI_le ho (by omega)) JJ
          · refine br_f (nI_ge (by omega) (by omega)) ?_
            rw [e3p]
            refine ⟨q_in (by omega) (by omega), ?_⟩
            obtain ⟨s, s1, s2, s3⟩ := f5 w rfl (by omega) (by omega)
            rw [tp w (by omega), s1]
            exact br_t (nI_lt s2 (by omega)) JJ
        refine br_f (nI_nlt f3 (by omega)) ?_
        by_cases w0 : w = 0
        · rw [w0] at AA ⊢
          exact br_t (by decide) AA
        · refine br_f (nI_nle (by omega) (by omega)) ?_
          by_cases ho : min nu 50 < w
          · exact br_t (nI_lt ho (by omega)) AA
          · refine br_f (nI_nlt (by omega) (by omega)) ?_
            rw [e3m (by omega)]
            refine ⟨q_in (by omega) (by omega), ?_⟩
            obtain ⟨s, s1, s2⟩ := f4 (w - 1) (by omega) (by omega)
            rw [tp (w - 1) (by omega), s1]
            exact br_f (nI_nlt s2 (by omega)) AA
    · refine br_f (nI_ge (by omega) (by omega)) (l224 hT P1 (by omega) (by omega) (fun ρ2 P2 => J ρ2 P2))
  · intro f ρ ⟨d', hd', hp⟩
    show wp_law_195 ga pn (ansF (clOf 7) (fin T c top 1000) 0) x2 (nI (min (gnu (fin T c top 1000)) 50)) x4 K (f + 1) ρ (nI 4)
    unfold wp_law_195
    exact br_t (by decide) (h d' ρ hd' hp)
end LX
