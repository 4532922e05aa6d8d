section PD
variable {T : TT} {N : Nat} {σ τ : FS} {k : Nat} {Φ : Int32 → FS → Prop} {Ψ : FS → Prop} {c : Int32} {inn lp : Nat → Bool}
theorem isInLoop_0 (hk : k < 110) (h18 : σ.1 18 k = -1) (h : Φ 0 σ) : wp_X4_isInLoop σ (nI k) Φ := by
  unfold wp_X4_isInLoop
  refine ⟨q_in hk (by omega), nm_e ?_⟩
  rw [q_I (by omega), h18, FUEL_s]
  unfold wp_X4_isInLoop_12
  exact br_f (by decide) (br_t rfl h)
def lv (T : TT) (inn lp : Nat → Bool) (k : Nat) : Int32 := if kd T k = 17 ∧ inn k = true ∧ lp k = true then 0 else -1
/-- a BREAK that is in MAIN has its LOOP, or stands alone -/
def Br (T : TT) (N : Nat) (inn lp : Nat → Bool) (σ : FS) : Prop := ∀ k, k < N → kd T k = 17 → inn k = true → (lp k = true ∧ k + 8 < N ∧ lpd T σ k) ∨ (lp k = false ∧ σ.1 18 k = -1)
theorem hopsToLoop_ok (hP : Pg T N σ) (hk : k < N) (hD : σ.1 2 0 = -1) (h21 : σ.1 21 k = if inn k then 0 else -1) (h17 : kd T k = 17) (hB : inn k = true → (lp k = true ∧ k + 8 < N ∧ lpd T σ k) ∨ (lp k = false ∧ σ.1 18 k = -1)) (h : Φ (lv T inn lp k) σ) : wp_X4_hopsToLoop σ (nI k) Φ := by
  have hN := hP.2.1
  unfold lv at h
  unfold wp_X4_hopsToLoop
  refine ⟨q_in (by omega) (by omega), ?_⟩
  rw [q_I (by omega), h21]
  cases hi : inn k with
  | false =>
    rw [hi, if_neg (fun q => by cases q.2.1)] at h
    exact br_t rfl h
  | true =>
    refine br_f (by decide) ?_
    rcases hB hi with ⟨hl, hk8, hd⟩ | ⟨hl, hd⟩
    · rw [if_pos ⟨h17, hi, hl⟩] at h
      exact isInLoop_1 hP hk8 hd (br_f (by decide) h)
    · rw [if_neg (fun q => by rw [hl] at q; cases q.2.2)] at h
      refine isInLoop_0 (by omega) hd (br_t rfl ⟨q_in (by omega) (by omega), ?_, nm_e ?_⟩)
      · rw [q_I (by omega), h21, hi]; exact z10
      · rw [q_I (by omega), h21, hi, if_pos rfl, show g σ 2 0 = σ.1 2 0 by rw [i0, q_I (by omega)], hD, FUEL_s]
        unfold wp_X4_hopsToLoop_39
        exact br_f (by decide) (br_t rfl h)
def S7 (a : Nat) : Bool := a == 28 || a == 29 || a == 30
theorem S7_f {a : Nat} (h1 : a ≠ 28) (h2 : a ≠ 29) (h3 : a ≠ 30) : S7 a = false := by unfold S7; rw [beq_false_of_ne h1, beq_false_of_ne h2, beq_false_of_ne h3]; rfl
theorem find47 (hP : Pg T N σ) (hD : σ.1 2 0 = -1) (h21 : ∀ k, k < N → σ.1 21 k = if inn k then 0 else -1) (hB : Br T N inn lp σ)
    {K : FS → Int32 → Prop} (h : ∀ τ, Fr S7 σ τ → (∀ k, k < N → τ.1 28 k = 0 ∧ τ.1 29 k = 0 ∧ τ.1 30 k = lv T inn lp k) → K τ (nI N)) : wp_X4_find_47 Ψ K FUEL σ 0 := by
  have hN := hP.2.1
  have := walk (P := fun i τ => Fr S7 σ τ ∧ (∀ k, k < i → τ.1 28 k = 0 ∧ τ.1 29 k = 0 ∧ τ.1 30 k = lv T inn lp k)) (W := fun f τ i => wp_X4_find_47 Ψ K f τ i) (N := N) (by omega) ?_ ?_ N 0 FUEL σ (by omega) (FUEL_le (by omega)) ⟨Fr.rf, fun k hk => absurd hk (by omega)⟩
  · rw [i0]; exact this
  · intro i f τ hi ⟨hF, hk⟩ go
    have hPt : Pg T N τ := hP.fr hF (fun k h1 h2 => S7_f (by omega) (by omega) (by omega))
    have hm := (hPt.2.2.2 i hi).1
    have hw := (hPt.2.2.2 i hi).2
    have hin := q_in (show i < 110 by omega) (show 110 < 2 ^ 31 by omega)
    have h31 : i < 2 ^ 31 := by omega
    unfold wp_X4_find_47
    rw [hPt.1]
    refine br_f (nI_ge hi (by omega)) (isTail_0 (by omega) hm hw ⟨hin, Or.inl rfl, nm_e ⟨hin, nm_e ⟨hin, ?_⟩⟩⟩)
    rw [q_A h31, q_A h31, q_I h31, q_n (by omega), q_n (by omega), hm.1, ← nI_succ]
    have fin : wp_X4_find_47 Ψ K f (sF (sF (sF τ 28 i 0) 29 i 0) 30 i (lv T inn lp i)) (nI (i + 1)) := by
      refine go _ ⟨((hF.put rfl).put rfl).put rfl, fun j hj => ?_⟩
      by_cases hji : j = i
      · rw [hji]
        exact ⟨by rw [q_n (by omega), q_n (by omega), q_s], by rw [q_n (by omega), q_s], by rw [q_s]⟩
      · obtain ⟨a, b, d⟩ := hk j (by omega)
        exact ⟨by rw [q_n (by omega), q_n (by omega), q_o hji]; exact a, by rw [q_n (by omega), q_o hji, q_n (by omega)]; exact b, by rw [q_o hji, q_n (by omega), q_n (by omega)]; exact d⟩
    by_cases h17 : kd T i = 17
    · have F2 : Fr S7 τ (sF (sF τ 28 i 0) 29 i 0) := (Fr.rf.put rfl).put rfl
      refine br_t (by rw [h17]; rfl) (hopsToLoop_ok (T := T) (N := N) (inn := inn) (lp := lp) (hPt.fr F2 (fun k h1 h2 => S7_f (by omega) (by omega) (by omega))) hi ?_ ?_ h17 (fun hi2 => ?_) ⟨hin, nm_e ?_⟩)
      · rw [F2.1 2 rfl, hF.1 2 rfl]; exact hD
      · rw [F2.1 21 rfl, hF.1 21 rfl]; exact h21 i hi
      · have e18 : (sF (sF τ 28 i 0) 29 i 0).1 18 = σ.1 18 := by rw [F2.1 18 rfl, hF.1 18 rfl]
        unfold lpd
        rw [e18]
        exact hB i hi h17 hi2
      · rw [q_A h31]; exact fin
    · refine br_f (kd_ne (v := 17) hw.lt (by omega) h17) ⟨hin, nm_e ?_⟩
      rw [q_A h31]
      have e : lv T inn lp i = -1 := if_neg (fun q => h17 q.1)
      rw [e] at fin
      exact fin
  · intro f τ ⟨hF, hk⟩
    have hPt : Pg T N τ := hP.fr hF (fun k h1 h2 => S7_f (by omega) (by omega) (by omega))
    show wp_X4_find_47 Ψ K (f + 1) τ (nI N)
    unfold wp_X4_find_47
    rw [hPt.1]
    exact br_t (nI_le (Nat.le_refl N) (by omega)) (h τ hF hk)
theorem findModes_ok (hP : Pg T N σ) (h : Ψ σ) : wp_X4_findModes σ Ψ := by
  have hN := hP.2.1
  unfold wp_X4_findModes
  have := walk (P := fun _ ρ => ρ = σ) (W := fun f τ i => wp_X4_findModes_2 Ψ (fun (σ6 : FS) (_ : Int32) => Ψ σ6) f τ i) (N := N) (by omega) ?_ ?_ N 0 FUEL σ (by omega) (FUEL_le (by omega)) rfl
  · rw [i0]; exact this
  · intro i f ρ hi e go
    rw [e]
    have hm := (hP.2.2.2 i hi).1
    have hw := (hP.2.2.2 i hi).2
    unfold wp_X4_findModes_2
    rw [hP.1, ← nI_succ, q_I (by omega), hm.1]
    exact br_f (nI_ge hi (by omega)) ⟨q_in (by omega) (by omega), br_f (kd_ne (v := 8) hw.lt (by omega) (okK_ne hw.1 rfl)) (go σ rfl)⟩
  · intro f ρ e
    show wp_X4_findModes_2 _ _ (f + 1) ρ (nI N)
    rw [e]
    unfold wp_X4_findModes_2
    rw [hP.1]
    exact br_t (nI_le (Nat.le_refl N) (by omega)) h
/-- how many are there below n -/
def ct (p : Nat → Bool) : Nat → Nat
  | 0 => 0
  | n + 1 => ct p n + (if p n then 1 else 0)
theorem ct_le (p : Nat → Bool) : ∀ n, ct p n ≤ n := by
  intro n
  induction n with
  | zero => exact Nat.le_refl 0
  | succ n ih => unfold ct; split <;> omega
theorem bitCount_0 (h : Φ 0 σ) : wp_J6_bitCount_0f7a4 σ 0 Φ := by
  unfold wp_J6_bitCount_0f7a4
  intro x1 e1 x2 e2 x3 e3 x4 e4 x5 e5 x6 e6 x7 e7 x8 e8 x9 e9 x10 e10
  subst e1; subst e2; subst e3; subst e4; subst e5; subst e6; subst e7; subst e8; subst e9; subst e10
  exact h
def cN (inn : Nat → Bool) (N : Nat) : Nat := ct (fun k => !inn k) N
def cF (T : TT) (inn : Nat → Bool) (N : Nat) : Nat := ct (fun k => inn k && (fw T k).1) N
theorem sumUp_ok (hP : Pg T N σ) (hp : σ.1 1 0 = 1) (h33 : σ.1 33 0 = 0) (h21 : ∀ k, k < N → σ.1 21 k = if inn k then 0 else -1) (hz : ∀ k, k < N → σ.1 26 k = fB (fw T k).1 ∧ σ.1 28 k = 0)
    (h : ∀ τ, Fr (fun a => a == 20) σ τ → τ.1 20 15 = nI (cN inn N) → τ.1 20 16 = nI (cF T inn N) → τ.1 20 17 = 0 → τ.1 20 18 = 0 → Ψ τ) : wp_X4_sumUp σ Ψ := by
  have hN := hP.2.1
  unfold wp_X4_sumUp
  refine nm_e (nm_e (nm_e (nm_e ?_)))
  have F0 : Fr (fun a => a == 20) σ (sF (sF (sF (sF σ 20 15 0) 20 16 0) 20 17 0) 20 18 0) := (((Fr.rf.put rfl).put rfl).put rfl).put rfl
  have := walk (P := fun i τ => Fr (fun a => a == 20) σ τ ∧ τ.1 20 15 = nI (cN inn i) ∧ τ.1 20 16 = nI (cF T inn i) ∧ τ.1 20 17 = 0 ∧ τ.1 20 18 = 0) (W := fun f τ i => wp_X4_sumUp_22 Ψ (fun (σ12 : FS) (_ : Int32) => wp_X4_sumUp_110 Ψ (fun (σ17 : FS) (_ : Int32) => Ψ σ17) FUEL σ12 0) f τ i) (N := N) (by omega) ?_ ?_ N 0 FUEL (sF (sF (sF (sF σ 20 15 0) 20 16 0) 20 17 0) 20 18 0) (by omega) (FUEL_le (by omega)) ⟨F0, rfl, rfl, rfl, rfl⟩
  · rw [i0]; exact this
  · intro i f τ hi ⟨hF, a, b, d, e⟩ go
    have hPt : Pg T N τ := hP.fr hF (fun k h1 h2 => beq_false_of_ne (by omega))
    have hin := q_in (show i < 110 by omega) (show 110 < 2 ^ 31 by omega)
    have h31 : i < 2 ^ 31 := by omega
    unfold wp_X4_sumUp_22
    simp only [q_I h31]
    rw [hPt.1, ← nI_succ, hF.1 21 rfl, h21 i hi, hF.1 26 rfl, (hz i hi).1]
    refine br_f (nI_ge hi (by omega)) ⟨hin, ?_⟩
    cases hi2 : inn i with
    | false =>
      refine br_t rfl (nm_e (go _ ⟨hF.put rfl, ?_, ?_, ?_, ?_⟩))
      · rw [q_s, a, nI_1]; unfold cN; rw [ct, hi2]; rfl
      · rw [q_o (by omega), b]; unfold cF; rw [ct, hi2]; rfl
      · rw [q_o (by omega)]; exact d
      · rw [q_o (by omega)]; exact e
    | true =>
      refine br_f (by decide) ⟨hin, ?_⟩
      cases hf : (fw T i).1 with
      | false =>
        refine br_t rfl (nm_e ⟨hin, ?_⟩)
        rw [q_n (by omega), hF.1 28 rfl, (hz i hi).2]
        refine br_t rfl (nm_e (go _ ⟨(hF.put rfl).put rfl, ?_, ?_, ?_, ?_⟩))
        · rw [q_o (by omega), q_o (by omega), a]; unfold cN; rw [ct, hi2]; rfl
        · rw [q_o (by omega), q_s, b]; unfold cF; rw [ct, hi2, hf, Int32.add_zero]; rfl
        · rw [q_s, q_o (by omega), d]; rfl
        · rw [q_o (by omega), q_o (by omega)]; exact e
      | true =>
        refine br_f (by decide) (nm_e ⟨hin, ?_⟩)
        rw [q_n (by omega), hF.1 28 rfl, (hz i hi).2]
        refine br_t rfl (nm_e (go _ ⟨(hF.put rfl).put rfl, ?_, ?_, ?_, ?_⟩))
        · rw [q_o (by omega), q_o (by omega), a]; unfold cN; rw [ct, hi2]; rfl
        · rw [q_o (by omega), q_s, b, nI_1]; unfold cF; rw [ct, hi2, hf]; rfl
        · rw [q_s, q_o (by omega), d]; rfl
        · rw [q_o (by omega), q_o (by omega)]; exact e
  · intro f τ ⟨hF, a, b, d, e⟩
    have hPt : Pg T N τ := hP.fr hF (fun k h1 h2 => beq_false_of_ne (by omega))
    show wp_X4_sumUp_22 _ _ (f + 1) τ (nI N)
    unfold wp_X4_sumUp_22
    rw [hPt.1]
    refine br_t (nI_le (Nat.le_refl N) (by omega)) ?_
    rw [show FUEL = 1999998 + 1 + 1 from rfl]
    unfold wp_X4_sumUp_110
    rw [hF.1 1 rfl, hp]
    refine br_f (by decide) ⟨z10, ?_⟩
    rw [i0, q_I (by omega), hF.1 33 rfl, h33]
    refine bitCount_0 (nm_e ?_)
    unfold wp_X4_sumUp_110
    rw [q_n (by omega), hF.1 1 rfl, hp]
    refine br_t (by decide) (h _ (hF.put rfl) ?_ ?_ ?_ ?_)
    · rw [q_o (by omega)]; exact a
    · rw [q_o (by omega)]; exact b
    · rw [q_o (by omega)]; exact d
    · rw [q_s, e]; rfl
/-- what is meant stands in a world -/
def Mn (T : TT) (c : Int32) (N : Nat) (inn lp : Nat → Bool) (σ : FS) : Prop :=
  (∀ k, k < N → σ.1 21 k = (if inn k then 0 else -1) ∧ bz T c inn σ k ∧ fz T σ k ∧ σ.1 28 k = 0 ∧ σ.1 29 k = 0 ∧ σ.1 30 k = lv T inn lp k) ∧
  σ.1 32 0 = 0 ∧ σ.1 33 0 = 0 ∧ σ.1 20 15 = nI (cN inn N) ∧ σ.1 20 16 = nI (cF T inn N) ∧ σ.1 20 17 = 0 ∧ σ.1 20 18 = 0
def S20 (a : Nat) : Bool := decide (20 ≤ a ∧ a ≤ 33)
/-- of what each node is part, where bodies are -/
def Wh (T : TT) (N : Nat) (inn : Nat → Bool) (σ : FS) : Prop := ∀ k, k < N → (σ.1 19 k = 0 ∧ inn k = true) ∨ (σ.1 19 k = -1 ∧ ((σ.1 18 k = -1 ∧ inn k = false) ∨ ∃ w, k < w ∧ w < N ∧ σ.1 18 k = nI w ∧ inn k = inn w))
theorem S20_f {a : Nat} (h : ¬ (20 ≤ a ∧ a ≤ 33)) : S20 a = false := decide_eq_false h
theorem find_ok (hP : Pg T N σ) (hD : Dcl c σ) (hW : Wh T N inn σ) (hB : Br T N inn lp σ) (h : ∀ τ, Fr S20 σ τ → Mn T c N inn lp τ → Ψ τ) : wp_X4_find σ Ψ := by
  have hN := hP.2.1
  unfold wp_X4_find
  refine find1 (N := N) (inn := inn) hP.1 hN hW (fun τ1 F1 a1 => ?_)
  have G1 : Fr S20 σ τ1 := F1.mono (fun a ha => beq_false_of_ne (fun e => by rw [e] at ha; cases ha))
  have P1 := hP.fr G1 (fun k h1 h2 => S20_f (by omega))
  have D1 := hD.fr G1 (fun k h1 h2 => S20_f (by omega))
  refine find6 (T := T) (c := c) (inn := inn) P1 D1 a1 (fun τ2 F2 a2 => ?_)
  have G2 : Fr S20 σ τ2 := G1.tr (F2.mono (fun a ha => decide_eq_false (by have := of_decide_eq_false ha; omega)))
  have P2 := hP.fr G2 (fun k h1 h2 => S20_f (by omega))
  refine findHandedOn_ok (T := T) P2 (fun τ3 F3 a32 a33 => ?_)
  have G3 : Fr S20 σ τ3 := G2.tr (F3.mono (fun a ha => by have := of_decide_eq_false ha; show (a == 32 || a == 33) = false; rw [beq_false_of_ne (by omega), beq_false_of_ne (by omega)]; rfl))
  have P3 := hP.fr G3 (fun k h1 h2 => S20_f (by omega))
  have b21 : ∀ k, k < N → τ3.1 21 k = if inn k then 0 else -1 := fun k hk => by rw [F3.1 21 rfl, F2.1 21 rfl]; exact a1 k hk
  have b22 : ∀ k, k < N → bz T c inn τ3 k := fun k hk => bz_fr F3 rfl rfl rfl rfl (a2 k hk).1
  have b26 : ∀ k, k < N → fz T τ3 k := fun k hk => fz_fr F3 rfl rfl (a2 k hk).2
  refine findEscapes_ok P3 b21 b22 (findLabels_ok P3 b21 (fun τ4 F4 => ?_))
  have G4 : Fr S20 σ τ4 := G3.tr (F4.mono (fun a ha => beq_false_of_ne (fun e => by rw [e] at ha; cases ha)))
  have P4 := hP.fr G4 (fun k h1 h2 => S20_f (by omega))
  have b21' : ∀ k, k < N → τ4.1 21 k = if inn k then 0 else -1 := fun k hk => by rw [F4.1 21 rfl]; exact b21 k hk
  have e18 : τ4.1 18 = σ.1 18 := G4.1 18 rfl
  have hB4 : Br T N inn lp τ4 := fun k hk h17 hi => by unfold lpd; rw [e18]; exact hB k hk h17 hi
  refine find47 (T := T) P4 (by rw [G4.1 2 rfl]; exact hD.1.2.1) b21' hB4 (fun τ5 F5 a5 => ?_)
  have G5 : Fr S20 σ τ5 := G4.tr (F5.mono (fun a ha => by have := of_decide_eq_false ha; exact S7_f (by omega) (by omega) (by omega)))
  have P5 := hP.fr G5 (fun k h1 h2 => S20_f (by omega))
  have c21 : ∀ k, k < N → τ5.1 21 k = if inn k then 0 else -1 := fun k hk => by rw [F5.1 21 rfl]; exact b21' k hk
  have c22 : ∀ k, k < N → bz T c inn τ5 k := fun k hk => bz_fr F5 rfl rfl rfl rfl (bz_fr F4 rfl rfl rfl rfl (b22 k hk))
  have c26 : ∀ k, k < N → fz T τ5 k := fun k hk => fz_fr F5 rfl rfl (fz_fr F4 rfl rfl (b26 k hk))
  have c32 : τ5.1 32 0 = 0 := by rw [F5.1 32 rfl, F4.1 32 rfl]; exact a32 0 (by omega)
  have c33 : τ5.1 33 0 = 0 := by rw [F5.1 33 rfl, F4.1 33 rfl]; exact a33 0
  refine findModes_ok P5 (sumUp_ok (T := T) P5 (by rw [G5.1 1 rfl]; exact hD.1.1) c33 c21 (fun k hk => ⟨(c26 k hk).1, (a5 k hk).1⟩) (fun τ6 F6 s15 s16 s17 s18 => ?_))
  refine h τ6 (G5.tr (F6.mono (fun a ha => beq_false_of_ne (fun e => by rw [e] at ha; cases ha)))) ⟨fun k hk => ⟨?_, bz_fr F6 rfl rfl rfl rfl (c22 k hk), fz_fr F6 rfl rfl (c26 k hk), ?_, ?_, ?_⟩, ?_, ?_, s15, s16, s17, s18⟩
  · rw [F6.1 21 rfl]; exact c21 k hk
  · rw [F6.1 28 rfl]; exact (a5 k hk).1
  · rw [F6.1 29 rfl]; exact (a5 k hk).2.1
  · rw [F6.1 30 rfl]; exact (a5 k hk).2.2
  · rw [F6.1 32 rfl]; exact c32
  · rw [F6.1 33 rfl]; exact c33
end PD
