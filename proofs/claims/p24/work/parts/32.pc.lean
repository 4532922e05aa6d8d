section PC
variable {T : TT} {N : Nat} {σ τ : FS} {k : Nat} {Φ : Int32 → FS → Prop} {Ψ : FS → Prop} {c : Int32} {inn lp : Nat → Bool}
def bz (T : TT) (c : Int32) (inn : Nat → Bool) (σ : FS) (j : Nat) : Prop := σ.1 22 j = oW T inn j ∧ σ.1 23 j = oW T inn j ∧ σ.1 24 j = iS T inn j ∧ σ.1 25 j = tG T c inn j
def S6 (a : Nat) : Bool := decide (22 ≤ a ∧ a ≤ 27)
theorem bS_fr : Fr (fun a => decide (22 ≤ a ∧ a ≤ 25)) σ (bS T c inn σ k) := (((Fr.rf.put rfl).put rfl).put rfl).put rfl
theorem bS_k : bz T c inn (bS T c inn σ k) k := by
  unfold bz bS
  refine ⟨?_, ?_, ?_, ?_⟩
  · rw [q_n (by omega), q_n (by omega), q_n (by omega), q_s]
  · rw [q_n (by omega), q_n (by omega), q_s]
  · rw [q_n (by omega), q_s]
  · rw [q_s]
theorem bS_o {j : Nat} (h : j ≠ k) (hb : bz T c inn σ j) : bz T c inn (bS T c inn σ k) j := by
  unfold bz at hb ⊢
  unfold bS
  refine ⟨?_, ?_, ?_, ?_⟩
  · rw [q_n (by omega), q_n (by omega), q_n (by omega), q_o h]; exact hb.1
  · rw [q_n (by omega), q_n (by omega), q_o h, q_n (by omega)]; exact hb.2.1
  · rw [q_n (by omega), q_o h, q_n (by omega), q_n (by omega)]; exact hb.2.2.1
  · rw [q_o h, q_n (by omega), q_n (by omega), q_n (by omega)]; exact hb.2.2.2
theorem bz_fr {j : Nat} {S : Nat → Bool} (hF : Fr S σ τ) (h22 : S 22 = false) (h23 : S 23 = false) (h24 : S 24 = false) (h25 : S 25 = false) (h : bz T c inn σ j) : bz T c inn τ j := by
  unfold bz at h ⊢
  rw [hF.1 22 h22, hF.1 23 h23, hF.1 24 h24, hF.1 25 h25]; exact h
theorem fz_fr {j : Nat} {S : Nat → Bool} (hF : Fr S σ τ) (h26 : S 26 = false) (h27 : S 27 = false) (h : fz T σ j) : fz T τ j := by
  unfold fz at h ⊢
  rw [hF.1 26 h26, hF.1 27 h27]; exact h
theorem mt_fr {j : Nat} {S : Nat → Bool} (hF : Fr S σ τ) (h14 : S 14 = false) (h15 : S 15 = false) (h16 : S 16 = false) (h17 : S 17 = false) (h : mt T σ j) : mt T τ j := by
  unfold mt at h ⊢
  rw [hF.1 14 h14, hF.1 15 h15, hF.1 16 h16, hF.1 17 h17]; exact h
/-- names bound, and what is folded -/
theorem find6 (hP : Pg T N σ) (hD : Dcl c σ) (h21 : ∀ k, k < N → σ.1 21 k = if inn k then 0 else -1)
    {K : FS → Int32 → Prop} (h : ∀ τ, Fr S6 σ τ → (∀ k, k < N → bz T c inn τ k ∧ fz T τ k) → K τ (nI N)) : wp_X4_find_6 Ψ K FUEL σ 0 := by
  have hN := hP.2.1
  have := walk (P := fun i τ => Fr S6 σ τ ∧ ∀ k, k < i → bz T c inn τ k ∧ fz T τ k) (W := fun f τ i => wp_X4_find_6 Ψ K f τ i) (N := N) (by omega) ?_ ?_ N 0 FUEL σ (by omega) (FUEL_le (by omega)) ⟨Fr.rf, fun k hk => absurd hk (by omega)⟩
  · rw [i0]; exact this
  · intro i f τ hi ⟨hF, hk⟩ go
    have hPt : Pg T N τ := hP.fr hF (fun k h1 h2 => decide_eq_false (by omega))
    have hDt : Dcl c τ := hD.fr hF (fun k h1 h2 => decide_eq_false (by omega))
    unfold wp_X4_find_6
    rw [hPt.1]
    refine br_f (nI_ge hi (by omega)) (bind_ok (T := T) (c := c) (inn := inn) (by omega) (hPt.2.2.2 i hi).1 (hPt.2.2.2 i hi).2 hDt ?_ ?_)
    · rw [hF.1 21 rfl]; exact h21 i hi
    have F2 : Fr (fun a => decide (22 ≤ a ∧ a ≤ 25)) τ (bS T c inn τ i) := bS_fr
    have F1 : Fr S6 σ (bS T c inn τ i) := hF.tr (F2.mono (fun a ha => decide_eq_false (by have := of_decide_eq_false ha; omega)))
    refine fold_ok (T := T) (by omega) hPt.2.2.1 (fun j hj => ⟨mt_fr F2 rfl rfl rfl rfl (hPt.2.2.2 j (by omega)).1, (hPt.2.2.2 j (by omega)).2⟩) (fun j hj => fz_fr F2 rfl rfl (hk j hj).2) (fun ρ hρ hz => ?_)
    rw [← nI_succ]
    refine go ρ ⟨F1.tr (hρ.mono (fun a ha => ?_)), fun j hj => ⟨bz_fr hρ rfl rfl rfl rfl ?_, hz j (by omega)⟩⟩
    · have := of_decide_eq_false ha
      show (a == 26 || a == 27) = false
      rw [beq_false_of_ne (by omega), beq_false_of_ne (by omega)]; rfl
    · by_cases hji : j = i
      · rw [hji]; exact bS_k
      · exact bS_o hji (hk j (by omega)).1
  · intro f τ ⟨hF, hk⟩
    have hPt : Pg T N τ := hP.fr hF (fun k h1 h2 => decide_eq_false (by omega))
    show wp_X4_find_6 Ψ K (f + 1) τ (nI N)
    unfold wp_X4_find_6
    rw [hPt.1]
    exact br_t (nI_le (Nat.le_refl N) (by omega)) (h τ hF hk)
theorem z10 : vp_in (0 : Int32) 10 := by rw [i0]; exact q_in (by omega) (by omega)
theorem kd_ne {κ v : Nat} (hκ : κ < 22) (hv : v < 22) (h : κ ≠ v) : ¬ nI κ = nI v := nI_ne h (by omega) (by omega)
theorem okK_ne {κ v : Nat} (h : okK κ = true) (hv : okK v = false) : κ ≠ v := fun e => by rw [e, hv] at h; cases h
/-- nothing is handed on -/
theorem findHandedOn_ok (hP : Pg T N σ) (h : ∀ τ, Fr (fun a => a == 32 || a == 33) σ τ → (∀ j, j < 10 → τ.1 32 j = 0) → (∀ j, τ.1 33 j = 0) → Ψ τ) : wp_X4_findHandedOn σ Ψ := by
  have hN := hP.2.1
  unfold wp_X4_findHandedOn
  refine nm_e ?_
  have := walk (P := fun i τ => Fr (fun a => a == 32 || a == 33) σ τ ∧ (∀ j, j < i → τ.1 32 j = 0) ∧ (∀ j, τ.1 33 j = 0)) (W := fun f τ i => wp_X4_findHandedOn_10 Ψ (fun (σ3 : FS) (_ : Int32) => wp_X4_findHandedOn_31 Ψ (fun (σ6 : FS) (_ : Int32) => Ψ σ6) FUEL σ3 0) f τ i) (N := 10) (by omega) ?_ ?_ 10 0 FUEL (sC σ 33 0) (by omega) (FUEL_le (by omega)) ⟨Fr.rf.fill rfl, fun k hk => absurd hk (by omega), fun j => q_c⟩
  · rw [i0]; exact this
  · intro i f τ hi ⟨hF, hk, h33⟩ go
    unfold wp_X4_findHandedOn_10
    refine br_f (nI_ge (b := 10) hi (by omega)) ⟨q_in hi (by omega), nm_e ?_⟩
    rw [q_A (by omega), ← nI_succ]
    refine go _ ⟨hF.put rfl, fun j hj => ?_, fun j => ?_⟩
    · by_cases hji : j = i
      · rw [hji, q_s]
      · rw [q_o hji]; exact hk j (by omega)
    · rw [q_n (by omega)]; exact h33 j
  · intro f τ ⟨hF, hk, h33⟩
    show wp_X4_findHandedOn_10 _ _ (f + 1) τ (nI 10)
    unfold wp_X4_findHandedOn_10
    refine br_t (by decide) ?_
    have := walk (P := fun i ρ => ρ = τ) (W := fun f τ i => wp_X4_findHandedOn_31 Ψ (fun (σ6 : FS) (_ : Int32) => Ψ σ6) f τ i) (N := N) (by omega) ?_ ?_ N 0 FUEL τ (by omega) (FUEL_le (by omega)) rfl
    · rw [i0]; exact this
    · intro i f ρ hi e go
      rw [e]
      have hPt : Pg T N τ := hP.fr hF (fun k h1 h2 => by show (k == 32 || k == 33) = false; rw [beq_false_of_ne (by omega), beq_false_of_ne (by omega)]; rfl)
      have hm := (hPt.2.2.2 i hi).1
      have hw := (hPt.2.2.2 i hi).2
      unfold wp_X4_findHandedOn_31
      rw [hPt.1, q_I (by omega), hm.1, ← nI_succ]
      exact br_f (nI_ge hi (by omega)) ⟨q_in (by omega) (by omega), br_f (kd_ne (v := 10) hw.lt (by omega) (okK_ne hw.1 rfl)) (go τ rfl)⟩
    · intro f ρ e
      have hPt : Pg T N τ := hP.fr hF (fun k h1 h2 => by show (k == 32 || k == 33) = false; rw [beq_false_of_ne (by omega), beq_false_of_ne (by omega)]; rfl)
      show wp_X4_findHandedOn_31 _ _ (f + 1) ρ (nI N)
      rw [e]
      unfold wp_X4_findHandedOn_31
      rw [hPt.1]
      exact br_t (nI_le (Nat.le_refl N) (by omega)) (h τ hF hk h33)
theorem isOutliving_0 (h : Φ 0 σ) : wp_X4_isOutliving σ 0 0 Φ := by
  unfold wp_X4_isOutliving
  rw [FUEL_s]
  unfold wp_X4_isOutliving_5
  exact br_f (by decide) (br_t rfl h)
theorem iS_v (hw : WF T k) : iS T inn k = -1 ∨ iS T inn k = 9 ∨ iS T inn k = 6 ∨ iS T inn k = 7 := by
  unfold iS
  cases hn : nd T inn k with
  | false => exact Or.inl rfl
  | true =>
    unfold nd at hn
    rw [Bool.and_eq_true] at hn
    have h5 := (hw.2.2.2.2.2.1 hn.2).2.1
    rw [if_pos rfl]
    rcases (show nm T k = 0 ∨ nm T k = 1 ∨ nm T k = 2 ∨ nm T k = 3 ∨ nm T k = 4 by omega) with q | q | q | q | q <;> rw [q] <;> decide
theorem iS_nd (h : iS T inn k = 6 ∨ iS T inn k = 7) : nd T inn k = true := by
  cases hn : nd T inn k with
  | true => rfl
  | false => unfold iS at h; rw [hn, if_neg Bool.false_ne_true] at h; rcases h with h | h <;> exact absurd h (by decide)
/-- nothing escapes -/
theorem findEscapes_ok (hP : Pg T N σ) (h21 : ∀ k, k < N → σ.1 21 k = if inn k then 0 else -1) (hb : ∀ k, k < N → bz T c inn σ k) (h : Ψ σ) : wp_X4_findEscapes σ Ψ := by
  have hN := hP.2.1
  unfold wp_X4_findEscapes
  have := walk (P := fun _ ρ => ρ = σ) (W := fun f τ i => wp_X4_findEscapes_2 Ψ (fun (σ6 : FS) (_ : Int32) => Ψ σ6) f τ i) (N := N) (by omega) ?_ ?_ N 0 FUEL σ (by omega) (FUEL_le (by omega)) rfl
  · rw [i0]; exact this
  · intro i f ρ hi e go
    rw [e]
    have hw := (hP.2.2.2 i hi).2
    have hin := q_in (show i < 110 by omega) (show 110 < 2 ^ 31 by omega)
    unfold wp_X4_findEscapes_2
    rw [hP.1, ← nI_succ]
    have e24 := (hb i hi).2.2.1
    refine br_f (nI_ge hi (by omega)) (hasPlace_ok (by omega) (fun _ => br_t rfl (go σ rfl)) (fun h2 => br_f (by decide) ⟨hin, hin, ?_⟩) (by rw [e24]; exact iS_v hw))
    rw [e24] at h2
    have hn := iS_nd h2
    have hi2 : inn i = true := by unfold nd at hn; rw [Bool.and_eq_true] at hn; exact hn.1
    rw [q_I (by omega), q_I (by omega), h21 i hi, (hb i hi).1, hi2]
    unfold oW
    rw [hn]
    exact isOutliving_0 (br_t rfl (go σ rfl))
  · intro f ρ e
    show wp_X4_findEscapes_2 _ _ (f + 1) ρ (nI N)
    rw [e]
    unfold wp_X4_findEscapes_2
    rw [hP.1]
    exact br_t (nI_le (Nat.le_refl N) (by omega)) h
theorem findLabels_ok (hP : Pg T N σ) (h21 : ∀ k, k < N → σ.1 21 k = if inn k then 0 else -1) (h : ∀ τ, Fr (fun a => a == 31) σ τ → Ψ τ) : wp_X4_findLabels σ Ψ := by
  have hN := hP.2.1
  unfold wp_X4_findLabels
  refine nm_e ?_
  have := walk (P := fun _ τ => Fr (fun a => a == 31) σ τ) (W := fun f τ i => wp_X4_findLabels_10 Ψ (fun (σ6 : FS) (_ : Int32) => Ψ σ6) f τ i) (N := N) (by omega) ?_ ?_ N 0 FUEL (sC σ 31 0) (by omega) (FUEL_le (by omega)) (Fr.rf.fill rfl)
  · rw [i0]; exact this
  · intro i f τ hi hF go
    have hPt : Pg T N τ := hP.fr hF (fun k h1 h2 => beq_false_of_ne (by omega))
    have hm := (hPt.2.2.2 i hi).1
    have hw := (hPt.2.2.2 i hi).2
    have hin := q_in (show i < 110 by omega) (show 110 < 2 ^ 31 by omega)
    unfold wp_X4_findLabels_10
    rw [hPt.1, q_I (by omega), hm.1, ← nI_succ, q_I (by omega), hF.1 21 rfl, h21 i hi]
    refine br_f (nI_ge hi (by omega)) ⟨hin, ?_⟩
    by_cases h16 : kd T i = 16
    · refine br_t (by rw [h16]; rfl) ⟨hin, ?_⟩
      cases inn i with
      | false => exact br_t rfl (go τ hF)
      | true => exact br_f (by decide) ⟨hin, z10, hin, nm_e ⟨z10, nm_e (go _ (hF.put rfl))⟩⟩
    · exact br_f (kd_ne (v := 16) hw.lt (by omega) h16) (go τ hF)
  · intro f τ hF
    have hPt : Pg T N τ := hP.fr hF (fun k h1 h2 => beq_false_of_ne (by omega))
    show wp_X4_findLabels_10 _ _ (f + 1) τ (nI N)
    unfold wp_X4_findLabels_10
    rw [hPt.1]
    exact br_t (nI_le (Nat.le_refl N) (by omega)) (h τ hF)
theorem isTail_0 (hk : k < 110) (hm : mt T σ k) (hw : WF T k) (h : Φ 0 σ) : wp_X4_isTail σ (nI k) Φ := by
  have hin := q_in hk (show 110 < 2 ^ 31 by omega)
  unfold wp_X4_isTail
  refine ⟨hin, nm_e ⟨hin, ?_⟩⟩
  rw [q_I (i := k) (k := 14) (by omega), hm.1]
  exact br_f (kd_ne (v := 18) hw.lt (by omega) (okK_ne hw.1 rfl)) h
/-- a BREAK that has its LOOP eight nodes on -/
def lpd (T : TT) (σ : FS) (k : Nat) : Prop := k + 8 < 110 ∧ σ.1 18 k = nI (k + 1) ∧ σ.1 18 (k + 1) = nI (k + 2) ∧ σ.1 18 (k + 2) = nI (k + 7) ∧ σ.1 18 (k + 7) = nI (k + 8) ∧
  kd T (k + 1) = 15 ∧ kd T (k + 2) = 12 ∧ kd T (k + 7) = 12 ∧ kd T (k + 8) = 16 ∧ av T (k + 8) = av T k
theorem isInLoop_1 (hP : Pg T N σ) (hk : k + 8 < N) (hl : lpd T σ k) (h : Φ 1 σ) : wp_X4_isInLoop σ (nI k) Φ := by
  have hN := hP.2.1
  obtain ⟨h0, w1, w2, w3, w4, k1, k2, k7, k8, ea⟩ := hl
  have hin : ∀ j, j < N → vp_in (nI j) 110 := fun j hj => q_in (by omega) (by omega)
  have m : ∀ j, j < N → σ.1 14 j = nI (kd T j) := fun j hj => (hP.2.2.2 j hj).1.1
  have a : ∀ j, j < N → σ.1 15 j = av T j := fun j hj => (hP.2.2.2 j hj).1.2.1
  unfold wp_X4_isInLoop
  refine ⟨hin k (by omega), nm_e ?_⟩
  rw [q_I (by omega), w1, show FUEL = 1999996 + 1 + 1 + 1 + 1 from rfl]
  unfold wp_X4_isInLoop_12
  refine br_f (by decide) (br_f (q_m1 (by omega)) ⟨hin _ (by omega), ?_⟩)
  rw [q_I (by omega), q_I (by omega), q_I (by omega), q_I (by omega), m _ (by omega), k1, w2]
  refine br_f (by decide) ⟨hin _ (by omega), nm_e ?_⟩
  unfold wp_X4_isInLoop_12
  refine br_f (by decide) (br_f (q_m1 (by omega)) ⟨hin _ (by omega), ?_⟩)
  rw [q_I (by omega), q_I (by omega), q_I (by omega), q_I (by omega), m _ (by omega), k2, w3]
  refine br_f (by decide) ⟨hin _ (by omega), nm_e ?_⟩
  unfold wp_X4_isInLoop_12
  refine br_f (by decide) (br_f (q_m1 (by omega)) ⟨hin _ (by omega), ?_⟩)
  rw [q_I (by omega), q_I (by omega), q_I (by omega), q_I (by omega), m _ (by omega), k7, w4]
  refine br_f (by decide) ⟨hin _ (by omega), nm_e ?_⟩
  unfold wp_X4_isInLoop_12
  refine br_f (by decide) (br_f (q_m1 (by omega)) ⟨hin _ (by omega), ?_⟩)
  rw [q_I (by omega), q_I (by omega), q_I (by omega), m _ (by omega), k8, a _ (by omega), a _ (by omega), ea]
  exact br_t rfl ⟨hin _ (by omega), hin _ (by omega), br_t rfl h⟩
end PC
