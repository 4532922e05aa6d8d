section PW
variable {T : TT} {N top : Nat} {σ σ0 τ : FS} {k t a : Nat} {Φ : Int32 → FS → Prop} {Ψ : FS → Prop} {c cl : Int32} {most : Nat}
theorem frame_ok (hD : Dcl c σ) (h70 : tb 70 3 0 σ) (h66 : tb 66 2 0 σ) (h68 : tb 68 2 0 σ) (h53 : σ.1 53 0 = 0)
    (h : ∀ τ, Fr (fun a => decide (65 ≤ a ∧ a ≤ 71)) σ τ → τ.1 65 12 = 0 → τ.1 65 13 = 0 → τ.1 65 16 = σ.1 65 16 → (tb 70 3 1 τ ∧ τ.1 71 0 = 0 ∧ τ.1 71 2 = 0) → Q3 (fu (fun _ => 0) 2 4) τ → tb 68 2 0 τ → Ψ τ) :
    wp_X7_add 70 192 σ (fun (x12 : Int32) (σ11 : FS) => ∀ σ13 : FS, σ13 = sF σ11 65 13 x12 → wp_X7_put 70 192 σ13 (σ13.1 65 13) 0 0 (fun (σ14 : FS) => wp_X7_put 70 192 σ14 (σ14.1 65 13) 1 (-1) (fun (σ15 : FS) => wp_X7_put 70 192 σ15 (σ15.1 65 13) 2 (σ15.1 66 2) (fun (σ16 : FS) => wp_X3_layPlaces σ16 0 (fun (σ17 : FS) => vp_in 0 10 ∧ (∀ σ18 : FS, σ18 = sF σ17 65 12 (g σ17 53 0) → Ψ σ18)))))) := by
  refine add_ok (N := 192) h70 (by omega) (by omega) (by omega) (by omega) (fun τ1 F1 T1 _ _ => nm_e ?_)
  rw [show (sF τ1 65 13 (nI 0)).1 65 13 = nI 0 from q_s]
  have T1' : tb 70 3 1 (sF τ1 65 13 (nI 0)) := ⟨by rw [q_n (by omega)]; exact T1.1, by rw [q_n (by omega)]; exact T1.2⟩
  have p1 : wp_X7_put 70 192 (sF τ1 65 13 (nI 0)) (nI 0) (nI 0) 0 (fun (σ14 : FS) => wp_X7_put 70 192 σ14 (σ14.1 65 13) 1 (-1) (fun (σ15 : FS) => wp_X7_put 70 192 σ15 (σ15.1 65 13) 2 (σ15.1 66 2) (fun (σ16 : FS) => wp_X3_layPlaces σ16 0 (fun (σ17 : FS) => vp_in 0 10 ∧ (∀ σ18 : FS, σ18 = sF σ17 65 12 (g σ17 53 0) → Ψ σ18))))) := by
    refine tput2 T1' (by omega) (by omega) (by omega) (by omega) (by omega) (by omega) (fun τ2 F2 T2 o2 e2 => ?_)
    have e13 : τ2.1 65 13 = nI 0 := by rw [F2.1 65 rfl, q_s]
    rw [e13]
    have p2 : wp_X7_put 70 192 τ2 (nI 0) (nI 1) (-1) (fun (σ15 : FS) => wp_X7_put 70 192 σ15 (σ15.1 65 13) 2 (σ15.1 66 2) (fun (σ16 : FS) => wp_X3_layPlaces σ16 0 (fun (σ17 : FS) => vp_in 0 10 ∧ (∀ σ18 : FS, σ18 = sF σ17 65 12 (g σ17 53 0) → Ψ σ18)))) := by
      refine tput2 T2 (by omega) (by omega) (by omega) (by omega) (by omega) (by omega) (fun τ3 F3 T3 o3 e3 => ?_)
      have e13' : τ3.1 65 13 = nI 0 := by rw [F3.1 65 rfl]; exact e13
      have e66 : τ3.1 66 2 = nI 0 := by rw [F3.1 66 rfl, F2.1 66 rfl, q_n (by omega), F1.1 66 rfl]; exact h66.2
      rw [e13', e66]
      have p3 : wp_X7_put 70 192 τ3 (nI 0) (nI 2) (nI 0) (fun (σ16 : FS) => wp_X3_layPlaces σ16 0 (fun (σ17 : FS) => vp_in 0 10 ∧ (∀ σ18 : FS, σ18 = sF σ17 65 12 (g σ17 53 0) → Ψ σ18))) := by
        refine tput2 T3 (by omega) (by omega) (by omega) (by omega) (by omega) (by omega) (fun τ4 F4 T4 o4 e4 => ?_)
        have G1 : Fr (fun a => decide (65 ≤ a ∧ a ≤ 71)) σ (sF τ1 65 13 (nI 0)) := Fr.put (S := fun a => decide (65 ≤ a ∧ a ≤ 71)) (F1.mono (fun a ha => f2 (by have := of_decide_eq_false ha; omega) (by have := of_decide_eq_false ha; omega))) rfl
        have mm : ∀ a, (fun a => decide (65 ≤ a ∧ a ≤ 71)) a = false → (a == 70 + 1) = false := fun a ha => beq_false_of_ne (by have := of_decide_eq_false ha; omega)
        have G4 : Fr (fun a => decide (65 ≤ a ∧ a ≤ 71)) σ τ4 := ((G1.tr (F2.mono mm)).tr (F3.mono mm)).tr (F4.mono mm)
        have D4 : Dcl c τ4 := hD.fr G4 (fun k _ _ => decide_eq_false (by omega))
        have b66 : tb 66 2 0 τ4 := by
          unfold tb
          rw [F4.1 66 rfl, F3.1 66 rfl, F2.1 66 rfl, q_n (by omega), F1.1 66 rfl]
          exact h66
        have b68 : tb 68 2 0 τ4 := by
          unfold tb
          rw [F4.1 68 rfl, F3.1 68 rfl, F2.1 68 rfl, q_n (by omega), F1.1 68 rfl]
          exact h68
        refine layPlaces_ok D4 b66 b68 (fun τ5 F5 q3 q68 => ⟨z10, nm_e ?_⟩)
        rw [g0, F5.1 53 rfl, G4.1 53 rfl, h53]
        have F6 : Fr (fun a => a == 65) τ5 (sF τ5 65 12 0) := Fr.rf.put rfl
        have e65 : ∀ j, j ≠ 12 → j ≠ 13 → (sF τ5 65 12 0).1 65 j = σ.1 65 j := fun j j1 j2 => by
          rw [q_o j1, F5.1 65 rfl, F4.1 65 rfl, F3.1 65 rfl, F2.1 65 rfl, q_o j2, F1.1 65 rfl]
        refine h _ (Fr.put (S := fun a => decide (65 ≤ a ∧ a ≤ 71)) (G4.tr (F5.mono (fun a ha => decide_eq_false (by have := of_decide_eq_false ha; omega)))) rfl) q_s ?_ (e65 16 (by omega) (by omega)) ⟨?_, ?_, ?_⟩ (Q3_fr q3 F6 rfl rfl) (tb_fr q68 F6 rfl)
        · rw [q_o (by omega), F5.1 65 rfl, F4.1 65 rfl]; exact e13'
        · exact tb_fr (tb_fr T4 F5 rfl) F6 rfl
        · rw [q_n (by omega), F5.1 71 rfl, show τ4.1 71 0 = τ3.1 71 0 from o4 0 (by omega), show τ3.1 71 0 = τ2.1 71 0 from o3 0 (by omega)]; exact e2
        · rw [q_n (by omega), F5.1 71 rfl]; exact e4
      exact p3
    exact p2
  exact p1
def clOf (pv : Int32) : Int32 := if pv &&& 4 = 0 then 4 else 0
def Sca (t a : Nat) : Bool := decide ((65 ≤ a ∧ a ≤ 71) ∨ a = t)
theorem Sca_f {t a : Nat} (h : ¬ ((65 ≤ a ∧ a ≤ 71) ∨ a = t)) : Sca t a = false := decide_eq_false h
theorem Sca_t {t a : Nat} (h : (65 ≤ a ∧ a ≤ 71) ∨ a = t) : Sca t a = true := decide_eq_true h
theorem call_ok {pv : Int32} (ht : 80 ≤ t) (hD : Dcl c σ) (h33 : σ.1 33 0 = 0) (h15 : σ.1 65 15 = 0) (h10 : σ.1 65 10 = pv) (h72 : tb 72 5 1 σ) (h732 : σ.1 73 2 = 0) (h5 : σ.1 t 5 = 0 ∧ σ.1 t 6 = 0 ∧ σ.1 t 7 = 0 ∧ σ.1 t 8 = 0) (h70 : tb 70 3 0 σ) (h66 : tb 66 2 0 σ) (h68 : tb 68 2 0 σ) (h53 : σ.1 53 0 = 0)
    (h : ∀ τ, Fr (Sca t) σ τ → τ.1 65 12 = 0 → τ.1 65 13 = 0 → τ.1 65 16 = σ.1 65 16 → (tb 70 3 1 τ ∧ τ.1 71 0 = 0 ∧ τ.1 71 2 = 0) → Q3 (fu (fun _ => 0) 2 4) τ → tb 68 2 0 τ → (τ.1 t 5 = 1 ∧ τ.1 t 6 = clOf pv ∧ τ.1 t 7 = 1 ∧ τ.1 t 8 = 1) → (∀ j, j < 5 ∨ j = 9 → τ.1 t j = σ.1 t j) → Ψ τ) : wp_X3_call t σ 0 (-1) Ψ := by
  obtain ⟨h5, h6, h7, h8⟩ := h5
  unfold wp_X3_call
  refine nm_e ?_
  rw [h15, show (0 : Int32) + 1 = 1 by decide, q_n (show 72 ≠ 65 by omega), h72.2, nI_m1 (by omega), show nI (1 - 1) = nI 0 from rfl]
  have p1 : wp_X7_at 72 320 (sF σ 65 15 1) (nI 0) (nI 2) (fun (x3 : Int32) (σ2 : FS) => ∀ σ4 : FS, σ4 = sF σ2 65 14 (x3 + 1) → ∀ σ5 : FS, σ5 = sF σ4 t 5 ((σ4.1 t 5) + 1) → (((σ5.1 65 10) &&& 4 = 0 → vp_in 0 10 ∧ (∀ σ6 : FS, σ6 = sF σ5 t 6 ((σ5.1 t 6) + (g σ5 6 0)) → ∀ x7 : Int32, x7 = (ma (σ6.1 t 7) (σ6.1 65 14)) → ∀ σ8 : FS, σ8 = sF σ6 t 7 x7 → ∀ x9 : Int32, x9 = (ma (σ8.1 t 8) (σ8.1 65 15)) → ∀ σ10 : FS, σ10 = sF σ8 t 8 x9 → wp_X7_add 70 192 σ10 (fun (x12 : Int32) (σ11 : FS) => ∀ σ13 : FS, σ13 = sF σ11 65 13 x12 → wp_X7_put 70 192 σ13 (σ13.1 65 13) 0 0 (fun (σ14 : FS) => wp_X7_put 70 192 σ14 (σ14.1 65 13) 1 (-1) (fun (σ15 : FS) => wp_X7_put 70 192 σ15 (σ15.1 65 13) 2 (σ15.1 66 2) (fun (σ16 : FS) => wp_X3_layPlaces σ16 0 (fun (σ17 : FS) => vp_in 0 10 ∧ (∀ σ18 : FS, σ18 = sF σ17 65 12 (g σ17 53 0) → Ψ σ18)))))))) ∧ (¬ ((σ5.1 65 10) &&& 4 = 0) → vp_in 0 10 ∧ (wp_J6_bitCount_0f7a4 σ5 (g σ5 33 0) (fun (x20 : Int32) (σ19 : FS) => ∀ σ21 : FS, σ21 = sF σ19 t 6 ((σ5.1 t 6) + x20) → ∀ x22 : Int32, x22 = (ma (σ21.1 t 7) (σ21.1 65 14)) → ∀ σ23 : FS, σ23 = sF σ21 t 7 x22 → ∀ x24 : Int32, x24 = (ma (σ23.1 t 8) (σ23.1 65 15)) → ∀ σ25 : FS, σ25 = sF σ23 t 8 x24 → wp_X7_add 70 192 σ25 (fun (x27 : Int32) (σ26 : FS) => ∀ σ28 : FS, σ28 = sF σ26 65 13 x27 → wp_X7_put 70 192 σ28 (σ28.1 65 13) 0 0 (fun (σ29 : FS) => wp_X7_put 70 192 σ29 (σ29.1 65 13) 1 (-1) (fun (σ30 : FS) => wp_X7_put 70 192 σ30 (σ30.1 65 13) 2 (σ30.1 66 2) (fun (σ31 : FS) => wp_X3_layPlaces σ31 0 (fun (σ32 : FS) => vp_in 0 10 ∧ (∀ σ33 : FS, σ33 = sF σ32 65 12 (g σ32 53 0) → Ψ σ33))))))))))) := by
    refine rat (w := 5) (cnt := 1) (v := 0) ⟨by rw [q_n (by omega)]; exact h72.1, by rw [q_n (by omega)]; exact h72.2⟩ (by omega) (by omega) (by omega) (by omega) (by omega) (by omega) (by rw [q_n (by omega)]; exact h732) (nm_e (nm_e ?_))
    rw [show (0 : Int32) + 1 = 1 by decide, q_n (show t ≠ 65 by omega), q_n (show t ≠ 65 by omega), h5, show (0 : Int32) + 1 = 1 by decide]
    have e10 : (sF (sF (sF σ 65 15 1) 65 14 1) t 5 1).1 65 10 = pv := by rw [q_n (by omega), q_o (by omega), q_o (by omega)]; exact h10
    have e6 : (sF (sF (sF σ 65 15 1) 65 14 1) t 5 1).1 t 6 = 0 := by rw [q_o (by omega), q_n (by omega), q_n (by omega)]; exact h6
    rw [e10, e6, g0, g0]
    -- the same end on both ways
    have fin : ∀ v, v = clOf pv → ∀ ρ, ρ = sF (sF (sF (sF (sF (sF σ 65 15 1) 65 14 1) t 5 1) t 6 v) t 7 1) t 8 1 → wp_X7_add 70 192 ρ (fun (x12 : Int32) (σ11 : FS) => ∀ σ13 : FS, σ13 = sF σ11 65 13 x12 → wp_X7_put 70 192 σ13 (σ13.1 65 13) 0 0 (fun (σ14 : FS) => wp_X7_put 70 192 σ14 (σ14.1 65 13) 1 (-1) (fun (σ15 : FS) => wp_X7_put 70 192 σ15 (σ15.1 65 13) 2 (σ15.1 66 2) (fun (σ16 : FS) => wp_X3_layPlaces σ16 0 (fun (σ17 : FS) => vp_in 0 10 ∧ (∀ σ18 : FS, σ18 = sF σ17 65 12 (g σ17 53 0) → Ψ σ18)))))) := by
      intro v hv ρ hρ
      have G : Fr (fun a => decide (a = 65 ∨ a = t)) σ ρ := by
        rw [hρ]
        exact (((((Fr.rf.put (decide_eq_true (by omega))).put (decide_eq_true (by omega))).put (decide_eq_true (by omega))).put (decide_eq_true (by omega))).put (decide_eq_true (by omega))).put (decide_eq_true (by omega))
      have gf : ∀ a, ¬ (a = 65 ∨ a = t) → (fun a => decide (a = 65 ∨ a = t)) a = false := fun a ha => decide_eq_false ha
      refine frame_ok (c := c) (hD.fr G (fun k _ _ => gf k (by omega))) (tb_fr h70 G (gf _ (by omega))) (tb_fr h66 G (gf _ (by omega))) (tb_fr h68 G (gf _ (by omega))) (by rw [G.1 53 (gf _ (by omega))]; exact h53) (fun τ F e12 e13 e16 hf q3 q68 => ?_)
      have ff : ∀ a, ¬ (65 ≤ a ∧ a ≤ 71) → (fun a => decide (65 ≤ a ∧ a ≤ 71)) a = false := fun a ha => decide_eq_false ha
      refine h τ ((G.mono (fun a ha => gf a (by have := of_decide_eq_false ha; omega))).tr (F.mono (fun a ha => ff a (by have := of_decide_eq_false ha; omega)))) e12 e13 ?_ hf q3 q68 ?_ (fun j hj => ?_)
      · rw [e16, hρ, q_n (by omega), q_n (by omega), q_n (by omega), q_n (by omega), q_o (by omega), q_o (by omega)]
      · rw [F.1 t (ff t (by omega)), hρ]
        refine ⟨?_, ?_, ?_, ?_⟩
        · rw [q_o (by omega), q_o (by omega), q_o (by omega), q_s]
        · rw [q_o (by omega), q_o (by omega), q_s]; exact hv
        · rw [q_o (by omega), q_s]
        · rw [q_s]
      · rw [F.1 t (ff t (by omega)), hρ, q_o (by omega), q_o (by omega), q_o (by omega), q_o (by omega), q_n (by omega), q_n (by omega)]
    have e7 : ∀ v, (sF (sF (sF (sF σ 65 15 1) 65 14 1) t 5 1) t 6 v).1 t 7 = 0 := fun v => by rw [q_o (by omega), q_o (by omega), q_n (by omega), q_n (by omega)]; exact h7
    have e14 : ∀ v, (sF (sF (sF (sF σ 65 15 1) 65 14 1) t 5 1) t 6 v).1 65 14 = 1 := fun v => by rw [q_n (by omega), q_n (by omega), q_s]
    have e8 : ∀ v w, (sF (sF (sF (sF (sF σ 65 15 1) 65 14 1) t 5 1) t 6 v) t 7 w).1 t 8 = 0 := fun v w => by rw [q_o (by omega), q_o (by omega), q_o (by omega), q_n (by omega), q_n (by omega)]; exact h8
    have e15 : ∀ v w, (sF (sF (sF (sF (sF σ 65 15 1) 65 14 1) t 5 1) t 6 v) t 7 w).1 65 15 = 1 := fun v w => by rw [q_n (by omega), q_n (by omega), q_n (by omega), q_o (by omega), q_s]
    have m01 : ma 0 1 = 1 := by decide
    by_cases hp : pv &&& 4 = 0
    · refine br_t hp ⟨z10, nm_e (nm_e ?_)⟩
      rw [e7, e14, m01]
      refine nm_e (nm_e ?_)
      rw [e8, e15, m01]
      refine nm_e (fin _ ?_ _ rfl)
      have : (sF (sF (sF σ 65 15 1) 65 14 1) t 5 1).1 6 0 = 4 := by rw [q_n (by omega), q_n (by omega), q_n (by omega)]; exact hD.1.2.2.2.2.2
      rw [this]
      unfold clOf; rw [if_pos hp]; rfl
    · refine br_f hp ⟨z10, ?_⟩
      have : (sF (sF (sF σ 65 15 1) 65 14 1) t 5 1).1 33 0 = 0 := by rw [q_n (by omega), q_n (by omega), q_n (by omega)]; exact h33
      rw [this]
      refine bitCount_0 (nm_e (nm_e ?_))
      rw [e7, e14, m01]
      refine nm_e (nm_e ?_)
      rw [e8, e15, m01]
      refine nm_e (fin _ ?_ _ rfl)
      unfold clOf; rw [if_neg hp]; rfl
  exact p1
/-- the state behind a run -/
def fin (T : TT) (c : Int32) (top most : Nat) : MS := it (stp T c top most) 1000000 m00
theorem execute_ok {pv dp : Int32} (ht : t = 80 ∨ t = 84) (hO : Ok T c N top σ) (h12 : 12 ≤ kd T top) (hW : WT σ) (hc : σ.1 52 3 = 0 → CK T c false top 52 σ) (hm : most ≤ 3000)
    (h : ∀ τ, OutR T c (clOf pv) top t σ (fin T c top most) τ → Ψ τ) : wp_X3_execute t σ pv (nI most) dp Ψ := by
  have ht' : 80 ≤ t := by omega
  have htN := hO.2.2.2.1
  unfold wp_X3_execute
  refine layOut_ok (T := T) (c := c) (N := N) (top := top) (fl := false) (by omega) hO (by unfold fp; decide) hc (fun τ1 F1 e1 c1 => ?_)
  have O1 := hO.frb (by omega) F1
  have W1 : WT τ1 := ⟨wt_fr hW.1 F1 rfl, wt_fr hW.2.1 F1 rfl, wt_fr hW.2.2.1 F1 rfl, wt_fr hW.2.2.2.1 F1 rfl, wt_fr hW.2.2.2.2 F1 rfl⟩
  refine clear_ok' W1 (fun τ2 F2 ⟨b66, b68, b70, b72, b74⟩ ⟨z13, z14, z15, z16⟩ => nm_e (nm_e ?_))
  have F3 : Fr (fun a => a == 65) τ2 (sF (sF τ2 65 10 pv) 65 11 dp) := (Fr.rf.put rfl).put rfl
  have e65 : ∀ j, 12 ≤ j → (sF (sF τ2 65 10 pv) 65 11 dp).1 65 j = τ2.1 65 j := fun j hj => by rw [q_o (by omega), q_o (by omega)]
  have e10 : (sF (sF τ2 65 10 pv) 65 11 dp).1 65 10 = pv := by rw [q_o (by omega), q_s]
  refine start_ok (t := t) (fun τ4 F4 ⟨y0, y1, y2, y3, y4, y5, y6, y7, y8, y9⟩ => ?_)
  have x4 : ∀ a, a ≠ t → a ≠ 65 → τ4.1 a = τ2.1 a := fun a p q => by rw [F4.1 a (beq_false_of_ne p), F3.1 a (beq_false_of_ne q)]
  have x65 : ∀ j, 12 ≤ j → τ4.1 65 j = τ2.1 65 j := fun j hj => by rw [F4.1 65 (beq_false_of_ne (by omega)), e65 j hj]
  have tb4 : ∀ b w, b ≠ t → b ≠ 65 → tb b w 0 τ2 → tb b w 0 τ4 := fun b w p q hh => by unfold tb; rw [x4 b p q]; exact hh
  rw [x65 14 (by omega), z14]
  refine keepReturn_ok (b0 := -1) (l0 := 0) (tb4 72 5 (by omega) (by omega) b72) (by rw [x65 13 (by omega)]; exact z13) (by rw [x4 74 (by omega) (by omega)]; exact b74.2) (fun τ5 F5 v72 r0 r1 r2 r4 => ?_)
  have x5 : ∀ a, a ≠ 72 → a ≠ 73 → τ5.1 a = τ4.1 a := fun a p q => F5.1 a (f2 p q)
  have S4 : Fr (SX t) σ τ5 := by
    refine (F1.mono (fun a ha => Sb_f (by have := of_decide_eq_false ha; omega))).tr ((F2.mono (fun a ha => S65_f (by have := of_decide_eq_false ha; omega))).tr ((F3.mono (fun a ha => beq_false_of_ne (by have := of_decide_eq_false ha; omega))).tr ((F4.mono (fun a ha => beq_false_of_ne (by have := of_decide_eq_false ha; omega))).tr (F5.mono (fun a ha => f2 (by have := of_decide_eq_false ha; omega) (by have := of_decide_eq_false ha; omega))))))
  have O5 : Ok T c N top τ5 := hO.fr S4 (fun a _ _ => SX_f (by omega))
  have y5' : ∀ j, τ5.1 t j = τ4.1 t j := fun j => by rw [x5 t (by omega) (by omega)]
  have c5 : CK T c false top 52 τ5 := CK_fr (CK_fr (CK_fr (CK_fr c1 F2 (fun a a1 a2 => S65_f (by omega))) F3 (fun a a1 a2 => beq_false_of_ne (by omega))) F4 (fun a a1 a2 => beq_false_of_ne (by omega))) F5 (fun a a1 a2 => f2 (by omega) (by omega))
  have e523 : τ5.1 52 3 = 0 := by rw [x5 52 (by omega) (by omega), x4 52 (by omega) (by omega), F2.1 52 (S65_f (by omega))]; exact e1
  have tb5 : ∀ b w, b ≠ t → b ≠ 65 → b ≠ 72 → b ≠ 73 → tb b w 0 τ2 → tb b w 0 τ5 := fun b w p q r s hh => by unfold tb; rw [x5 b r s]; exact tb4 b w p q hh
  refine call_ok (t := t) (c := c) (pv := pv) ht' O5.2.1 O5.2.2.1.2.2.1 ?_ ?_ v72 r2 ⟨by rw [y5']; exact y5, by rw [y5']; exact y6, by rw [y5']; exact y7, by rw [y5']; exact y8⟩ (tb5 70 3 (by omega) (by omega) (by omega) (by omega) b70) (tb5 66 2 (by omega) (by omega) (by omega) (by omega) b66) (tb5 68 2 (by omega) (by omega) (by omega) (by omega) b68) c5.2.1 (fun τ6 F6 u12 u13 u16 uf q3 q68 ucl uo => ?_)
  · rw [x5 65 (by omega) (by omega), x65 15 (by omega)]; exact z15
  · rw [x5 65 (by omega) (by omega), F4.1 65 (beq_false_of_ne (by omega)), e10]
  have S6 : Fr (SX t) σ τ6 := S4.tr (F6.mono (fun a ha => Sca_f (by have := of_decide_eq_false ha; omega)))
  have O6 : Ok T c N top τ6 := hO.fr S6 (fun a _ _ => SX_f (by omega))
  have b74' : tb 74 5 0 τ6 := tb_fr (tb5 74 5 (by omega) (by omega) (by omega) (by omega) b74) F6 (Sca_f (by omega))
  have R : RunR T c (clOf pv) N top t most σ 0 m00 τ6 := by
    refine ⟨S6, ?_, ⟨O6, ?_, u13, uf, ⟨tb_fr v72 F6 (Sca_f (by omega)), ?_, ?_, ?_⟩, ucl⟩, ⟨u12, ⟨q68, Nat.zero_le _, fun i hi => absurd hi (Nat.not_lt_zero i)⟩, q3, ⟨b74', Nat.zero_le _, fun i hi => absurd hi (Nat.not_lt_zero i)⟩, ⟨?_, ?_, fun i hi => absurd hi (Nat.not_lt_zero i), ?_, ?_, ?_, ?_⟩, ?_⟩, rfl, ⟨?_, rfl, rfl, rfl, fun r hr => absurd hr (Nat.not_lt_zero r)⟩, Nat.zero_le _, Nat.zero_le _⟩
    · rw [F6.1 52 (Sca_f (by omega))]; exact e523
    · exact CK_fr c5 F6 (fun a a1 a2 => Sca_f (by omega))
    · rw [F6.1 73 (Sca_f (by omega))]; exact r0
    · rw [F6.1 73 (Sca_f (by omega))]; exact r1
    · rw [F6.1 73 (Sca_f (by omega))]; exact r4
    · rw [uo 3 (by omega), y5']; exact y3
    · rw [uo 4 (by omega), y5']; exact y4
    · rw [uo 0 (by omega), y5']; exact y0
    · rw [uo 1 (by omega), y5']; exact y1
    · rw [uo 2 (by omega), y5']; exact y2
    · rw [uo 9 (by omega), y5']; exact y9
    · rw [u16, x5 65 (by omega) (by omega), x65 16 (by omega)]; exact z16
    · show 0 < ln T false top + 2; omega
  exact turns ht' h12 hm R (fun τ' x hh => h τ' hh)
end PW
