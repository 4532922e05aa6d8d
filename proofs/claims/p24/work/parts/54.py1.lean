section PY
theorem nI_div {a b : Nat} (ha : a < 2 ^ 31) (hb : b < 2 ^ 31) : nI a / nI b = nI (a / b) := by
  refine Int32.toInt_inj.mp ?_
  have h3 : a / b < 2 ^ 31 := Nat.lt_of_le_of_lt (Nat.div_le_self a b) ha
  rw [Int32.toInt_div, nI_toInt ha, nI_toInt hb, nI_toInt h3]
  rw [show ((a : Int).tdiv (b : Int)) = ((a / b : Nat) : Int) from rfl]
  obtain ⟨q, hq⟩ : ∃ q, a / b = q := ⟨_, rfl⟩
  rw [hq] at h3 ⊢
  exact Int.bmod_eq_of_le (by omega) (by omega)
theorem nI_mod {a b : Nat} (ha : a < 2 ^ 31) (hb : b < 2 ^ 31) : nI a - nI a / nI b * nI b = nI (a % b) := by
  rw [nI_div ha hb, nI_mul, nI_sub (by have := Nat.div_mul_le_self a b; omega)]
  refine congrArg nI ?_
  have := Nat.div_add_mod a b
  rw [Nat.mul_comm] at this
  omega
variable {T : TT} {N top : Nat} {σ σ0 τ : FS} {k : Nat} {Φ : Int32 → FS → Prop} {Ψ : FS → Prop} {c cl : Int32} {most : Nat} {fl : Bool}
/-- a program without faults, known; what is laid out is right; limits and passes as at first -/
def Gs (T : TT) (c : Int32) (N top : Nat) (σ : FS) : Prop := Ok T c N top σ ∧ 12 ≤ kd T top ∧ WT σ ∧ (σ.1 0 9 = 0 ∧ σ.1 0 10 = 7 ∧ σ.1 0 11 = nI 1000 ∧ σ.1 0 12 = 20) ∧ σ.1 34 3 = 0 ∧
  (∀ fl, σ.1 39 3 ≠ -1 → fp (σ.1 39 3) fl → CK T c fl top 39 σ) ∧ (σ.1 52 3 = 0 → CK T c false top 52 σ)
def SO (a : Nat) : Bool := decide ((39 ≤ a ∧ a ≤ 75) ∨ (84 ≤ a ∧ a ≤ 87))
theorem SO_f {a : Nat} (h : ¬ ((39 ≤ a ∧ a ≤ 75) ∨ (84 ≤ a ∧ a ≤ 87))) : SO a = false := decide_eq_false h
theorem CK_frb {b : Nat} {S : Nat → Bool} (h : CK T c fl top b σ) (hF : Fr S σ τ) (hs : ∀ a, b ≤ a → a ≤ b + 12 → S a = false) : CK T c fl top b τ := by
  have x : ∀ a, b ≤ a → a ≤ b + 12 → τ.1 a = σ.1 a := fun a p q => hF.1 a (hs a p q)
  unfold CK Aq at h ⊢
  rw [x b (by omega) (by omega), x (b + 1) (by omega) (by omega), x (b + 2) (by omega) (by omega), x (b + 3) (by omega) (by omega), x (b + 4) (by omega) (by omega), x (b + 5) (by omega) (by omega), x (b + 6) (by omega) (by omega), x (b + 7) (by omega) (by omega), x (b + 8) (by omega) (by omega), x (b + 9) (by omega) (by omega), x (b + 10) (by omega) (by omega), x (b + 11) (by omega) (by omega)]
  exact h
theorem fp_u {pv : Int32} {fl fl' : Bool} (h : fp pv fl) (h' : fp pv fl') : fl' = fl := by
  have : fB fl = fB fl' := h.symm.trans h'
  cases fl <;> cases fl' <;> first | rfl | (exact absurd this (by decide))
theorem lay39 {pv : Int32} (hG : Gs T c N top σ) (hf : fp pv fl) (hn : pv ≠ -1) (h : ∀ τ, Fr (Sb 39) σ τ → Gs T c N top τ → CK T c fl top 39 τ → Ψ τ) : wp_X0_layOut 39 σ pv Ψ := by
  obtain ⟨g1, g2, g3, g4, g5, g6, g7⟩ := hG
  refine layOut_ok (T := T) (c := c) (fl := fl) (by omega) g1 hf (fun e => g6 fl (by rw [e]; exact hn) (by rw [e]; exact hf)) (fun τ F e ck => h τ F ⟨g1.frb (by omega) F, g2, ⟨wt_fr g3.1 F rfl, wt_fr g3.2.1 F rfl, wt_fr g3.2.2.1 F rfl, wt_fr g3.2.2.2.1 F rfl, wt_fr g3.2.2.2.2 F rfl⟩, by rw [F.1 0 (Sb_f (by omega))]; exact g4, by rw [F.1 34 (Sb_f (by omega))]; exact g5, fun fl' _ hf' => ?_, fun e2 => ?_⟩ ck)
  · rw [e] at hf'
    rw [fp_u hf hf']; exact ck
  · rw [F.1 52 (Sb_f (by omega))] at e2
    exact CK_frb (g7 e2) F (fun a a1 a2 => Sb_f (by omega))
theorem Sb_SO : ∀ a, SO a = false → Sb 39 a = false := fun a ha => Sb_f (by have := of_decide_eq_false ha; omega)
theorem whole_ok {pv : Int32} (hG : Gs T c N top σ) (hf : fp pv fl) (hn : pv ≠ -1) (h : ∀ τ, Fr SO σ τ → Gs T c N top τ → Φ (nI (ln T fl top + 2)) τ) : wp_X8_wholeCodeLength σ pv Φ := by
  unfold wp_X8_wholeCodeLength
  refine br_t hG.2.2.2.2.1 (lay39 (fl := fl) hG hf hn (fun τ F G ck => ?_))
  rw [ck.1]
  exact h τ (F.mono Sb_SO) G
theorem f7 : fp 7 true := by unfold fp; decide
theorem f0 : fp 0 false := by unfold fp; decide
theorem f6 : fp 6 false := by unfold fp; decide
theorem codeLength_ok (hG : Gs T c N top σ) (h : ∀ τ, Fr SO σ τ → Gs T c N top τ → CK T c true top 39 τ → Φ (nI (ln T true top + 2)) τ) : wp_X8_codeLength σ 0 Φ := by
  unfold wp_X8_codeLength
  refine br_t hG.2.2.2.2.1 ?_
  rw [hG.2.2.2.1.2.1]
  refine lay39 (fl := true) hG f7 (by decide) (fun τ F G ck => ⟨z10, ?_⟩)
  rw [g0, show τ.1 41 0 = nI (ln T true top + 2) from ck.2.2.1]
  exact h τ (F.mono Sb_SO) G ck
/-- a run leaves the program as it is -/
theorem run_G {t : Nat} {m : MS} (ht : t = 80 ∨ t = 84) (hG : Gs T c N top σ) (hO : OutR T c cl top t σ m τ) : Gs T c N top τ := by
  obtain ⟨g1, g2, g3, g4, g5, g6, g7⟩ := hG
  obtain ⟨F, e3, ck, wt, -⟩ := hO
  refine ⟨g1.fr F (fun a _ _ => SX_f (by omega)), g2, wt, by rw [F.1 0 (SX_f (by omega))]; exact g4, by rw [F.1 34 (SX_f (by omega))]; exact g5, fun fl a1 a2 => ?_, fun _ => ck⟩
  rw [F.1 39 (SX_f (by omega))] at a1 a2
  exact CK_frb (g6 fl a1 a2) F (fun a a3 a4 => SX_f (by omega))
theorem run84 {pv dp : Int32} (hG : Gs T c N top σ) (hm : most ≤ 3000) (h : ∀ τ, Fr SO σ τ → Gs T c N top τ → OutR T c (clOf pv) top 84 σ (fin T c top most) τ → Ψ τ) : wp_X3_execute 84 σ pv (nI most) dp Ψ :=
  execute_ok (T := T) (c := c) (N := N) (Or.inr rfl) hG.1 hG.2.1 hG.2.2.1 hG.2.2.2.2.2.2 hm (fun τ hO => h τ (hO.1.mono (fun a ha => SX_f (by have := of_decide_eq_false ha; omega))) (run_G (Or.inr rfl) hG hO) hO)
theorem needArg_ok (h : Ψ σ) : wp_X8_needArgument σ 1 Ψ := by unfold wp_X8_needArgument; exact br_f (by decide) h
theorem needState_ok (h : Ψ σ) : wp_X8_needState σ 1 Ψ := by unfold wp_X8_needState; exact br_f (by decide) h
theorem needPlace_ok (h : Ψ σ) : wp_X8_needPlace σ 1 Ψ := by unfold wp_X8_needPlace; exact br_f (by decide) h
theorem needProc_ok (h1 : σ.1 1 0 = 1) (h : Ψ σ) : wp_X8_needProcedure σ 0 Ψ := by
  unfold wp_X8_needProcedure wp_X1_has
  rw [h1]
  exact br_f (by decide) (br_f (by decide) (br_f (by decide) h))
theorem needNode_ok (hN : σ.1 13 0 = nI N) (hN1 : N ≤ 110) (hk : k < N) (h : Ψ σ) : wp_X8_needNode σ (nI k) Ψ := by
  unfold wp_X8_needNode wp_X5_has
  rw [hN]
  exact br_f (nI_pos (by omega)) (br_f (nI_ge hk (by omega)) (br_f (by decide) h))
/-- many() -/
def vMany (T : TT) (N top : Nat) (k : Nat) : Int32 := if k = 0 then 1 else if k = 1 then nI N else if k = 2 then nI (cN (iT top) N) else if k = 3 then 0 else if k = 4 then 0 else if k = 5 then nI (cF T (iT top) N) else if k = 6 then 0 else if k = 7 then 7 else if k = 8 then nI 1000 else if k = 9 then 20 else nI (ln T true top + 2)
theorem many_ok (hG : Gs T c N top σ) (hk : k ≤ 10) (h : ∀ τ, Fr SO σ τ → Gs T c N top τ → Φ (vMany T N top k) τ) : wp_X8_many σ (nI k) Φ := by
  have hD := hG.1.2.1.1
  have hM := hG.1.2.2.1.2
  have h' := h σ Fr.rf hG
  unfold wp_X8_many
  refine br_f (nI_pos (by omega)) (br_f (nI_nlt (a := 10) (b := k) (by omega) (by omega)) (needArg_ok (refresh_no hG.2.2.2.1.1 ?_)))
  rcases (show k = 0 ∨ k = 1 ∨ k = 2 ∨ k = 3 ∨ k = 4 ∨ k = 5 ∨ k = 6 ∨ k = 7 ∨ k = 8 ∨ k = 9 ∨ k = 10 by omega) with rfl | rfl | rfl | rfl | rfl | rfl | rfl | rfl | rfl | rfl | rfl
  · rw [hD.1]
    exact br_t rfl (h')
  · rw [hG.1.1.1]
    exact br_f (by decide) (br_t rfl (h'))
  · rw [hM.2.2.1]
    exact br_f (by decide) (br_f (by decide) (br_t rfl (h')))
  · rw [hG.2.2.2.2.1]
    exact br_f (by decide) (br_f (by decide) (br_f (by decide) (br_t rfl (h'))))
  · rw [hM.2.2.2.2.1]
    exact br_f (by decide) (br_f (by decide) (br_f (by decide) (br_f (by decide) (br_t rfl (h')))))
  · rw [hM.2.2.2.1]
    exact br_f (by decide) (br_f (by decide) (br_f (by decide) (br_f (by decide) (br_f (by decide) (br_t rfl (h'))))))
  · rw [hM.2.2.2.2.2]
    exact br_f (by decide) (br_f (by decide) (br_f (by decide) (br_f (by decide) (br_f (by decide) (br_f (by decide) (br_t rfl (h')))))))
  · rw [hG.2.2.2.1.2.1]
    exact br_f (by decide) (br_f (by decide) (br_f (by decide) (br_f (by decide) (br_f (by decide) (br_f (by decide) (br_f (by decide) (br_t rfl (h'))))))))
  · rw [hG.2.2.2.1.2.2.1]
    exact br_f (by decide) (br_f (by decide) (br_f (by decide) (br_f (by decide) (br_f (by decide) (br_f (by decide) (br_f (by decide) (br_f (by decide) (br_t rfl (h')))))))))
  · rw [hG.2.2.2.1.2.2.2]
    exact br_f (by decide) (br_f (by decide) (br_f (by decide) (br_f (by decide) (br_f (by decide) (br_f (by decide) (br_f (by decide) (br_f (by decide) (br_f (by decide) (br_t rfl (h'))))))))))
  · rw [hG.2.2.2.1.2.1]
    exact br_f (by decide) (br_f (by decide) (br_f (by decide) (br_f (by decide) (br_f (by decide) (br_f (by decide) (br_f (by decide) (br_f (by decide) (br_f (by decide) (br_f (by decide) (whole_ok (fl := true) hG f7 (by decide) (fun τ F G => h τ F G)))))))))))
/-- ofProcedure() of MAIN -/
def vProc (T : TT) (top : Nat) (k : Nat) : Int32 := if k = 0 then -1 else if k = 1 then -1 else if k = 2 then 0 else if k = 3 then 5 else if k = 4 then 0 else if k = 5 then 0 else if k = 6 then nI top else nI (ln T true top + 2)
theorem proc_ok (hG : Gs T c N top σ) (hk : k ≤ 7) (h : ∀ τ, Fr SO σ τ → Gs T c N top τ → Φ (vProc T top k) τ) : wp_X8_ofProcedure σ 0 (nI k) Φ := by
  have hD := hG.1.2.1.1
  have hM := hG.1.2.2.1.2
  have h' := h σ Fr.rf hG
  unfold wp_X8_ofProcedure
  refine needProc_ok hD.1 (br_f (nI_pos (by omega)) (br_f (nI_nlt (a := 7) (b := k) (by omega) (by omega)) (needArg_ok (refresh_no hG.2.2.2.1.1 ?_))))
  rw [g0, g0, g0, g0, g0, g0, g0]
  rcases (show k = 0 ∨ k = 1 ∨ k = 2 ∨ k = 3 ∨ k = 4 ∨ k = 5 ∨ k = 6 ∨ k = 7 by omega) with rfl | rfl | rfl | rfl | rfl | rfl | rfl | rfl
  · rw [hD.2.1]
    exact br_t rfl (⟨z10, h'⟩)
  · rw [hD.2.2.1]
    exact br_f (by decide) (br_t rfl (⟨z10, h'⟩))
  · rw [hD.2.2.2.1]
    exact br_f (by decide) (br_f (by decide) (br_t rfl (⟨z10, h'⟩)))
  · rw [hD.2.2.2.2.1]
    exact br_f (by decide) (br_f (by decide) (br_f (by decide) (br_t rfl (⟨z10, h'⟩))))
  · rw [hM.2.1]
    exact br_f (by decide) (br_f (by decide) (br_f (by decide) (br_f (by decide) (br_t rfl (⟨z10, h'⟩)))))
  · exact br_f (by decide) (br_f (by decide) (br_f (by decide) (br_f (by decide) (br_f (by decide) (br_t rfl (⟨z10, br_t hM.1 h'⟩))))))
  · rw [hG.1.2.2.2.2.2.1]
    exact br_f (by decide) (br_f (by decide) (br_f (by decide) (br_f (by decide) (br_f (by decide) (br_f (by decide) (br_t rfl (⟨z10, h'⟩)))))))
  · exact br_f (by decide) (br_f (by decide) (br_f (by decide) (br_f (by decide) (br_f (by decide) (br_f (by decide) (br_f (by decide) (codeLength_ok hG (fun τ F G _ => h τ F G))))))))
/-- hiddenBy() in MAIN: nothing -/
theorem reaching_0 (hG : Gs T c N top σ) {a : Nat} (ha : 5 ≤ a) (ha2 : a < 16) (h : Φ 0 σ) : wp_X4_reaching σ 0 (nI a) Φ := by
  have hN := hG.1.1.2.1
  unfold wp_X4_reaching
  have := walk (P := fun _ ρ => ρ = σ) (W := fun f τ i => wp_X4_reaching_5 0 (nI a) Φ (fun (σ9 : FS) (_ : Int32) (x11 : Int32) => Φ x11 σ9) f τ i 0) (N := N) (by omega) ?_ ?_ N 0 FUEL σ (by omega) (FUEL_le (by omega)) rfl
  · rw [show (0 : Int32) = nI 0 from i0] at this ⊢; exact this
  · intro i f ρ hi e go
    rw [e]
    have P := hG.1.1.2.2.2 i hi
    have hin := q_in (show i < 110 by omega) (show 110 < 2 ^ 31 by omega)
    unfold wp_X4_reaching_5
    rw [hG.1.1.1, ← nI_succ, q_I (by omega), (hG.1.2.2.1.1 i hi).1]
    refine br_f (nI_ge hi (by omega)) ⟨hin, ?_⟩
    cases iT top i with
    | false => exact br_t rfl (go σ rfl)
    | true =>
      refine br_f (by decide) (hasName_ok (by omega) P.1 P.2 ?_)
      cases hn : nmK (kd T i) with
      | false => exact br_t rfl (go σ rfl)
      | true =>
        obtain ⟨ea, h5, -⟩ := P.2.2.2.2.2.2.1 hn
        refine br_f (by decide) ⟨hin, ?_⟩
        rw [q_I (by omega), P.1.2.1, ea]
        exact br_f (nI_ne (by omega) (by omega) (by omega)) (go σ rfl)
  · intro f ρ e
    show wp_X4_reaching_5 0 (nI a) Φ _ (f + 1) ρ (nI N) 0
    rw [e]
    unfold wp_X4_reaching_5
    rw [hG.1.1.1]
    exact br_t (nI_le (Nat.le_refl N) (by omega)) h
theorem hidden_ok (hG : Gs T c N top σ) (hk : k ≤ 7) (h : Φ 0 σ) : wp_X8_hiddenBy σ 0 (nI k) Φ := by
  unfold wp_X8_hiddenBy
  refine needProc_ok hG.1.2.1.1.1 ?_
  unfold wp_X8_isName
  refine br_f (nI_pos (by omega)) (br_f (nI_ge (b := 16) (by omega) (by omega)) (needArg_ok (refresh_no hG.2.2.2.1.1 ?_)))
  by_cases h5 : k < 5
  · exact declares_y hG.1.2.1 h5 (br_f (by decide) h)
  · unfold wp_X1_declares
    rw [z16]
    refine ⟨q_in (by omega) (by omega), ?_⟩
    rw [q_I (by omega), hG.1.2.1.2.1 k (by omega)]
    have : isN k = -1 := by
      rcases (show k = 5 ∨ k = 6 ∨ k = 7 by omega) with rfl | rfl | rfl <;> rfl
    exact br_t this (br_t rfl (reaching_0 hG (by omega) (by omega) h))
/-- code() of MAIN -/
def qC (T : TT) (c : Int32) (top a : Nat) : QQ := ov (QA T c true top (top + 1) a) (0, 0, 0, 0)
def vCode (T : TT) (c : Int32) (top a k : Nat) : Int32 := if k = 0 then (qC T c top a).1 else if k = 1 then (qC T c top a).2.1 else if k = 2 then (qC T c top a).2.2.1 else nI (cb T true top (top + 1) a)
theorem code_ok {a : Nat} (hG : Gs T c N top σ) (ha : a < ln T true top + 2) (hk : k ≤ 3) (h : ∀ τ, Fr SO σ τ → Gs T c N top τ → Φ (vCode T c top a k) τ) : wp_X8_code σ 0 (nI a) (nI k) Φ := by
  have L := L_le (fl := true) hG.1.tr
  have hin := q_in (show a < 460 by omega) (show 460 < 2 ^ 31 by omega)
  unfold wp_X8_code
  refine needProc_ok hG.1.2.1.1.1 (refresh_no hG.2.2.2.1.1 (br_f (nI_pos (by omega)) (codeLength_ok hG (fun τ F G ck => ?_))))
  have h' := h τ F G
  obtain ⟨q, hq⟩ := cov (c := c) (fl := true) hG.1.tr ha
  have e := ck.2.2.2.2.2 a q hq
  have e' : qC T c top a = Aq 39 τ a := by unfold qC; rw [hq, e]; rfl
  have eb := (ck.2.2.2.2.1 a ha).2
  unfold vCode at h'
  rw [e'] at h'
  refine br_f (nI_ge ha (by omega)) (needPlace_ok (br_f (nI_pos (by omega)) (br_f (nI_nlt (a := 3) (b := k) (by omega) (by omega)) (needArg_ok ⟨z10, nm_e ?_⟩))))
  rw [g0, show τ.1 40 0 = 0 from ck.2.1, Int32.zero_add, q_I (by omega), q_I (by omega), q_I (by omega), q_I (by omega)]
  rcases (show k = 0 ∨ k = 1 ∨ k = 2 ∨ k = 3 by omega) with rfl | rfl | rfl | rfl
  · exact br_t rfl (⟨hin, h'⟩)
  · exact br_f (by decide) (br_t rfl (⟨hin, h'⟩))
  · exact br_f (by decide) (br_f (by decide) (br_t rfl (⟨hin, h'⟩)))
  · rw [show τ.1 47 a = nI (cb T true top (top + 1) a) from eb]
    exact br_f (by decide) (br_f (by decide) (br_f (by decide) (⟨hin, h'⟩)))
/-- ofNode() of 4 to 7 -/
def vNode (T : TT) (top a k : Nat) : Int32 := if k = 4 then (if iT top a then 0 else -1) else if k = 5 then fB (fw T a).1 else if k = 6 then 0 else oW T (iT top) a
theorem ofNode_ok {a : Nat} (hG : Gs T c N top σ) (ha : a < N) (hk : 4 ≤ k) (hk7 : k ≤ 7) (h : Φ (vNode T top a k) σ) : wp_X8_ofNode σ (nI a) (nI k) Φ := by
  have hN := hG.1.1.2.1
  have hin := q_in (show a < 110 by omega) (show 110 < 2 ^ 31 by omega)
  obtain ⟨m1, m2, m3, m4, m5, m6⟩ := hG.1.2.2.1.1 a ha
  unfold wp_X8_ofNode
  refine needNode_ok hG.1.1.1 hN ha (br_f (nI_pos (by omega)) (br_f (nI_nlt (a := 7) (b := k) (by omega) (by omega)) (needArg_ok (refresh_no hG.2.2.2.1.1 ?_))))
  rcases (show k = 4 ∨ k = 5 ∨ k = 6 ∨ k = 7 by omega) with rfl | rfl | rfl | rfl
  · rw [q_I (k := 21) (by omega), m1]
    exact br_f (by decide) (br_f (by decide) (br_f (by decide) (br_f (by decide) (br_t rfl (⟨hin, h⟩)))))
  · rw [q_I (k := 26) (by omega), m3.1]
    cases hf : (fw T a).1 with
    | false =>
      have h2 : Φ 0 σ := by
        have : vNode T top a 5 = 0 := by unfold vNode; rw [if_neg (by omega), if_pos rfl, hf]; rfl
        rw [this] at h; exact h
      exact br_f (by decide) (br_f (by decide) (br_f (by decide) (br_f (by decide) (br_f (by decide) (br_t rfl (⟨hin, br_t rfl h2⟩))))))
    | true =>
      have h2 : Φ 1 σ := by
        have : vNode T top a 5 = 1 := by unfold vNode; rw [if_neg (by omega), if_pos rfl, hf]; rfl
        rw [this] at h; exact h
      exact br_f (by decide) (br_f (by decide) (br_f (by decide) (br_f (by decide) (br_f (by decide) (br_t rfl (⟨hin, br_f (by decide) h2⟩))))))
  · rw [q_I (k := 28) (by omega), m4]
    exact br_f (by decide) (br_f (by decide) (br_f (by decide) (br_f (by decide) (br_f (by decide) (br_f (by decide) (br_t rfl (⟨hin, br_t rfl h⟩)))))))
  · rw [q_I (k := 23) (by omega), m2.2.1]
    exact br_f (by decide) (br_f (by decide) (br_f (by decide) (br_f (by decide) (br_f (by decide) (br_f (by decide) (br_f (by decide) (⟨hin, h⟩)))))))
/-- what an outcome answers -/
theorem answer_ok {b : Nat} (hk : k ≤ 9) (h : Φ (σ.1 b k) σ) : wp_X6_answer b σ (nI k) Φ := by
  unfold wp_X6_answer
  rcases (show k = 0 ∨ k = 1 ∨ k = 2 ∨ k = 3 ∨ k = 4 ∨ k = 5 ∨ k = 6 ∨ k = 7 ∨ k = 8 ∨ k = 9 by omega) with rfl | rfl | rfl | rfl | rfl | rfl | rfl | rfl | rfl | rfl
  · exact br_t rfl (h)
  · exact br_f (by decide) (br_t rfl (h))
  · exact br_f (by decide) (br_f (by decide) (br_t rfl (h)))
  · exact br_f (by decide) (br_f (by decide) (br_f (by decide) (br_t rfl (h))))
  · exact br_f (by decide) (br_f (by decide) (br_f (by decide) (br_f (by decide) (br_t rfl (h)))))
  · exact br_f (by decide) (br_f (by decide) (br_f (by decide) (br_f (by decide) (br_f (by decide) (br_t rfl (h))))))
  · exact br_f (by decide) (br_f (by decide) (br_f (by decide) (br_f (by decide) (br_f (by decide) (br_f (by decide) (br_t rfl (h)))))))
  · exact br_f (by decide) (br_f (by decide) (br_f (by decide) (br_f (by decide) (br_f (by decide) (br_f (by decide) (br_f (by decide) (br_t rfl (h))))))))
  · exact br_f (by decide) (br_f (by decide) (br_f (by decide) (br_f (by decide) (br_f (by decide) (br_f (by decide) (br_f (by decide) (br_f (by decide) (br_t rfl (h)))))))))
  · exact br_f (by decide) (br_f (by decide) (br_f (by decide) (br_f (by decide) (br_f (by decide) (br_f (by decide) (br_f (by decide) (br_f (by decide) (br_f (by decide) (h)))))))))
def vRun (σ : FS) (k : Nat) : Int32 := if k = 10 then σ.1 0 13 else σ.1 80 k
theorem ofRun_ok (hk : k ≤ 10) (h : Φ (vRun σ k) σ) : wp_X8_ofRun σ (nI k) Φ := by
  unfold wp_X8_ofRun
  unfold vRun at h
  refine br_f (nI_pos (by omega)) (br_f (nI_nlt (a := 10) (b := k) (by omega) (by omega)) (needArg_ok ?_))
  by_cases e : k = 10
  · rw [if_pos e] at h
    exact br_t (by rw [e]; rfl) h
  · rw [if_neg e] at h
    exact br_f (nI_ne (b := 10) e (by omega) (by omega)) (answer_ok (by omega) h)
theorem kept_ok {nu : Nat} (h4 : σ.1 80 4 = nI nu) (hn : nu < 2 ^ 31) (h : Φ (nI (min nu 50)) σ) : wp_X6_kept 80 σ Φ := by
  unfold wp_X6_kept
  rw [h4]
  by_cases e : 50 ≤ nu
  · rw [show min nu 50 = 50 by omega] at h
    exact br_t (nI_le (a := 50) e hn) h
  · rw [show min nu 50 = nu by omega] at h
    exact br_f (nI_ge (b := 50) (by omega) (by omega)) h
def vPr (σ : FS) (a k : Nat) : Int32 := if k = 0 then σ.1 81 a else if k = 1 then σ.1 82 a else σ.1 83 a
theorem printed_ok {nu a : Nat} (h4 : σ.1 80 4 = nI nu) (hn : nu < 2 ^ 31) (ha : a < min nu 50) (hk : k ≤ 2) (h : Φ (vPr σ a k) σ) : wp_X8_printed σ (nI a) (nI k) Φ := by
  have hin := q_in (show a < 50 by omega) (show 50 < 2 ^ 31 by omega)
  unfold wp_X8_printed
  refine br_f (nI_pos (by omega)) (kept_ok h4 hn (br_f (nI_ge ha (by omega)) (needPlace_ok (br_f (nI_pos (by omega)) (br_f (nI_nlt (a := 2) (b := k) (by omega) (by omega)) (needArg_ok ?_))))))
  rw [q_I (by omega), q_I (by omega), q_I (by omega)]
  rcases (show k = 0 ∨ k = 1 ∨ k = 2 by omega) with rfl | rfl | rfl
  · exact br_t rfl ⟨hin, h⟩
  · exact br_f (by decide) (br_t rfl ⟨hin, h⟩)
  · exact br_f (by decide) (br_f (by decide) ⟨hin, h⟩)
/-- the outcome of a run, as it is told -/
def ansF (cl : Int32) (m : MS) (k : Nat) : Int32 := if k = 0 then nI m.2.2.2.2.1 else if k = 1 then m.2.2.2.2.2.1 else if k = 2 then (if m.2.2.2.2.1 = 0 then -1 else 0) else if k = 3 then nI (gst m) else if k = 4 then nI (gnu m) else if k = 5 then 1 else if k = 6 then cl else if k = 7 then 1 else if k = 8 then 1 else m.2.2.2.2.2.2
theorem out_ans {t : Nat} {m : MS} (hO : OutR T c cl top t σ m τ) (hk : k ≤ 9) : τ.1 t k = ansF cl m k := by
  obtain ⟨-, -, -, -, ⟨b3, b4, -, b0, b1, b2, b9⟩, e5, e6, e7, e8⟩ := hO
  rcases (show k = 0 ∨ k = 1 ∨ k = 2 ∨ k = 3 ∨ k = 4 ∨ k = 5 ∨ k = 6 ∨ k = 7 ∨ k = 8 ∨ k = 9 by omega) with rfl | rfl | rfl | rfl | rfl | rfl | rfl | rfl | rfl | rfl
  · exact b0
  · exact b1
  · exact b2
  · exact b3
  · exact b4
  · exact e5
  · exact e6
  · exact e7
  · exact e8
  · exact b9
end PY
