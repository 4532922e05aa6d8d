section QJ
variable {T T' : TT} {N top n d d' : Nat} {σ τ ρ : FS} {k : Nat} {Φ : Int32 → FS → Prop} {Ψ : FS → Prop} {c : Int32} {ga : SG} {b : Option Nat} {B : Nat → Prop} {D : Nat}
/-- the program and the BREAK that is to come -/
def Tx (T' : TT) (top : Nat) : TT := fu T' (top + 1) (rcd 17 9 none none none (top + 1))
theorem tx_o {k : Nat} (h : k ≠ top + 1) : Tx T' top k = T' k := fu_o h
theorem tx_n : Tx T' top (top + 1) = rcd 17 9 none none none (top + 1) := fu_T
theorem tx_part {k p : Nat} (h : part (Tx T' top) k p) : k ≠ top + 1 ∧ part T' k p := by
  by_cases e : k = top + 1
  · unfold part pB pC pA at h
    rw [e, tx_n] at h
    rcases h with h | h | h <;> cases h
  · refine ⟨e, ?_⟩
    unfold part pB pC pA at h ⊢
    rw [tx_o e] at h; exact h
theorem enter (p : Pc false T0 0 c σ B D T' (top + 1) d' τ) : Sit (Tx T' top) c (top + 1) top τ ∧ Bd (top + 1) none τ ∧ τ.1 0 9 = 1 ∧ τ.1 0 13 = 0 ∧ τ.1 88 3 = nI (top + 1) ∧ τ.1 88 2 = nI d' := by
  obtain ⟨⟨⟨b1, b2, ⟨b3, b4, b5, b6, b7⟩, b8, b9⟩, g1, g2, g3, g4, g5, g6, g7, g8, g9, g10⟩, -, -, -, -, ⟨r1, r2, r3, r4⟩, -, lb, -⟩ := p
  have r2' : 12 ≤ kd T' top := r2
  have r3' : lo T' top = 0 := r3
  have r4' : τ.1 18 top = -1 := r4
  have pl : PL (Tx T' top) := fun k p h => g6 k p (tx_part h).2
  have wf : ∀ k, k < top + 1 → WF (Tx T' top) k := fun k hk => WF_ext (g7 k hk).2 (fun p hp => g6 k p hp) (fun j hj => tx_o (by omega))
  have P18 : ∀ k p, k < top + 1 → part (Tx T' top) k p → τ.1 18 p = nI k := fun k p hk hp => g8 k p hk (tx_part hp).2
  refine ⟨⟨⟨g1, g3, pl, fun k hk => ⟨?_, wf k hk⟩⟩, b1, b8, ⟨b4, b5, b6⟩, ⟨⟨pl, fun k hk => wf k (by omega), ?_, fun k k' j hk hk' p p' => ?_, by omega⟩, ?_, lb.ext (fun k hk => tx_o (by omega)), ?_⟩, P18, r4', Or.inl rfl⟩, ⟨b2, fun k hk => ?_⟩, b3, b7, g2, g4⟩
  · have := (g7 k hk).1
    unfold mt kd av pB pC at this ⊢
    rw [tx_o (by omega)]; exact this
  · unfold lo at r3' ⊢
    rw [tx_o (by omega)]; exact r3'
  · exact (nI_eq (by omega) (by omega)).mp ((P18 k j (by omega) p).symm.trans (P18 k' j (by omega) p'))
  · unfold kd at r2' ⊢
    rw [tx_o (by omega)]; exact r2'
  · unfold kd; rw [tx_n]
  · rw [g9 k hk, if_neg (fun q => by cases q)]
theorem ct_all {p : Nat → Bool} : ∀ n, (∀ k, k < n → p k = true) → ct p n = n := by
  intro n
  induction n with
  | zero => intro _; rfl
  | succ n ih =>
    intro h
    unfold ct
    rw [ih (fun k hk => h k (by omega)), h n (by omega)]; rfl
theorem ct_no {p : Nat → Bool} : ∀ n, (∀ k, k < n → p k = false) → ct p n = 0 := by
  intro n
  induction n with
  | zero => intro _; rfl
  | succ n ih =>
    intro h
    unfold ct
    rw [ih (fun k hk => h k (by omega)), h n (by omega)]; rfl
/-- no body: everything is in none, and there is a fault -/
theorem many3_n (hS : Sit T c N top σ) (hB : Bd N none σ) (hN : N = top + 1) (h9 : σ.1 0 9 = 1) (h : ∀ τ, K0 σ τ → Sit T c N top τ → Bd N none τ → τ.1 0 9 = 0 → Mn T c N (fun _ => false) lT τ → τ.1 34 3 = 1 → Φ 1 τ) : wp_X8_many σ 3 Φ := by
  unfold wp_X8_many
  refine br_f (by decide) (br_f (by decide) (needArg_ok (ref_n hS hB hN h9 (fun τ K S' B' z M q => ?_))))
  refine br_f (by decide) (br_f (by decide) (br_f (by decide) (br_t rfl ?_)))
  rw [q]
  exact h τ K S' B' z M q
theorem many2_n {lp : Nat → Bool} (h9 : σ.1 0 9 = 0) (hM : Mn T c N (fun _ => false) lp σ) (h : Φ (nI N) σ) : wp_X8_many σ 2 Φ := by
  unfold wp_X8_many
  refine br_f (by decide) (br_f (by decide) (needArg_ok (refresh_no h9 ?_)))
  refine br_f (by decide) (br_f (by decide) (br_t rfl ?_))
  rw [hM.2.2.2.1, show cN (fun _ => false) N = N from ct_all N (fun k _ => rfl)]
  exact h
/-- a body is there: no fault -/
theorem many3_t (hS : Sit T c N top σ) (hB : Bd N (some top) σ) (h9 : σ.1 0 9 = 1) (h : ∀ τ, K0 σ τ → Sit T c N top τ → Bd N (some top) τ → Gs T c N top τ → Φ 0 τ) : wp_X8_many σ 3 Φ := by
  unfold wp_X8_many
  refine br_f (by decide) (br_f (by decide) (needArg_ok (ref_t hS hB h9 (fun τ K S' B' G => ?_))))
  refine br_f (by decide) (br_f (by decide) (br_f (by decide) (br_t rfl ?_)))
  rw [G.2.2.2.2.1]
  exact h τ K S' B' G
theorem many5_t (hS : Sit T c N top σ) (hB : Bd N (some top) σ) (h9 : σ.1 0 9 = 1) (h : ∀ τ, K0 σ τ → Sit T c N top τ → Bd N (some top) τ → Gs T c N top τ → Φ (nI (cF T (iT top) N)) τ) : wp_X8_many σ 5 Φ := by
  unfold wp_X8_many
  refine br_f (by decide) (br_f (by decide) (needArg_ok (ref_t hS hB h9 (fun τ K S' B' G => ?_))))
  refine br_f (by decide) (br_f (by decide) (br_f (by decide) (br_f (by decide) (br_f (by decide) (br_t rfl ?_)))))
  rw [G.1.2.2.1.2.2.2.2.1]
  exact h τ K S' B' G
theorem cF_2 : cF T (iT top) (top + 2) = cF T (iT top) (top + 1) := by
  show ct _ (top + 1) + (if (iT top (top + 1) && (fw T (top + 1)).1) = true then 1 else 0) = _
  rw [iT_f (by omega)]; rfl
theorem cN_1 : cN (iT top) (top + 1) = 0 := ct_no _ (fun k hk => by rw [iT_t (by omega)]; rfl)
theorem cN_o : cN (iO top) (top + 2) = top + 1 := by
  show ct _ (top + 1) + (if (!iO top (top + 1)) = true then 1 else 0) = _
  rw [ct_all (top + 1) (fun k hk => by rw [show iO top k = false from beq_false_of_ne (by omega)]; rfl), show iO top (top + 1) = true from beq_iff_eq.mpr rfl]; rfl
theorem cF_o (hP : PL T) (h17 : kd T (top + 1) = 17) : cF T (iO top) (top + 2) = 0 := by
  refine ct_no _ (fun k hk => ?_)
  by_cases e : k = top + 1
  · rw [e, fw_eq hP]
    unfold fwF
    rw [h17, if_neg (by decide), if_neg (by decide), Bool.and_false]
  · rw [show iO top k = false from beq_false_of_ne e]; rfl
/-- the BREAK alone is the body -/
def Lo (T : TT) (c : Int32) (top : Nat) (σ : FS) : Prop := Sit T c (top + 2) top σ ∧ Bd (top + 2) (some (top + 1)) σ ∧ σ.1 0 9 = 0 ∧ Mn T c (top + 2) (iO top) (fun _ => false) σ ∧ σ.1 34 3 = 1 ∧ σ.1 35 0 = 6
theorem many2_o (hS : Sit T c (top + 2) top σ) (hB : Bd (top + 2) (some (top + 1)) σ) (h9 : σ.1 0 9 = 1) (h : ∀ τ, K0 σ τ → Lo T c top τ → Φ (nI (top + 1)) τ) : wp_X8_many σ 2 Φ := by
  unfold wp_X8_many
  refine br_f (by decide) (br_f (by decide) (needArg_ok (ref_o hS hB rfl h9 (fun τ K S' B' z M q q2 => ?_))))
  refine br_f (by decide) (br_f (by decide) (br_t rfl ?_))
  rw [M.2.2.2.1, cN_o]
  exact h τ K ⟨S', B', z, M, q, q2⟩
theorem many5_o (hL : Lo T c top σ) (h : Φ 0 σ) : wp_X8_many σ 5 Φ := by
  unfold wp_X8_many
  refine br_f (by decide) (br_f (by decide) (needArg_ok (refresh_no hL.2.2.1 ?_)))
  refine br_f (by decide) (br_f (by decide) (br_f (by decide) (br_f (by decide) (br_f (by decide) (br_t rfl ?_)))))
  rw [hL.2.2.2.1.2.2.2.2.1, cF_o hL.1.1.2.2.1 hL.1.2.2.2.2.1.2.2.2]
  exact h
theorem many3_o (hL : Lo T c top σ) (h : Φ 1 σ) : wp_X8_many σ 3 Φ := by
  unfold wp_X8_many
  refine br_f (by decide) (br_f (by decide) (needArg_ok (refresh_no hL.2.2.1 ?_)))
  refine br_f (by decide) (br_f (by decide) (br_f (by decide) (br_t rfl ?_)))
  rw [hL.2.2.2.2.1]; exact h
theorem many10_o (hL : Lo T c top σ) (h : Φ 0 σ) : wp_X8_many σ 10 Φ := by
  unfold wp_X8_many
  refine br_f (by decide) (br_f (by decide) (needArg_ok (refresh_no hL.2.2.1 ?_)))
  refine br_f (by decide) (br_f (by decide) (br_f (by decide) (br_f (by decide) (br_f (by decide) (br_f (by decide) (br_f (by decide) (br_f (by decide) (br_f (by decide) (br_f (by decide) ?_)))))))))
  unfold wp_X8_wholeCodeLength
  exact br_f (by rw [hL.2.2.2.2.1]; decide) h
theorem fault_o (hL : Lo T c top σ) (h : Φ 6 σ) : wp_X8_fault σ 0 0 Φ := by
  unfold wp_X8_fault
  refine refresh_no hL.2.2.1 (br_f (by decide) (br_f (by rw [hL.2.2.2.2.1]; decide) (needPlace_ok (br_f (by decide) (br_f (by decide) (needArg_ok (br_t rfl ⟨?_, ?_⟩)))))))
  · rw [i0]; exact q_in (by omega) (by omega)
  · rw [g0, hL.2.2.2.2.2]; exact h
theorem node_o (hL : Lo T c top σ) {a : Nat} (ha : a ≤ top) (h : Φ (-1) σ) : wp_X8_ofNode σ (nI a) 4 Φ ∧ wp_X8_ofNode σ (nI a) 7 Φ := by
  have hN := hL.1.1.2.1
  have hin := q_in (show a < 110 by omega) (show 110 < 2 ^ 31 by omega)
  obtain ⟨m1, m2, -⟩ := hL.2.2.2.1.1 a (by omega)
  have f : iO top a = false := beq_false_of_ne (by omega)
  rw [f, if_neg Bool.false_ne_true] at m1
  have e23 : σ.1 23 a = -1 := by
    rw [m2.2.1]; unfold oW nd
    rw [f, Bool.false_and, if_neg Bool.false_ne_true]
  unfold wp_X8_ofNode
  refine ⟨needNode_ok hL.1.1.1 hN (by omega) (br_f (by decide) (br_f (by decide) (needArg_ok (refresh_no hL.2.2.1 ?_)))), needNode_ok hL.1.1.1 hN (by omega) (br_f (by decide) (br_f (by decide) (needArg_ok (refresh_no hL.2.2.1 ?_))))⟩
  · rw [q_I (k := 21) (by omega), m1]
    exact br_f (by decide) (br_f (by decide) (br_f (by decide) (br_f (by decide) (br_t rfl ⟨hin, h⟩))))
  · rw [q_I (k := 23) (by omega), e23]
    exact br_f (by decide) (br_f (by decide) (br_f (by decide) (br_f (by decide) (br_f (by decide) (br_f (by decide) (br_f (by decide) ⟨hin, h⟩))))))
/-- run() -/
def S80 (a : Nat) : Bool := decide (a = 0 ∨ (52 ≤ a ∧ a ≤ 75) ∨ (80 ≤ a ∧ a ≤ 83))
theorem S80_f {a : Nat} (h : ¬ (a = 0 ∨ (52 ≤ a ∧ a ≤ 75) ∨ (80 ≤ a ∧ a ≤ 83))) : S80 a = false := decide_eq_false h
theorem run_ok (hG : Gs T c N top σ) (h : ∀ τ, Fr S80 σ τ → Gs T c N top τ → (∀ k, k ≤ 9 → τ.1 80 k = ansF (clOf 7) (fin T c top 1000) k) → Q5m 80 (fin T c top 1000) τ → τ.1 0 13 = σ.1 0 13 + 1 → Φ (ansF (clOf 7) (fin T c top 1000) 0) τ) : wp_X8_run σ Φ := by
  unfold wp_X8_run
  refine refresh_no hG.2.2.2.1.1 (br_t hG.2.2.2.2.1 (needState_ok ?_))
  rw [hG.2.2.2.1.2.1, hG.2.2.2.1.2.2.1]
  refine execute_ok (T := T) (c := c) (N := N) (Or.inl rfl) hG.1 hG.2.1 hG.2.2.1 hG.2.2.2.2.2.2 (by omega) (fun τ hO => nm_e ?_)
  have G := run_G (Or.inl rfl) hG hO
  have an := fun k hk => out_ans hO (k := k) hk
  have q5 := hO.2.2.2.2.1
  have F := hO.1
  have F2 : Fr S80 σ (sF τ 0 13 (τ.1 0 13 + 1)) := (F.mono (fun a ha => SX_f (by have := of_decide_eq_false ha; omega))).put (by decide)
  have e : ∀ a, a ≠ 0 → (sF τ 0 13 (τ.1 0 13 + 1)).1 a = τ.1 a := fun a ha => q_n ha
  have F3 : Fr (fun a => a == 0) τ (sF τ 0 13 (τ.1 0 13 + 1)) := Fr.rf.put rfl
  have G2 : Gs T c N top (sF τ 0 13 (τ.1 0 13 + 1)) := by
    obtain ⟨g1, g2, g3, g4, g5, g6, g7⟩ := G
    refine ⟨g1.fr F3 (fun a h1 h2 => beq_false_of_ne (by omega)), g2, ⟨wt_fr g3.1 F3 rfl, wt_fr g3.2.1 F3 rfl, wt_fr g3.2.2.1 F3 rfl, wt_fr g3.2.2.2.1 F3 rfl, wt_fr g3.2.2.2.2 F3 rfl⟩, ?_, by rw [e 34 (by omega)]; exact g5, fun fl a1 a2 => ?_, fun a1 => ?_⟩
    · rw [q_o (by omega), q_o (by omega), q_o (by omega), q_o (by omega)]; exact g4
    · rw [e 39 (by omega)] at a1 a2
      exact CK_frb (g6 fl a1 a2) F3 (fun a a3 a4 => beq_false_of_ne (by omega))
    · rw [e 52 (by omega)] at a1
      exact CK_frb (g7 a1) F3 (fun a a3 a4 => beq_false_of_ne (by omega))
  rw [e 80 (by omega), an 0 (by omega)]
  refine h _ F2 G2 (fun k hk => ?_) ?_ ?_
  · rw [e 80 (by omega)]; exact an k hk
  · unfold Q5m Q5 at q5 ⊢
    rw [e 80 (by omega), e 81 (by omega), e 82 (by omega), e 83 (by omega)]; exact q5
  · rw [q_s, F.1 0 (SX_f (by omega))]
theorem wouldRun_ok {most : Nat} (hG : Gs T c N top σ) (h1 : 1 ≤ most) (hm : most ≤ 3000) (hk : k ≤ 9) (h : ∀ τ, Fr SO σ τ → Gs T c N top τ → Φ (ansF (clOf 7) (fin T c top most) k) τ) : wp_X8_wouldRun σ (nI most) 1 (nI k) Φ := by
  unfold wp_X8_wouldRun wp_X8_areLimits
  refine br_f (nI_nlt (a := most) (b := 1) h1 (by omega)) (br_f (nI_nlt (a := 3000) (b := most) hm (by omega)) (br_f (by decide) (br_f (by decide) (br_f (by decide) ?_))))
  refine br_f (nI_pos (by omega)) (br_f (nI_nlt (a := 9) (b := k) (by omega) (by omega)) (needArg_ok (refresh_no hG.2.2.2.1.1 (br_t hG.2.2.2.2.1 (needState_ok ?_)))))
  rw [hG.2.2.2.1.2.1]
  refine run84 hG hm (fun τ F G O => answer_ok (by omega) ?_)
  rw [out_ans O (by omega)]
  exact h τ F G
theorem with_ok {pv : Nat} {fl : Bool} (hG : Gs T c N top σ) (hp : pv ≤ 7) (hf : fp (nI pv) fl) (h : ∀ τ, Fr SO σ τ → Gs T c N top τ → Φ (nI (ln T fl top + 2)) τ) : wp_X8_with σ (nI pv) 0 Φ := by
  unfold wp_X8_with wp_X8_isPasses
  refine br_f (nI_pos (by omega)) (br_f (nI_nlt (a := 7) (b := pv) (by omega) (by omega)) (br_f (by decide) (br_f (by decide) (br_f (by decide) (needArg_ok (refresh_no hG.2.2.2.1.1 (br_t hG.2.2.2.2.1 (needState_ok (br_t rfl ?_)))))))))
  exact whole_ok hG hf (q_m1 (by omega)) h
/-- the BREAK is added -/
theorem suits17 (h : Φ 1 σ) : wp_X5_suits σ 17 9 0 0 Φ := by
  have hin : vp_in (17 : Int32) 22 := q_in (i := 17) (by omega) (by omega)
  have rA : tROLE_A (17 : Int32).toNatClampNeg = 3 := by decide
  have rB : tROLE_B (17 : Int32).toNatClampNeg = 0 := by decide
  have rC : tROLE_C (17 : Int32).toNatClampNeg = 0 := by decide
  unfold wp_X5_suits
  rw [rA, rB, rC]
  exact br_f (by decide) (br_t (by decide) ⟨hin, fill3 (a := 9) (by omega) (br_f (by decide) ⟨hin, fill0 (br_f (by decide) ⟨hin, fill0 (br_f (by decide) ⟨hin, hin, same0 (by decide) (br_t rfl ⟨hin, hin, same0 (by decide) (br_t rfl ⟨hin, hin, same0 (by decide) (br_t rfl h)⟩)⟩)⟩)⟩)⟩)⟩)
theorem brk_ok (hS : Sit T c (top + 1) top σ) (hB : Bd (top + 1) (some top) σ) (h88 : σ.1 88 3 = nI (top + 1)) (hn : top + 1 < 110) (hx : T (top + 1) = rcd 17 9 none none none (top + 1))
    (h : ∀ τ, Sit T c (top + 2) top τ → Bd (top + 2) (some top) τ → τ.1 0 9 = 1 → (∀ j, j ≠ 9 → τ.1 0 j = σ.1 0 j) → (∀ a, 76 ≤ a → a < 88 → τ.1 a = σ.1 a) → τ.1 88 3 = nI (top + 2) → τ.1 88 2 = σ.1 88 2 → (∀ a, 89 ≤ a → τ.1 a = σ.1 a) → Φ (nI (top + 1)) τ) : wp_X9_add ga σ 17 9 0 0 Φ := by
  obtain ⟨⟨p1, p2, p3, p4⟩, hD, hW, hl, ht, h18, ht18, -⟩ := hS
  have xx : fu T (top + 1) (rcd 17 9 none none none (top + 1)) = T := by
    funext j
    by_cases e : j = top + 1
    · rw [e, fu_T, hx]
    · rw [fu_o e]
  have hw : WF (fu T (top + 1) (rcd 17 9 none none none (top + 1))) (top + 1) := wf_mk rfl rfl rfl (fun q => (by cases q)) (fun p e => (by cases e)) (fun p e => (by cases e)) (fun p e => (by cases e)) rfl (Nat.le_refl _) (fun p q => (by rcases q with q | q | q <;> cases q)) (fun q => (by cases q)) (fun q => (by cases q))
  unfold wp_X9_add
  rw [h88]
  refine ⟨q_in hn (by omega), fun q1 => nm_e ?_⟩
  unfold wp_X8_node
  refine suits17 (needArg_ok ?_)
  have g1' : (sR σ (nI (top + 1)).toNatClampNeg (some q1)).1 13 0 = nI (top + 1) := p1
  rw [g1']
  refine br_f (nI_ge (b := 110) hn (by omega)) (needState_ok (nm_e ?_))
  refine nadd_ok (T := T) (n := top + 1) (κ := 17) (a := 9) (pb := none) (pc := none) (pa := none) (l := top + 1) (by rw [q_n (by omega)]; exact p1) hn hw (fun p hp => ?_) (nm_e ?_)
  · unfold part pB pC pA at hp
    rw [fu_T] at hp
    rcases hp with hp | hp | hp <;> cases hp
  have E : ∀ (X Y : FS) (a : Nat), a < 88 → (mrg X Y).1 a = X.1 a := fun X Y a ha => by funext j; exact if_pos ha
  have E' : ∀ (X Y : FS) (a : Nat), 88 ≤ a → (mrg X Y).1 a = Y.1 a := fun X Y a ha => by funext j; exact if_neg (by omega)
  rw [E' _ _ 88 (by omega), show (sR σ (nI (top + 1)).toNatClampNeg (some q1)).1 88 3 = nI (top + 1) from h88]
  refine br_t rfl (nm_e ?_)
  rw [nI_1]
  obtain ⟨Y, eY⟩ : ∃ Y, Y = sF (sR σ (nI (top + 1)).toNatClampNeg (some q1)) 0 9 1 := ⟨_, rfl⟩
  obtain ⟨Z, eZ⟩ : ∃ Z, Z = nw Y (top + 1) (nI 17) 9 0 0 := ⟨_, rfl⟩
  obtain ⟨X, eX⟩ : ∃ X : FS, X = sF (mrg Z (sR σ (nI (top + 1)).toNatClampNeg (some q1))) 88 3 (nI (top + 2)) := ⟨_, rfl⟩
  have y0 : ∀ a, a ≠ 0 → Y.1 a = σ.1 a := fun a ha => by rw [eY, q_n ha]; rfl
  have x1 : ∀ a, a < 88 → X.1 a = Z.1 a := fun a ha => by rw [eX, q_n (by omega), E _ _ a ha]
  have xn : ∀ b, b ≠ 0 → ¬ (13 ≤ b ∧ b ≤ 19) → b < 88 → X.1 b = σ.1 b := fun b h1 h2 h3 => by
    rw [x1 b h3, eZ]; unfold nw
    rw [q_n (by omega), q_n (by omega), q_n (by omega), q_n (by omega), q_n (by omega), q_n (by omega), q_n (by omega), y0 b h1]
  have x0 : ∀ j, X.1 0 j = if j = 9 then 1 else σ.1 0 j := fun j => by
    rw [x1 0 (by omega), eZ]; unfold nw
    rw [q_n (by omega), q_n (by omega), q_n (by omega), q_n (by omega), q_n (by omega), q_n (by omega), q_n (by omega), eY, q_e]; rfl
  have x13 : X.1 13 0 = nI (top + 2) := by
    rw [x1 13 (by omega), eZ]; unfold nw
    rw [q_n (by omega), q_n (by omega), q_n (by omega), q_n (by omega), q_n (by omega), q_n (by omega), q_s]
  have x14 : ∀ j, X.1 14 j = if j = top + 1 then nI 17 else σ.1 14 j := fun j => by
    rw [x1 14 (by omega), eZ]; unfold nw
    rw [q_n (by omega), q_n (by omega), q_n (by omega), q_n (by omega), q_n (by omega), q_e, q_n (by omega), y0 14 (by omega)]
  have x15 : ∀ j, X.1 15 j = if j = top + 1 then 9 else σ.1 15 j := fun j => by
    rw [x1 15 (by omega), eZ]; unfold nw
    rw [q_n (by omega), q_n (by omega), q_n (by omega), q_n (by omega), q_e, q_n (by omega), q_n (by omega), y0 15 (by omega)]
  have x16 : ∀ j, X.1 16 j = if j = top + 1 then 0 else σ.1 16 j := fun j => by
    rw [x1 16 (by omega), eZ]; unfold nw
    rw [q_n (by omega), q_n (by omega), q_n (by omega), q_e, q_n (by omega), q_n (by omega), q_n (by omega), y0 16 (by omega)]
  have x17 : ∀ j, X.1 17 j = if j = top + 1 then 0 else σ.1 17 j := fun j => by
    rw [x1 17 (by omega), eZ]; unfold nw
    rw [q_n (by omega), q_n (by omega), q_e, q_n (by omega), q_n (by omega), q_n (by omega), q_n (by omega), y0 17 (by omega)]
  have x18 : ∀ j, X.1 18 j = if j = top + 1 then -1 else σ.1 18 j := fun j => by
    rw [x1 18 (by omega), eZ]; unfold nw
    rw [q_n (by omega), q_e, q_n (by omega), q_n (by omega), q_n (by omega), q_n (by omega), q_n (by omega), y0 18 (by omega)]
  have x19 : ∀ j, X.1 19 j = if j = top + 1 then -1 else σ.1 19 j := fun j => by
    rw [x1 19 (by omega), eZ]; unfold nw
    rw [q_e, q_n (by omega), q_n (by omega), q_n (by omega), q_n (by omega), q_n (by omega), q_n (by omega), y0 19 (by omega)]
  have x88 : ∀ j, X.1 88 j = if j = 3 then nI (top + 2) else σ.1 88 j := fun j => by rw [eX, q_e, E' _ _ 88 (by omega)]; rfl
  have sm : Sm (fun b => decide (b = 0 ∨ (13 ≤ b ∧ b ≤ 19) ∨ 88 ≤ b)) σ X := fun b hb => by
    have := of_decide_eq_false hb
    exact xn b (by omega) (by omega) (by omega)
  have key : Φ (nI (top + 1)) X := by
    refine h X ⟨⟨x13, by omega, p3, fun k hk => ?_⟩, ?_, hW.sm sm rfl rfl rfl rfl rfl, ?_, ht, fun k p hk hp => ?_, ?_, Or.inr ⟨rfl, by rw [x18, if_pos rfl]⟩⟩ ⟨by rw [xn 7 (by omega) (by omega) (by omega)]; exact hB.1, fun k hk => ?_⟩ (by rw [x0, if_pos rfl]) (fun j hj => by rw [x0, if_neg hj]) (fun a h1 h2 => xn a (by omega) (by omega) h2) (by rw [x88, if_pos rfl]) (by rw [x88, if_neg (by omega)]) (fun a ha => by rw [eX, q_n (by omega), E' _ _ a (by omega)]; rfl)
    · by_cases e : k = top + 1
      · rw [e]
        refine ⟨?_, by rw [← xx]; exact hw⟩
        unfold mt kd av pB pC
        rw [x14, x15, x16, x17, if_pos rfl, if_pos rfl, if_pos rfl, if_pos rfl, hx]
        exact ⟨rfl, rfl, rfl, rfl⟩
      · refine ⟨?_, (p4 k (by omega)).2⟩
        unfold mt
        rw [x14, x15, x16, x17, if_neg e, if_neg e, if_neg e, if_neg e]
        exact (p4 k (by omega)).1
    · have e : ∀ b, 1 ≤ b → b < 13 → X.1 b = σ.1 b := fun b p q => xn b (by omega) (by omega) (by omega)
      unfold Dcl
      rw [e 1 (by omega) (by omega), e 2 (by omega) (by omega), e 3 (by omega) (by omega), e 4 (by omega) (by omega), e 5 (by omega) (by omega), e 6 (by omega) (by omega), e 8 (by omega) (by omega), e 9 (by omega) (by omega), e 10 (by omega) (by omega), e 11 (by omega) (by omega), e 12 (by omega) (by omega)]
      exact hD
    · rw [x0, x0, x0, if_neg (by omega), if_neg (by omega), if_neg (by omega)]; exact hl
    · by_cases e : k = top + 1
      · exfalso
        rw [e] at hp
        unfold part pB pC pA at hp
        rw [hx] at hp
        rcases hp with hp | hp | hp <;> cases hp
      · have := p3 k p hp
        rw [x18, if_neg (by omega)]
        exact h18 k p (by omega) hp
    · rw [x18, if_neg (by omega)]; exact ht18
    · rw [x19]
      by_cases e : k = top + 1
      · rw [if_pos e, if_neg (fun q => by cases q; omega)]
      · rw [if_neg e]; exact hB.2 k (by omega)
  rw [eX, eZ, eY] at key
  exact key
end QJ
