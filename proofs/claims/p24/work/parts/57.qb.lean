section QB
variable {T : TT} {n d : Nat} {σ τ : FS} {k : Nat} {Φ : Int32 → FS → Prop} {Ψ : FS → Prop} {c : Int32} {ga : SG}
theorem fu_T {T : TT} {n : Nat} {r : (Nat × Int32) × (Option Nat × Option Nat × Option Nat) × Nat} : fu T n r n = r := fu_s
theorem WF_ext {T T' : TT} (h : WF T k) (hP : ∀ p, part T k p → p < k) (he : ∀ j, j ≤ k → T' j = T j) : WF T' k := by
  have ek : ∀ j, j ≤ k → kd T' j = kd T j := fun j hj => by unfold kd; rw [he j hj]
  have eb : pB T' k = pB T k := by unfold pB; rw [he k (Nat.le_refl k)]
  have ec : pC T' k = pC T k := by unfold pC; rw [he k (Nat.le_refl k)]
  have ea : pA T' k = pA T k := by unfold pA; rw [he k (Nat.le_refl k)]
  have ev : av T' k = av T k := by unfold av; rw [he k (Nat.le_refl k)]
  have el : ∀ j, j ≤ k → lo T' j = lo T j := fun j hj => by unfold lo; rw [he j hj]
  have en : nm T' k = nm T k := by unfold nm; rw [ev]
  have eA : eA T' k = eA T k := by unfold eA; rw [ea]; exact oF_c (fun p hp => el p (by have := hP p (Or.inr (Or.inr hp)); omega))
  have eC : eC T' k = eC T k := by unfold eC; rw [ec, eA]; exact oF_c (fun p hp => el p (by have := hP p (Or.inr (Or.inl hp)); omega))
  have eB : eB T' k = eB T k := by unfold eB; rw [eb, eC]; exact oF_c (fun p hp => el p (by have := hP p (Or.inl hp); omega))
  obtain ⟨h1, h2, h3, h4, ⟨h5, h6, h7, h8, h9⟩, h10, h11⟩ := h
  have kk := ek k (Nat.le_refl k)
  unfold WF
  rw [kk, eb, ec, ea, eA, eC, eB, el k (Nat.le_refl k), ev, en]
  refine ⟨h1, h2, h3, h4, ⟨fun p hp => ?_, fun p hp => ?_, fun p hp => ?_, h8, h9⟩, h10, h11⟩
  · rw [ek p (by have := hP p (Or.inr (Or.inr hp)); omega)]; exact h5 p hp
  · rw [ek p (by have := hP p (Or.inr (Or.inl hp)); omega)]; exact h6 p hp
  · rw [ek p (by have := hP p (Or.inl hp); omega)]; exact h7 p hp
/-- parts are claimed for n -/
def cl1 (σ : FS) (o : Option Nat) (n : Nat) : FS := oF o σ (fun p => sF σ 18 p (nI n))
theorem cl1_18 {o : Option Nat} {j : Nat} : (cl1 σ o n).1 18 j = if o = some j then nI n else σ.1 18 j := by
  cases o with
  | none => rw [if_neg (fun e => by cases e)]; rfl
  | some p =>
    show (sF σ 18 p (nI n)).1 18 j = _
    rw [q_e]
    by_cases h : j = p
    · rw [if_pos h, if_pos (by rw [h])]
    · rw [if_neg h, if_neg (fun e => h (by cases e; rfl))]
theorem cl1_n {o : Option Nat} {a : Nat} (h : a ≠ 18) : (cl1 σ o n).1 a = σ.1 a := by
  cases o with
  | none => rfl
  | some p => exact q_n h
theorem claim_ok {o : Option Nat} (ho : ∀ p, o = some p → p < 110) (h : Ψ (cl1 σ o n)) : wp_X5_claim σ (oI o) (nI n) Ψ := by
  unfold wp_X5_claim
  cases o with
  | none => exact br_t rfl h
  | some p =>
    have := ho p rfl
    refine br_f (q_m1 (by omega)) ⟨q_in this (by omega), nm_e ?_⟩
    rw [show oI (some p) = nI p from rfl, q_A (by omega)]
    exact h
theorem mt_cl1 {o : Option Nat} (h : mt T σ k) : mt T (cl1 σ o n) k := by
  unfold mt at h ⊢
  rw [cl1_n (by omega), cl1_n (by omega), cl1_n (by omega), cl1_n (by omega)]; exact h
/-- a node is made -/
def nw (σ : FS) (n : Nat) (κ a b x : Int32) : FS := sF (sF (sF (sF (sF (sF (sF σ 13 0 (nI (n + 1))) 14 n κ) 15 n a) 16 n b) 17 n x) 18 n (-1)) 19 n (-1)
theorem nadd_ok {κ : Nat} {a : Int32} {pb pc pa : Option Nat} {l : Nat} (h13 : σ.1 13 0 = nI n) (hn : n < 110) (hw : WF (fu T n (rcd κ a pb pc pa l)) n) (hp : ∀ p, part (fu T n (rcd κ a pb pc pa l)) n p → p < 110)
    (h : Φ (nI n) (cl1 (cl1 (cl1 (nw σ n (nI κ) a (oF pb 0 nI) (oF pc 0 nI)) pa n) pb n) pc n)) : wp_X5_add σ (nI κ) a (oF pb 0 nI) (oF pc 0 nI) Φ := by
  have hin := q_in hn (show 110 < 2 ^ 31 by omega)
  unfold wp_X5_add
  refine nm_e (nm_e ?_)
  rw [h13, nI_1]
  refine ⟨hin, nm_e ⟨hin, nm_e ⟨hin, nm_e ⟨hin, nm_e ⟨hin, nm_e ⟨hin, nm_e ?_⟩⟩⟩⟩⟩⟩
  rw [q_A (by omega), q_A (by omega), q_A (by omega), q_A (by omega), q_A (by omega), q_A (by omega)]
  have m0 : mt (fu T n (rcd κ a pb pc pa l)) (nw σ n (nI κ) a (oF pb 0 nI) (oF pc 0 nI)) n := by
    unfold mt kd av pB pC nw
    rw [fu_T]
    refine ⟨?_, ?_, ?_, ?_⟩
    · rw [q_n (by omega), q_n (by omega), q_n (by omega), q_n (by omega), q_n (by omega), q_s]
    · rw [q_n (by omega), q_n (by omega), q_n (by omega), q_n (by omega), q_s]
    · rw [q_n (by omega), q_n (by omega), q_n (by omega), q_s]
    · rw [q_n (by omega), q_n (by omega), q_s]
  have eA : pA (fu T n (rcd κ a pb pc pa l)) n = pa := by unfold pA; rw [fu_T]
  have eB : pB (fu T n (rcd κ a pb pc pa l)) n = pb := by unfold pB; rw [fu_T]
  have eC : pC (fu T n (rcd κ a pb pc pa l)) n = pc := by unfold pC; rw [fu_T]
  refine partA_ok (T := fu T n (rcd κ a pb pc pa l)) hn m0 hw ?_
  rw [eA]
  refine claim_ok (fun p e => hp p (Or.inr (Or.inr (by rw [eA]; exact e)))) (partB_ok (T := fu T n (rcd κ a pb pc pa l)) hn (mt_cl1 m0) hw ?_)
  rw [eB]
  refine claim_ok (fun p e => hp p (Or.inl (by rw [eB]; exact e))) (partC_ok (T := fu T n (rcd κ a pb pc pa l)) hn (mt_cl1 (mt_cl1 m0)) hw ?_)
  rw [eC]
  exact claim_ok (fun p e => hp p (Or.inr (Or.inl (by rw [eC]; exact e)))) h
theorem cl_18 {pa pb pc : Option Nat} {j : Nat} : (cl1 (cl1 (cl1 σ pa n) pb n) pc n).1 18 j = if pb = some j ∨ pc = some j ∨ pa = some j then nI n else σ.1 18 j := by
  rw [cl1_18, cl1_18, cl1_18]
  by_cases hc : pc = some j
  · rw [if_pos hc, if_pos (Or.inr (Or.inl hc))]
  · rw [if_neg hc]
    by_cases hb : pb = some j
    · rw [if_pos hb, if_pos (Or.inl hb)]
    · rw [if_neg hb]
      by_cases ha : pa = some j
      · rw [if_pos ha, if_pos (Or.inr (Or.inr ha))]
      · rw [if_neg ha, if_neg (fun q => by rcases q with q | q | q; exact hb q; exact hc q; exact ha q)]
/-- Mill.add: a node more -/
theorem madd_ok {κ : Nat} {a : Int32} {pb pc pa : Option Nat} {l : Nat} (hG : Gn T n d c σ) (hn : n < 110) (hκ : okK κ = true) (hA : arg1 T n σ κ a pa) (hP : partsOk T n σ κ pb pc pa) (hw : WF (fu T n (rcd κ a pb pc pa l)) n)
    (h : ∀ τ, Gn (fu T n (rcd κ a pb pc pa l)) (n + 1) d c τ → τ.1 18 n = -1 → (∀ j, j ≠ n → ¬ part (fu T n (rcd κ a pb pc pa l)) n j → τ.1 18 j = σ.1 18 j) → Φ (nI n) τ) : wp_X9_add ga σ (nI κ) a (oF pb 0 nI) (oF pc 0 nI) Φ := by
  obtain ⟨⟨b1, b2, ⟨b3, b3'⟩, b4, b5⟩, g1, g2, g3, g4, g5, g6, g7, g8, g9, g10⟩ := hG
  have hG : Gn T n d c σ := ⟨⟨b1, b2, ⟨b3, b3'⟩, b4, b5⟩, g1, g2, g3, g4, g5, g6, g7, g8, g9, g10⟩
  have hpl : ∀ p, part (fu T n (rcd κ a pb pc pa l)) n p ↔ (pb = some p ∨ pc = some p ∨ pa = some p) := fun p => by unfold part pB pC pA; rw [fu_T]
  have hfe : ∀ p, pb = some p ∨ pc = some p ∨ pa = some p → Fe n σ p := fun p q => by
    rcases q with q | q | q
    · exact (hP.1 p q).1
    · exact (hP.2.1 p q).1
    · exact (hP.2.2.1 p q).1
  unfold wp_X9_add
  rw [g2]
  refine ⟨q_in hn (by omega), fun q1 => nm_e ?_⟩
  unfold wp_X8_node
  have hG1 : Gn T n d c (sR σ (nI n).toNatClampNeg (some q1)) := hG
  refine suits_ok hG1 hκ hA hP (needArg_ok ?_)
  have g1' : (sR σ (nI n).toNatClampNeg (some q1)).1 13 0 = nI n := g1
  rw [g1']
  refine br_f (nI_ge (b := 110) hn (by omega)) (needState_ok (nm_e ?_))
  refine nadd_ok (T := T) (l := l) (by rw [q_n (by omega)]; exact g1) hn hw (fun p hp => by have := (hfe p ((hpl p).mp hp)).1; omega) (nm_e ?_)
  -- the world behind it
  have E : ∀ (X Y : FS) (a : Nat), a < 88 → (mrg X Y).1 a = X.1 a := fun X Y a ha => by funext j; exact if_pos ha
  have E' : ∀ (X Y : FS) (a : Nat), 88 ≤ a → (mrg X Y).1 a = Y.1 a := fun X Y a ha => by funext j; exact if_neg (by omega)
  rw [E' _ _ 88 (by omega), show (sR σ (nI n).toNatClampNeg (some q1)).1 88 3 = nI n from g2]
  refine br_t rfl (nm_e ?_)
  rw [nI_1]
  obtain ⟨Y, eY⟩ : ∃ Y, Y = sF (sR σ (nI n).toNatClampNeg (some q1)) 0 9 1 := ⟨_, rfl⟩
  obtain ⟨Z, eZ⟩ : ∃ Z, Z = cl1 (cl1 (cl1 (nw Y n (nI κ) a (oF pb 0 nI) (oF pc 0 nI)) pa n) pb n) pc n := ⟨_, rfl⟩
  obtain ⟨X, eX⟩ : ∃ X : FS, X = sF (mrg Z (sR σ (nI n).toNatClampNeg (some q1))) 88 3 (nI (n + 1)) := ⟨_, rfl⟩
  have x1 : ∀ a, a < 88 → X.1 a = Z.1 a := fun a ha => by rw [eX, q_n (by omega), E _ _ a ha]
  have y0 : ∀ a, a ≠ 0 → Y.1 a = σ.1 a := fun a ha => by rw [eY, q_n ha]; rfl
  have zn : ∀ b, b ≠ 18 → Z.1 b = (nw Y n (nI κ) a (oF pb 0 nI) (oF pc 0 nI)).1 b := fun b ha => by rw [eZ, cl1_n ha, cl1_n ha, cl1_n ha]
  have nn : ∀ b, ¬ (13 ≤ b ∧ b ≤ 19) → (nw Y n (nI κ) a (oF pb 0 nI) (oF pc 0 nI)).1 b = Y.1 b := fun b hb => by
    unfold nw; rw [q_n (by omega), q_n (by omega), q_n (by omega), q_n (by omega), q_n (by omega), q_n (by omega), q_n (by omega)]
  have xn : ∀ b, b ≠ 0 → ¬ (13 ≤ b ∧ b ≤ 19) → b < 88 → X.1 b = σ.1 b := fun b h1 h2 h3 => by rw [x1 b h3, zn b (by omega), nn b h2, y0 b h1]
  have x0 : ∀ j, X.1 0 j = if j = 9 then 1 else σ.1 0 j := fun j => by
    rw [x1 0 (by omega), zn 0 (by omega), nn 0 (by omega), eY, q_e]; rfl
  have x13 : X.1 13 0 = nI (n + 1) := by
    rw [x1 13 (by omega), zn 13 (by omega)]; unfold nw
    rw [q_n (by omega), q_n (by omega), q_n (by omega), q_n (by omega), q_n (by omega), q_n (by omega), q_s]
  have x14 : ∀ j, X.1 14 j = if j = n then nI κ else σ.1 14 j := fun j => by
    rw [x1 14 (by omega), zn 14 (by omega)]; unfold nw
    rw [q_n (by omega), q_n (by omega), q_n (by omega), q_n (by omega), q_n (by omega), q_e, q_n (by omega), y0 14 (by omega)]
  have x15 : ∀ j, X.1 15 j = if j = n then a else σ.1 15 j := fun j => by
    rw [x1 15 (by omega), zn 15 (by omega)]; unfold nw
    rw [q_n (by omega), q_n (by omega), q_n (by omega), q_n (by omega), q_e, q_n (by omega), q_n (by omega), y0 15 (by omega)]
  have x16 : ∀ j, X.1 16 j = if j = n then oF pb 0 nI else σ.1 16 j := fun j => by
    rw [x1 16 (by omega), zn 16 (by omega)]; unfold nw
    rw [q_n (by omega), q_n (by omega), q_n (by omega), q_e, q_n (by omega), q_n (by omega), q_n (by omega), y0 16 (by omega)]
  have x17 : ∀ j, X.1 17 j = if j = n then oF pc 0 nI else σ.1 17 j := fun j => by
    rw [x1 17 (by omega), zn 17 (by omega)]; unfold nw
    rw [q_n (by omega), q_n (by omega), q_e, q_n (by omega), q_n (by omega), q_n (by omega), q_n (by omega), y0 17 (by omega)]
  have x18 : ∀ j, X.1 18 j = if pb = some j ∨ pc = some j ∨ pa = some j then nI n else if j = n then -1 else σ.1 18 j := fun j => by
    rw [x1 18 (by omega), eZ, cl_18]; unfold nw
    rw [q_n (show 18 ≠ 19 by omega), q_e, q_n (show 18 ≠ 17 by omega), q_n (show 18 ≠ 16 by omega), q_n (show 18 ≠ 15 by omega), q_n (show 18 ≠ 14 by omega), q_n (show 18 ≠ 13 by omega), y0 18 (by omega)]
  have x19 : ∀ j, X.1 19 j = if j = n then -1 else σ.1 19 j := fun j => by
    rw [x1 19 (by omega), zn 19 (by omega)]; unfold nw
    rw [q_e, q_n (by omega), q_n (by omega), q_n (by omega), q_n (by omega), q_n (by omega), q_n (by omega), y0 19 (by omega)]
  have x88 : ∀ j, X.1 88 j = if j = 3 then nI (n + 1) else σ.1 88 j := fun j => by rw [eX, q_e, E' _ _ 88 (by omega)]; rfl
  have sm : Sm (fun b => decide (b = 0 ∨ (13 ≤ b ∧ b ≤ 19) ∨ 88 ≤ b)) σ X := fun b hb => by
    have := of_decide_eq_false hb
    exact xn b (by omega) (by omega) (by omega)
  rw [← eY, ← eZ, ← eX]
  have hpn : ∀ p, pb = some p ∨ pc = some p ∨ pa = some p → p ≠ n := fun p q => by have := (hfe p q).1; omega
  refine h X ⟨⟨?_, ?_, ⟨?_, ?_, ?_, ?_, ?_⟩, b4.sm sm rfl rfl rfl rfl rfl, ?_⟩, x13, ?_, by omega, ?_, g5, ?_, fun k hk => ⟨?_, ?_⟩, fun k p hk hp => ?_, fun k hk => ?_, fun k hk p hp => ?_⟩ ?_ (fun j hj hnp => ?_)
  · -- what is declared: cell 0 apart
    have e : ∀ b, 1 ≤ b → b < 13 → X.1 b = σ.1 b := fun b p q => xn b (by omega) (by omega) (by omega)
    unfold Dcl
    rw [e 1 (by omega) (by omega), e 2 (by omega) (by omega), e 3 (by omega) (by omega), e 4 (by omega) (by omega), e 5 (by omega) (by omega), e 6 (by omega) (by omega), e 8 (by omega) (by omega), e 9 (by omega) (by omega), e 10 (by omega) (by omega), e 11 (by omega) (by omega), e 12 (by omega) (by omega)]
    exact b1
  · rw [xn 7 (by omega) (by omega) (by omega)]; exact b2
  · rw [x0, if_pos rfl]
  · rw [x0, if_neg (by omega)]; exact b3'.1
  · rw [x0, if_neg (by omega)]; exact b3'.2.1
  · rw [x0, if_neg (by omega)]; exact b3'.2.2.1
  · rw [x0, if_neg (by omega)]; exact b3'.2.2.2
  · rw [x88, if_neg (by omega)]; exact b5
  · rw [x88, if_pos rfl]
  · rw [x88, if_neg (by omega)]; exact g4
  · -- parts are smaller
    intro k p hp
    by_cases e : k = n
    · rw [e] at hp ⊢
      exact (hfe p ((hpl p).mp hp)).1
    · unfold part pB pC pA at hp
      rw [fu_o e] at hp
      exact g6 k p hp
  · unfold mt kd av pB pC
    rw [x14, x15, x16, x17]
    by_cases e : k = n
    · rw [if_pos e, if_pos e, if_pos e, if_pos e, e, fu_T]; exact ⟨rfl, rfl, rfl, rfl⟩
    · rw [if_neg e, if_neg e, if_neg e, if_neg e, fu_o e]
      exact (g7 k (by omega)).1
  · by_cases e : k = n
    · rw [e]; exact hw
    · exact WF_ext (g7 k (by omega)).2 (fun p hp => g6 k p hp) (fun j hj => fu_o (by omega))
  · rw [x18]
    by_cases e : k = n
    · rw [e] at hp ⊢
      rw [if_pos ((hpl p).mp hp)]
    · have hp' : part T k p := by unfold part pB pC pA at hp ⊢; rw [fu_o e] at hp; exact hp
      have h18 := g8 k p (by omega) hp'
      have hpk := g6 k p hp'
      rw [if_neg (fun q => by have := (hfe p q).2; rw [h18] at this; exact q_m1 (by omega) this), if_neg (by omega)]
      exact h18
  · rw [x19]
    by_cases e : k = n
    · rw [if_pos e]
    · rw [if_neg e]; exact g9 k (by omega)
  · have e : k ≠ n := by omega
    unfold part pB pC pA at hp
    rw [fu_o e] at hp
    exact g10 k (by omega) p hp
  · rw [x18, if_neg (fun q => hpn n q rfl), if_pos rfl]
  · rw [x18, if_neg (fun q => hnp ((hpl j).mpr q)), if_neg hj]
end QB
