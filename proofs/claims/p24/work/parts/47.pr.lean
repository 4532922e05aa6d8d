section PR
variable {T : TT} {N top : Nat} {σ τ : FS} {k t a : Nat} {Φ : Int32 → FS → Prop} {Ψ : FS → Prop} {c cl : Int32}
/-- the instruction at a place -/
theorem Ick (tr : TR T top) (hC : CK T c false top 52 σ) (ha : a < ln T false top + 2) {o x y n : Int32} (h : Ic T c top a = (o, x, y, n)) : σ.1 55 a = o ∧ σ.1 56 a = x ∧ σ.1 57 a = y ∧ σ.1 58 a = n := by
  obtain ⟨q, hq⟩ := cov (c := c) (fl := false) tr ha
  have e := hC.2.2.2.2.2 a q hq
  unfold Ic at h
  rw [hq] at h
  have h' : q = (o, x, y, n) := h
  rw [h'] at e
  unfold Aq at e
  have e1 := congrArg Prod.fst e
  have e2 := congrArg (fun z => z.2.1) e
  have e3 := congrArg (fun z => z.2.2.1) e
  have e4 := congrArg (fun z => z.2.2.2) e
  exact ⟨e1, e2, e3, e4⟩
theorem frameAt_0 (h : Φ (σ.1 65 13) σ) : wp_X3_frameAt σ 0 Φ := by
  unfold wp_X3_frameAt
  refine nm_e ?_
  rw [FUEL_s]
  unfold wp_X3_frameAt_7
  exact br_t (by decide) h
theorem cellOf_ok (hC : CX T c N top t cl σ) (ha : a < ln T false top + 2) {y : Int32} (h56 : σ.1 56 a = 0) (h57 : σ.1 57 a = y) (h : Φ y σ) : wp_X3_cellOf σ (nI a) Φ := by
  have L := L_le (fl := false) hC.1.tr
  have hin := q_in (show a < 460 by omega) (show 460 < 2 ^ 31 by omega)
  unfold wp_X3_cellOf
  refine ⟨hin, ?_⟩
  rw [q_I (by omega), h56]
  refine frameAt_0 ?_
  rw [hC.2.2.1]
  have p1 : wp_X7_at 70 192 σ (nI 0) (nI 2) (fun (x4 : Int32) (σ3 : FS) => vp_in (nI a) 460 ∧ (Φ (x4 + (g σ3 57 (nI a))) σ3)) := by
    refine at_ok hC.2.2.2.1.1 (by omega) (by omega) (by omega) (by omega) (by omega) (by omega) ⟨hin, ?_⟩
    rw [q_I (by omega), h57, show σ.1 (70 + 1) (0 * 3 + 2) = 0 from hC.2.2.2.1.2.2, Int32.zero_add]
    exact h
  exact p1
theorem pushCell_ok {oc i : Nat} {ops mem : Nat → Int32} (h2 : Q2 oc ops σ) (h3 : Q3 mem σ) (ho : oc ≤ 63) (hi : i < 8) (hi2 : i ≠ 2) (hk : ∀ τ, Fr S68 σ τ → Q2 (oc + 1) (fu ops oc (mem i)) τ → Ψ τ) : wp_X3_pushCell σ (nI i) Ψ := by
  unfold wp_X3_pushCell
  refine mat0 h3 hi (mat1 h3 hi ?_)
  rw [show wd i = 0 by unfold wd; rw [if_neg hi2]]
  exact push_ok h2 ho hk
theorem isC_v {y : Int32} (h : isC T c k y) : ∃ v, y = nI v ∧ v < 8 ∧ v ≠ 2 ∧ tN y = v := by
  rcases h.2.2.2 with e | e | e
  · exact ⟨0, e, by omega, by omega, by rw [e]; rfl⟩
  · exact ⟨1, e, by omega, by omega, by rw [e]; rfl⟩
  · exact ⟨3, e, by omega, by omega, by rw [e]; rfl⟩
theorem get_ok {oc i : Nat} {ops mem : Nat → Int32} (ha : a < 460) (hk : k < 110) (h58 : σ.1 58 a = nI k) (h24 : σ.1 24 k = 6) (h2 : Q2 oc ops σ) (h3 : Q3 mem σ) (ho : oc ≤ 63) (hi : i < 8) (hi2 : i ≠ 2) (hh : ∀ τ, Fr S68 σ τ → Q2 (oc + 1) (fu ops oc (mem i)) τ → Ψ τ) : wp_X3_get σ (nI i) (nI a) Ψ := by
  unfold wp_X3_get
  rw [q_I (k := 58) (by omega), h58]
  refine ⟨q_in ha (by omega), q_in hk (by omega), nm_e ?_⟩
  rw [q_I (k := 24) (by omega), h24]
  exact br_f (by decide) (br_f (by decide) (pushCell_ok h2 h3 ho hi hi2 hh))
theorem skip_1 {p : Nat} (hC : CX T c N top t cl σ) (h : Ψ (sF σ 65 12 (nI p))) : wp_X3_skip σ 1 (nI p) Ψ := by
  unfold wp_X3_skip
  rw [hC.2.2.1]
  have p1 : wp_X7_at 70 192 σ (nI 0) (nI 0) (fun (x2 : Int32) (σ1 : FS) => (((1 : Int32) = 0 → Ψ σ1) ∧ (¬ ((1 : Int32) = 0) → wp_X1_has σ1 x2 (fun (x4 : Int32) (σ3 : FS) => ((x4 = 0 → Ψ σ3) ∧ (¬ (x4 = 0) → vp_in x2 10 ∧ (∀ σ5 : FS, σ5 = sF σ3 65 12 ((g σ3 53 x2) + nI p) → Ψ σ5))))))) := by
    refine at_ok hC.2.2.2.1.1 (by omega) (by omega) (by omega) (by omega) (by omega) (by omega) (br_f (by decide) ?_)
    rw [show σ.1 (70 + 1) (0 * 3 + 0) = 0 from hC.2.2.2.1.2.1]
    unfold wp_X1_has
    rw [hC.1.2.1.1.1]
    refine br_f (by decide) (br_f (by decide) (br_f (by decide) ⟨z10, nm_e ?_⟩))
    rw [g0, show σ.1 53 0 = 0 from hC.2.1.2.1, Int32.zero_add]
    exact h
  exact p1
theorem skip_0 {x : Int32} (hC : CX T c N top t cl σ) (h : Ψ σ) : wp_X3_skip σ 0 x Ψ := by
  unfold wp_X3_skip
  rw [hC.2.2.1]
  have p1 : wp_X7_at 70 192 σ (nI 0) (nI 0) (fun (x2 : Int32) (σ1 : FS) => (((0 : Int32) = 0 → Ψ σ1) ∧ (¬ ((0 : Int32) = 0) → wp_X1_has σ1 x2 (fun (x4 : Int32) (σ3 : FS) => ((x4 = 0 → Ψ σ3) ∧ (¬ (x4 = 0) → vp_in x2 10 ∧ (∀ σ5 : FS, σ5 = sF σ3 65 12 ((g σ3 53 x2) + x) → Ψ σ5))))))) :=
    at_ok hC.2.2.2.1.1 (by omega) (by omega) (by omega) (by omega) (by omega) (by omega) (br_t rfl h)
  exact p1
/-- the state's parts, and what a change of other cells leaves -/
theorem Qm_68 {m : MS} (ht : 80 ≤ t) (h : Qm t m σ) {S : Nat → Bool} (hF : Fr S σ τ) (hs : ∀ a, S a = true → 67 ≤ a ∧ a ≤ 69 ∨ a = 74 ∨ a = 75) : τ.1 65 12 = nI m.1.1 ∧ Q5m t m τ ∧ τ.1 65 16 = fB m.2.2.2.1 := by
  have f : ∀ a, ¬ ((67 ≤ a ∧ a ≤ 69) ∨ a = 74 ∨ a = 75) → S a = false := fun a ha => by
    cases e : S a with
    | false => rfl
    | true => exact absurd (hs a e) ha
  obtain ⟨h1, -, -, -, h5, h6⟩ := h
  refine ⟨by rw [hF.1 65 (f 65 (by omega))]; exact h1, Q5_fr h5 hF (f _ (by omega)) (f _ (by omega)) (f _ (by omega)) (f _ (by omega)), by rw [hF.1 65 (f 65 (by omega))]; exact h6⟩
theorem s68 : ∀ a, S68 a = true → (67 ≤ a ∧ a ≤ 69) ∨ a = 74 ∨ a = 75 := fun a h => by
  unfold S68 at h
  simp only [Bool.or_eq_true, beq_iff_eq] at h
  omega
theorem s1' {b : Nat} (hb : (67 ≤ b ∧ b ≤ 69) ∨ b = 74 ∨ b = 75) : ∀ a, (a == b) = true → (67 ≤ a ∧ a ≤ 69) ∨ a = 74 ∨ a = 75 := fun a h => by
  simp only [beq_iff_eq] at h
  omega
theorem p_push {m : MS} {v : Int32} (ht : 80 ≤ t) (hQ : Qm t m σ) (ho : m.1.2.1 ≤ 63) (h : ∀ τ, Kp t σ τ → Qm t (mPush m v) τ → Ψ τ) : wp_X3_push σ v 0 Ψ := by
  obtain ⟨h1, h2, h3, h4, h5, h6⟩ := hQ
  refine push_ok h2 ho (fun τ F q => ?_)
  obtain ⟨g1, g5, g6⟩ := Qm_68 ht ⟨h1, h2, h3, h4, h5, h6⟩ F s68
  exact h τ (Kp.of F s68 ht) ⟨g1, q, Q3_fr h3 F rfl rfl, Q4_fr h4 F rfl rfl, g5, g6⟩
theorem p_get {m : MS} {i : Nat} (ht : 80 ≤ t) (ha : a < 460) (hk : k < 110) (h58 : σ.1 58 a = nI k) (h24 : σ.1 24 k = 6) (hQ : Qm t m σ) (ho : m.1.2.1 ≤ 63) (hi : i < 8) (hi2 : i ≠ 2) (h : ∀ τ, Kp t σ τ → Qm t (mPush m (m.2.1.2.1 i)) τ → Ψ τ) : wp_X3_get σ (nI i) (nI a) Ψ := by
  obtain ⟨h1, h2, h3, h4, h5, h6⟩ := hQ
  refine get_ok ha hk h58 h24 h2 h3 ho hi hi2 (fun τ F q => ?_)
  obtain ⟨g1, g5, g6⟩ := Qm_68 ht ⟨h1, h2, h3, h4, h5, h6⟩ F s68
  exact h τ (Kp.of F s68 ht) ⟨g1, q, Q3_fr h3 F rfl rfl, Q4_fr h4 F rfl rfl, g5, g6⟩
theorem p_pop {m : MS} (ht : 80 ≤ t) (hQ : Qm t m σ) (ho : 1 ≤ m.1.2.1) (h : ∀ τ, Kp t σ τ → Qm t (mPop m) τ → Φ (mTop m) τ) : wp_X3_pop σ Φ := by
  obtain ⟨h1, h2, h3, h4, h5, h6⟩ := hQ
  obtain ⟨⟨pc, oc, lc⟩, ⟨ops, mem, lab, sh⟩, ⟨st, nu, p0, p1, p2⟩, ⟨ov, tr, tn, gv⟩⟩ := m
  cases oc with
  | zero => exact absurd ho (Nat.not_succ_le_zero 0)
  | succ oc =>
    refine pop_ok (oc := oc) (ops := ops) h2 (fun τ F q => ?_)
    obtain ⟨g1, g5, g6⟩ := Qm_68 ht ⟨h1, h2, h3, h4, h5, h6⟩ F (s1' (by omega))
    exact h τ (Kp.of F (s1' (by omega)) ht) ⟨g1, q, Q3_fr h3 F rfl rfl, Q4_fr h4 F rfl rfl, g5, g6⟩
theorem p_mem {m : MS} {i : Nat} {v : Int32} (ht : 80 ≤ t) (hQ : Qm t m σ) (hi : i < 8) (h : ∀ τ, Kp t σ τ → Qm t (mMem m i v) τ → Ψ τ) : wp_X7_put 66 128 σ (nI i) 0 v Ψ := by
  obtain ⟨h1, h2, h3, h4, h5, h6⟩ := hQ
  refine mput0 h3 hi (fun τ F q => ?_)
  obtain ⟨g1, g5, g6⟩ := Qm_68 ht ⟨h1, h2, h3, h4, h5, h6⟩ F (s1' (by omega))
  exact h τ (Kp.of F (s1' (by omega)) ht) ⟨g1, Q2_fr h2 F rfl rfl, q, Q4_fr h4 F rfl rfl, g5, g6⟩
theorem p_trap {m : MS} {w : Nat} {oc' : Nat} (ht : 80 ≤ t) (hk : k < 110) (hw : w ≠ 0) (h21 : σ.1 21 k = 0) (hQ : Qm t m σ) (hoc : m.1.2.1 = oc') (h : ∀ τ, Kp t σ τ → Qm t (mTrap m oc' w (nI k)) τ → Ψ τ) : wp_X3_trap t σ (nI w) (nI k) Ψ := by
  obtain ⟨h1, h2, h3, h4, h5, h6⟩ := hQ
  refine trap_ok ht hk hw h21 h5 (fun τ K e12 F q q16 => h τ K ⟨by rw [e12]; exact h1, ?_, Q3_fr h3 F (f2 (by omega) (by omega)) (f2 (by omega) (by omega)), Q4_fr h4 F (f2 (by omega) (by omega)) (f2 (by omega) (by omega)), q, q16⟩)
  rw [← hoc]
  exact Q2_fr h2 F (f2 (by omega) (by omega)) (f2 (by omega) (by omega))
theorem p_go {m : MS} {p : Nat} (ht : 80 ≤ t) (hQ : Qm t m σ) : Kp t σ (sF σ 65 12 (nI p)) ∧ Qm t (mGo m p) (sF σ 65 12 (nI p)) := by
  obtain ⟨h1, h2, h3, h4, h5, h6⟩ := hQ
  have F : Fr (fun a => a == 65) σ (sF σ 65 12 (nI p)) := Fr.rf.put rfl
  refine ⟨⟨Fr.rf.put (SP_t (by omega)), by rw [q_o (by omega)], fun j _ _ => by rw [q_n (by omega)]⟩, q_s, Q2_fr h2 F rfl rfl, Q3_fr h3 F rfl rfl, Q4_fr h4 F rfl rfl, Q5_fr h5 F (beq_false_of_ne (by omega)) (beq_false_of_ne (by omega)) (beq_false_of_ne (by omega)) (beq_false_of_ne (by omega)), by rw [q_o (by omega)]; exact h6⟩
theorem p_reckon {m : MS} {κ : Nat} {n : Int32} (ht : 80 ≤ t) (hQ : Qm t m σ) (ha : a < 460) (hk : k < 110) (hC : CX T c N top t cl σ) (h58 : ∀ τ, Kp t σ τ → τ.1 58 a = nI k) (h21 : ∀ τ, Kp t σ τ → τ.1 21 k = 0) (h3 : 3 ≤ κ) (h7 : κ ≤ 7) (ho : 2 ≤ m.1.2.1) (ho2 : m.1.2.1 ≤ 64)
    (h : ∀ τ, Kp t σ τ → Qm t (if κ = 6 ∧ mTop m = 0 then mTrap m (m.1.2.1 - 1 - 1) 1 (nI k) else mPush (mPop (mPop m)) (rk κ (mTop (mPop m)) (mTop m))) τ → Ψ τ) : wp_X3_reckon t σ (nI a) (nI (κ + 1)) Ψ := by
  unfold wp_X3_reckon
  refine p_pop ht hQ (by omega) (fun τ1 K1 Q1 => p_pop ht Q1 (by show 1 ≤ m.1.2.1 - 1; omega) (fun τ2 K2 Q2 => ?_))
  have K := K1.tr K2
  rw [nI_pred]
  have fin : ¬ (κ = 6 ∧ mTop m = 0) → wp_X4_reckon τ2 (nI κ) (mTop (mPop m)) (mTop m) (fun (x6 : Int32) (σ5 : FS) => wp_X3_push σ5 x6 0 (fun (σ7 : FS) => Ψ σ7)) := fun hn => by
    refine reckon_ok h3 h7 (p_push ht Q2 (by show m.1.2.1 - 1 - 1 ≤ 63; omega) (fun τ3 K3 Q3 => h τ3 (K.tr K3) ?_))
    rw [if_neg hn]; exact Q3
  by_cases h6 : κ = 6
  · refine br_t (by rw [h6]; rfl) ?_
    by_cases hz : mTop m = 0
    · refine br_t hz ⟨q_in ha (by omega), ?_⟩
      rw [q_I (by omega), h58 τ2 K, show (1 : Int32) = nI 1 by decide]
      refine p_trap ht hk (by omega) (h21 τ2 K) Q2 rfl (fun τ3 K3 Q3 => h τ3 (K.tr K3) ?_)
      rw [if_pos ⟨h6, hz⟩]; exact Q3
    · exact br_f hz (fin (fun q => hz q.2))
  · exact br_f (nI_ne (b := 6) h6 (by omega) (by omega)) (fin (fun q => h6 q.1))
theorem p_pick {m : MS} (ht : 80 ≤ t) (hQ : Qm t m σ) (ha : a < 460) (hk : k < 110) (h58 : ∀ τ, Kp t σ τ → τ.1 58 a = nI k) (h21 : ∀ τ, Kp t σ τ → τ.1 21 k = 0) (ho : 1 ≤ m.1.2.1) (ho2 : m.1.2.1 ≤ 64) (hm2 : m.2.1.2.1 2 = 4)
    (h : ∀ τ, Kp t σ τ → Qm t (if inA (mTop m) = true then mPush (mPop m) (m.2.1.2.1 (4 + tN (mTop m))) else mTrap m (m.1.2.1 - 1) 2 (nI k)) τ → Ψ τ) : wp_X3_pick t σ 2 (nI a) 0 Ψ := by
  unfold wp_X3_pick
  refine p_pop ht hQ ho (fun τ1 K1 Q1 => ?_)
  have q3 : Q3 m.2.1.2.1 τ1 := Q1.2.2.1
  rw [show (2 : Int32) = nI 2 by decide]
  refine mat0 q3 (by omega) (nm_e ?_)
  have trp : inA (mTop m) = false → vp_in (nI a) 460 ∧ (wp_X3_trap t τ1 2 (g τ1 58 (nI a)) (fun (σ6 : FS) => Ψ σ6)) := fun hn => by
    refine ⟨q_in ha (by omega), ?_⟩
    rw [q_I (by omega), h58 τ1 K1, show (2 : Int32) = nI 2 by decide]
    refine p_trap ht hk (by omega) (h21 τ1 K1) Q1 rfl (fun τ3 K3 Q3 => h τ3 (K1.tr K3) ?_)
    rw [hn, if_neg Bool.false_ne_true]; exact Q3
  by_cases h0 : mTop m < 0
  · exact br_t h0 (trp (inA_0 h0))
  · refine br_f h0 (mat1 q3 (by omega) ?_)
    rw [show wd 2 = 4 from rfl]
    cases hi : inA (mTop m) with
    | false => exact br_f (inA_n hi h0) (trp hi)
    | true =>
      obtain ⟨-, h4, j, hj, ej⟩ := inA_y hi
      refine br_t h4 (br_t rfl ?_)
      rw [hm2, ej, show (4 : Int32) = nI 4 by decide, nI_add]
      refine mat0 q3 (by omega) (p_push ht Q1 (by show m.1.2.1 - 1 ≤ 63; omega) (fun τ3 K3 Q3 => h τ3 (K1.tr K3) ?_))
      rw [hi, if_pos rfl, ej, show tN (nI j) = j from nI_clamp (by omega)]
      exact Q3
theorem p_stow {m : MS} (ht : 80 ≤ t) (hQ : Qm t m σ) (ha : a < 460) (hk : k < 110) (h58 : ∀ τ, Kp t σ τ → τ.1 58 a = nI k) (h21 : ∀ τ, Kp t σ τ → τ.1 21 k = 0) (ho : 2 ≤ m.1.2.1) (hm2 : m.2.1.2.1 2 = 4)
    (h : ∀ τ, Kp t σ τ → Qm t (if inA (mTop (mPop m)) = true then mMem (mPop (mPop m)) (4 + tN (mTop (mPop m))) (mTop m) else mTrap m (m.1.2.1 - 1 - 1) 2 (nI k)) τ → Ψ τ) : wp_X3_stow t σ 2 (nI a) Ψ := by
  unfold wp_X3_stow
  refine p_pop ht hQ (by omega) (fun τ1 K1 Q1 => p_pop ht Q1 (by show 1 ≤ m.1.2.1 - 1; omega) (fun τ2 K2 Q2 => ?_))
  have K := K1.tr K2
  have q3 : Q3 m.2.1.2.1 τ2 := Q2.2.2.1
  have trp : inA (mTop (mPop m)) = false → vp_in (nI a) 460 ∧ (wp_X3_trap t τ2 2 (g τ2 58 (nI a)) (fun (σ6 : FS) => Ψ σ6)) := fun hn => by
    refine ⟨q_in ha (by omega), ?_⟩
    rw [q_I (by omega), h58 τ2 K, show (2 : Int32) = nI 2 by decide]
    refine p_trap ht hk (by omega) (h21 τ2 K) Q2 rfl (fun τ3 K3 Q3 => h τ3 (K.tr K3) ?_)
    rw [hn, if_neg Bool.false_ne_true]; exact Q3
  by_cases h0 : mTop (mPop m) < 0
  · exact br_t h0 (trp (inA_0 h0))
  · refine br_f h0 ?_
    rw [show (2 : Int32) = nI 2 by decide]
    refine mat1 q3 (by omega) ?_
    rw [show wd 2 = 4 from rfl]
    cases hi : inA (mTop (mPop m)) with
    | false => exact br_f (inA_n hi h0) (trp hi)
    | true =>
      obtain ⟨-, h4, j, hj, ej⟩ := inA_y hi
      refine br_t h4 (mat0 q3 (by omega) ?_)
      rw [hm2, ej, show (4 : Int32) = nI 4 by decide, nI_add]
      refine p_mem ht Q2 (by omega) (fun τ3 K3 Q3 => h τ3 (K.tr K3) ?_)
      rw [hi, if_pos rfl, ej, show tN (nI j) = j from nI_clamp (by omega)]
      exact Q3
theorem p_put {m : MS} {i : Nat} (ht : 80 ≤ t) (hQ : Qm t m σ) (ha : a < 460) (hk : k < 110) (h58 : σ.1 58 a = nI k) (h24 : σ.1 24 k = 6) (ho : 1 ≤ m.1.2.1) (hi : i < 8) (hi2 : i ≠ 2)
    (h : ∀ τ, Kp t σ τ → Qm t (mMem (mPop m) i (mTop m)) τ → Ψ τ) : wp_X3_put σ (nI i) (nI a) Ψ := by
  unfold wp_X3_put
  rw [q_I (k := 58) (by omega), h58]
  refine ⟨q_in ha (by omega), q_in hk (by omega), ?_⟩
  rw [q_I (k := 24) (by omega), h24]
  refine br_f (by decide) ?_
  obtain ⟨h1, h2, h3, h4, h5, h6⟩ := hQ
  have h2' := h2
  obtain ⟨hT, hc, hi'⟩ := h2'
  rw [hT.2, nI_m1 (by omega)]
  have p1 : wp_X7_at 68 128 σ (nI (m.1.2.1 - 1)) (nI 1) (fun (x2 : Int32) (σ1 : FS) => wp_X7_put 66 128 σ1 (nI i) 1 x2 (fun (σ3 : FS) => wp_X3_pop σ3 (fun (x5 : Int32) (σ4 : FS) => wp_X7_put 66 128 σ4 (nI i) 0 x5 (fun (σ6 : FS) => Ψ σ6)))) := by
    refine at_ok hT (by omega) (by omega) (by omega) (by omega) (by omega) (by omega) ?_
    rw [show σ.1 (68 + 1) ((m.1.2.1 - 1) * 2 + 1) = 0 by rw [show (m.1.2.1 - 1) * 2 + 1 = 2 * (m.1.2.1 - 1) + 1 by omega]; exact (hi' _ (by omega)).2]
    refine mput1 h3 hi hi2 (fun τ1 F1 q3 => ?_)
    obtain ⟨g1, g5, g6⟩ := Qm_68 ht ⟨h1, h2, h3, h4, h5, h6⟩ F1 (s1' (by omega))
    have K1 := Kp.of F1 (s1' (by omega)) ht
    refine p_pop (m := m) ht ⟨g1, Q2_fr h2 F1 rfl rfl, q3, Q4_fr h4 F1 rfl rfl, g5, g6⟩ ho (fun τ2 K2 Q2 => p_mem ht Q2 hi (fun τ3 K3 Q3 => h τ3 (K1.tr (K2.tr K3)) Q3))
  exact p1
theorem lput {lc r q : Nat} {v : Int32} (hT : tb 74 5 lc σ) (hr : r < lc) (hl : lc ≤ 64) (hq : q < 5) (h : Ψ (sF σ 75 (5 * r + q) v)) : wp_X7_put 74 320 σ (nI r) (nI q) v Ψ := by
  refine tput_ok hT hr hq (by omega) (by omega) (by omega) (by omega) ?_
  rw [show r * 5 + q = 5 * r + q by omega]
  exact h
theorem p_open {m : MS} (ht : 80 ≤ t) (hQ : Qm t m σ) (hC : CX T c N top t cl σ) (ha : a < 460) (hkt : k ≤ top) {x : Int32} (h58 : σ.1 58 a = nI k) (h56 : σ.1 56 a = x) (hl : m.1.2.2 ≤ 63) (ho : m.1.2.1 = 0) (hs : 1 ≤ ln T false k)
    (h : ∀ τ, Kp t σ τ → Qm t (mOpen m x (eT T false top k)) τ → Ψ τ) : wp_X3_open σ (nI a) Ψ := by
  have hN := hC.1.1.2.1
  have htN := hC.1.2.2.2.1
  obtain ⟨h1, h2, h3, h4, h5, h6⟩ := hQ
  have hin := q_in ha (show 460 < 2 ^ 31 by omega)
  have hin2 := q_in (show k < 110 by omega) (show 110 < 2 ^ 31 by omega)
  unfold wp_X3_open
  refine ⟨hin, nm_e ?_⟩
  obtain ⟨hT, hc, hr⟩ := h4
  refine add_ok (N := 320) hT (by omega) (by omega) (by omega) (by omega) (fun τ F1 T1 e1 e2 => ?_)
  have x1 : ∀ a, a ≠ 74 → a ≠ 75 → τ.1 a = σ.1 a := fun a p q => F1.1 a (f2 p q)
  rw [x1 65 (by omega) (by omega), hC.2.2.1]
  have T' : ∀ ρ : FS, Fr (fun a => a == 75) τ ρ → tb 74 5 (m.1.2.2 + 1) ρ := fun ρ hρ => tb_fr T1 hρ rfl
  have G1 : ∀ v, Fr (fun a => a == 75) τ (sF τ 75 (5 * m.1.2.2 + 0) v) := fun v => Fr.rf.put rfl
  have p1 : wp_X7_put 74 320 τ (nI m.1.2.2) (nI 0) 0 (fun (σ4 : FS) => vp_in (nI a) 460 ∧ (wp_X7_put 74 320 σ4 (nI m.1.2.2) (nI 1) (g σ4 56 (nI a)) (fun (σ5 : FS) => wp_X7_put 74 320 σ5 (nI m.1.2.2) (nI 2) (σ5.1 72 2) (fun (σ6 : FS) => wp_X7_put 74 320 σ6 (nI m.1.2.2) (nI 3) (σ6.1 68 2) (fun (σ7 : FS) => vp_in (g σ 58 (nI a)) 110 ∧ (vp_in (g σ 58 (nI a)) 110 ∧ (wp_X7_put 74 320 σ7 (nI m.1.2.2) (nI 4) (((g σ7 61 (g σ 58 (nI a))) + (g σ7 62 (g σ 58 (nI a)))) - 1) (fun (σ8 : FS) => Ψ σ8)))))))) := by
    refine lput T1 (by omega) (by omega) (by omega) ⟨hin, lput (T' _ (G1 _)) (by omega) (by omega) (by omega) (lput (T' _ ((G1 _).put rfl)) (by omega) (by omega) (by omega) (lput (T' _ (((G1 _).put rfl).put rfl)) (by omega) (by omega) (by omega) ⟨?_, ?_, lput (T' _ ((((G1 _).put rfl).put rfl).put rfl)) (by omega) (by omega) (by omega) ?_⟩))⟩
    · rw [q_I (by omega), h58]; exact hin2
    · rw [q_I (by omega), h58]; exact hin2
    rw [q_I (k := 58) (by omega), h58, q_I (k := 56) (by omega), q_I (k := 61) (by omega), q_I (k := 62) (by omega)]
    simp only [q_n (show 61 ≠ 75 by omega), q_n (show 62 ≠ 75 by omega), q_n (show 56 ≠ 75 by omega), q_n (show 68 ≠ 75 by omega), q_n (show 72 ≠ 75 by omega)]
    rw [x1 56 (by omega) (by omega), h56, x1 72 (by omega) (by omega), hC.2.2.2.2.1.1.2, x1 68 (by omega) (by omega), h2.1.2, ho, x1 61 (by omega) (by omega), x1 62 (by omega) (by omega),
      show σ.1 61 k = nI (sT T false top k) from (hC.2.1.2.2.2.1 k hkt).1, show σ.1 62 k = nI (ln T false k) from (hC.2.1.2.2.2.1 k hkt).2.1, nI_add, nI_m1 (by omega)]
    have GG : Fr (fun a => a == 74 || a == 75) σ (sF (sF (sF (sF (sF τ 75 (5 * m.1.2.2 + 0) 0) 75 (5 * m.1.2.2 + 1) x) 75 (5 * m.1.2.2 + 2) (nI 1)) 75 (5 * m.1.2.2 + 3) (nI 0)) 75 (5 * m.1.2.2 + 4) (nI (sT T false top k + ln T false k - 1))) := F1.tr (((((Fr.rf.put rfl).put rfl).put rfl).put rfl).put rfl)
    have hs2 : ∀ a, (a == 74 || a == 75) = true → (67 ≤ a ∧ a ≤ 69) ∨ a = 74 ∨ a = 75 := fun a h => by
      simp only [Bool.or_eq_true, beq_iff_eq] at h
      omega
    obtain ⟨g1, g5, g6⟩ := Qm_68 ht ⟨h1, h2, h3, ⟨hT, hc, hr⟩, h5, h6⟩ GG hs2
    refine h _ (Kp.of GG hs2 ht) ⟨g1, Q2_fr h2 GG rfl rfl, Q3_fr h3 GG rfl rfl, ⟨?_, by show m.1.2.2 + 1 ≤ 64; omega, fun r hr' => ?_⟩, g5, g6⟩
    · exact T' _ (((((Fr.rf.put rfl).put rfl).put rfl).put rfl).put rfl)
    · show _ ∧ _ = fu m.2.1.2.2.1 m.1.2.2 x r ∧ _ ∧ _ ∧ _ = nI (fu m.2.1.2.2.2 m.1.2.2 (eT T false top k) r)
      by_cases e : r = m.1.2.2
      · rw [e, fu_s, fu_s]
        refine ⟨?_, ?_, ?_, ?_, ?_⟩
        · rw [q_o (by omega), q_o (by omega), q_o (by omega), q_o (by omega), show 5 * m.1.2.2 = 5 * m.1.2.2 + 0 by omega, q_s]
        · rw [q_o (by omega), q_o (by omega), q_o (by omega), q_s]
        · rw [q_o (by omega), q_o (by omega), q_s]; rfl
        · rw [q_o (by omega), q_s]; rfl
        · rw [q_s]; rfl
      · have hr'' : r < m.1.2.2 + 1 := hr'
        rw [fu_o e, fu_o e]
        have z : ∀ q, q < 5 → (sF (sF (sF (sF (sF τ 75 (5 * m.1.2.2 + 0) 0) 75 (5 * m.1.2.2 + 1) x) 75 (5 * m.1.2.2 + 2) (nI 1)) 75 (5 * m.1.2.2 + 3) (nI 0)) 75 (5 * m.1.2.2 + 4) (nI (sT T false top k + ln T false k - 1))).1 75 (5 * r + q) = σ.1 75 (5 * r + q) := fun q hq => by
          rw [q_o (by omega), q_o (by omega), q_o (by omega), q_o (by omega), q_o (by omega)]
          exact e1 _ (by omega)
        have := hr r (by omega)
        rw [z 1 (by omega), z 2 (by omega), z 3 (by omega), z 4 (by omega)]
        exact ⟨by rw [show 5 * r = 5 * r + 0 by omega, z 0 (by omega)]; exact this.1, this.2⟩
  exact p1
theorem p_shut {m : MS} (ht : 80 ≤ t) (hQ : Qm t m σ) (hl : 1 ≤ m.1.2.2) (h : ∀ τ, Kp t σ τ → Qm t (mShut m) τ → Ψ τ) : wp_X7_cut 74 320 σ ((σ.1 74 2) - 1) Ψ := by
  obtain ⟨h1, h2, h3, h4, h5, h6⟩ := hQ
  rw [h4.1.2, nI_m1 (by omega)]
  refine lcut h4 (by omega) (fun τ F q => ?_)
  obtain ⟨g1, g5, g6⟩ := Qm_68 ht ⟨h1, h2, h3, h4, h5, h6⟩ F (s1' (by omega))
  exact h τ (Kp.of F (s1' (by omega)) ht) ⟨g1, Q2_fr h2 F rfl rfl, Q3_fr h3 F rfl rfl, q, g5, g6⟩
theorem p_print {m : MS} {v n : Int32} (ht : 80 ≤ t) (hQ : Qm t m σ) (hn : m.2.2.1.2.1 < 2 ^ 30) (h : ∀ τ, Kp t σ τ → Qm t (mPrint m v n) τ → Ψ τ) : wp_X6_print t σ v n Ψ := by
  obtain ⟨h1, h2, h3, h4, h5, h6⟩ := hQ
  obtain ⟨⟨pc, oc, lc⟩, ⟨ops, mem, lab, sh⟩, ⟨st, nu, p0, p1, p2⟩, ⟨ov, tr, tn, gv⟩⟩ := m
  have hnu : nu < 2 ^ 30 := hn
  have h5' := h5
  obtain ⟨a3, a4, ap, b0, b1, b2, b9⟩ := h5'
  have a3 : σ.1 t 3 = nI st := a3
  have a4 : σ.1 t 4 = nI nu := a4
  have b0 : σ.1 t 0 = nI tr := b0
  have b1 : σ.1 t 1 = tn := b1
  have b2 : σ.1 t 2 = if tr = 0 then -1 else 0 := b2
  have b9 : σ.1 t 9 = gv := b9
  unfold wp_X6_print
  rw [a4]
  by_cases h50 : 50 ≤ nu
  · refine br_t (nI_le (a := 50) h50 (by omega)) (nm_e (nm_e ?_))
    rw [nI_1]
    have F : Fr (fun a => a == t) σ (sL (sF σ t 4 (nI (nu + 1))) t ((sF σ t 4 (nI (nu + 1))).2.1 t + v.toInt64)) := (Fr.put (S := fun a => a == t) (k := t) Fr.rf (beq_self_eq_true t)).long
    have ee : ∀ a, (sL (sF σ t 4 (nI (nu + 1))) t ((sF σ t 4 (nI (nu + 1))).2.1 t + v.toInt64)).1 a = (sF σ t 4 (nI (nu + 1))).1 a := fun a => rfl
    refine h _ ⟨F.mono (fun a ha => beq_false_of_ne (by have := of_decide_eq_false ha; omega)), by rw [F.1 65 (beq_false_of_ne (by omega))], fun j j1 j2 => by rw [ee, q_o (by omega)]⟩ ⟨?_, Q2_fr h2 F (beq_false_of_ne (by omega)) (beq_false_of_ne (by omega)), Q3_fr h3 F (beq_false_of_ne (by omega)) (beq_false_of_ne (by omega)), Q4_fr h4 F (beq_false_of_ne (by omega)) (beq_false_of_ne (by omega)), ?_, ?_⟩
    · rw [F.1 65 (beq_false_of_ne (by omega))]; exact h1
    · show Q5 t st (nu + 1) (if nu < 50 then (fu p0 nu v, fu p1 nu (nI st), fu p2 nu n) else (p0, p1, p2)).1 (if nu < 50 then (fu p0 nu v, fu p1 nu (nI st), fu p2 nu n) else (p0, p1, p2)).2.1 (if nu < 50 then (fu p0 nu v, fu p1 nu (nI st), fu p2 nu n) else (p0, p1, p2)).2.2 tr tn gv _
      rw [if_neg (by omega)]
      refine ⟨by rw [ee, q_o (by omega)]; exact a3, by rw [ee, q_s], fun i i1 i2 => ?_, by rw [ee, q_o (by omega)]; exact b0, by rw [ee, q_o (by omega)]; exact b1, by rw [ee, q_o (by omega)]; exact b2, by rw [ee, q_o (by omega)]; exact b9⟩
      rw [F.1 _ (beq_false_of_ne (by omega)), F.1 _ (beq_false_of_ne (by omega)), F.1 _ (beq_false_of_ne (by omega))]
      exact ap i (by show i < nu; omega) i2
    · rw [F.1 65 (beq_false_of_ne (by omega))]; exact h6
  · have hin : vp_in (nI nu) 50 := q_in (by omega) (by omega)
    refine br_f (nI_ge (b := 50) (by omega) (by omega)) ⟨hin, nm_e ?_⟩
    rw [q_A (by omega), q_n (by omega), a4, a3]
    refine ⟨hin, nm_e ?_⟩
    rw [q_A (by omega), q_n (by omega), q_n (by omega), a4]
    refine ⟨hin, nm_e (nm_e (nm_e ?_))⟩
    rw [q_A (by omega), q_n (by omega), q_n (by omega), q_n (by omega), a4, nI_1]
    have hT : ∀ a, t ≤ a ∧ a ≤ t + 3 → (fun a => decide (t ≤ a ∧ a ≤ t + 3)) a = true := fun a ha => decide_eq_true ha
    have hF' : ∀ a, ¬ (t ≤ a ∧ a ≤ t + 3) → (fun a => decide (t ≤ a ∧ a ≤ t + 3)) a = false := fun a ha => decide_eq_false ha
    have F : Fr (fun a => decide (t ≤ a ∧ a ≤ t + 3)) σ (sL (sF (sF (sF (sF σ (t + 1) nu v) (t + 2) nu (nI st)) (t + 3) nu n) t 4 (nI (nu + 1))) t ((sF (sF (sF (sF σ (t + 1) nu v) (t + 2) nu (nI st)) (t + 3) nu n) t 4 (nI (nu + 1))).2.1 t + v.toInt64)) := ((((Fr.rf.put (hT _ (by omega))).put (hT _ (by omega))).put (hT _ (by omega))).put (hT _ (by omega))).long
    have ee : ∀ a, (sL (sF (sF (sF (sF σ (t + 1) nu v) (t + 2) nu (nI st)) (t + 3) nu n) t 4 (nI (nu + 1))) t ((sF (sF (sF (sF σ (t + 1) nu v) (t + 2) nu (nI st)) (t + 3) nu n) t 4 (nI (nu + 1))).2.1 t + v.toInt64)).1 a = (sF (sF (sF (sF σ (t + 1) nu v) (t + 2) nu (nI st)) (t + 3) nu n) t 4 (nI (nu + 1))).1 a := fun a => rfl
    have et : ∀ j, j ≠ 4 → (sF (sF (sF (sF σ (t + 1) nu v) (t + 2) nu (nI st)) (t + 3) nu n) t 4 (nI (nu + 1))).1 t j = σ.1 t j := fun j hj => by rw [q_o hj, q_n (by omega), q_n (by omega), q_n (by omega)]
    refine h _ ⟨F.mono (fun a ha => hF' a (by have := of_decide_eq_false ha; omega)), by rw [F.1 65 (hF' _ (by omega))], fun j j1 j2 => by rw [ee, et j (by omega)]⟩ ⟨?_, Q2_fr h2 F (hF' _ (by omega)) (hF' _ (by omega)), Q3_fr h3 F (hF' _ (by omega)) (hF' _ (by omega)), Q4_fr h4 F (hF' _ (by omega)) (hF' _ (by omega)), ?_, ?_⟩
    · rw [F.1 65 (hF' _ (by omega))]; exact h1
    · show Q5 t st (nu + 1) (if nu < 50 then (fu p0 nu v, fu p1 nu (nI st), fu p2 nu n) else (p0, p1, p2)).1 (if nu < 50 then (fu p0 nu v, fu p1 nu (nI st), fu p2 nu n) else (p0, p1, p2)).2.1 (if nu < 50 then (fu p0 nu v, fu p1 nu (nI st), fu p2 nu n) else (p0, p1, p2)).2.2 tr tn gv _
      rw [if_pos (by omega)]
      refine ⟨by rw [ee, et 3 (by omega)]; exact a3, by rw [ee, q_s], fun i i1 i2 => ?_, by rw [ee, et 0 (by omega)]; exact b0, by rw [ee, et 1 (by omega)]; exact b1, by rw [ee, et 2 (by omega)]; exact b2, by rw [ee, et 9 (by omega)]; exact b9⟩
      show _ = fu p0 nu v i ∧ _ = fu p1 nu (nI st) i ∧ _ = fu p2 nu n i
      rw [ee, ee, ee, q_n (show t + 1 ≠ t by omega), q_n (show t + 2 ≠ t by omega), q_n (show t + 3 ≠ t by omega), q_n (show t + 1 ≠ t + 3 by omega), q_n (show t + 1 ≠ t + 2 by omega), q_n (show t + 2 ≠ t + 3 by omega), q_e, q_e, q_e, q_n (show t + 2 ≠ t + 1 by omega), q_n (show t + 3 ≠ t + 2 by omega), q_n (show t + 3 ≠ t + 1 by omega)]
      unfold fu
      by_cases e : i = nu
      · rw [if_pos e, if_pos e, if_pos e, if_pos e, if_pos e, if_pos e]; exact ⟨rfl, rfl, rfl⟩
      · rw [if_neg e, if_neg e, if_neg e, if_neg e, if_neg e, if_neg e]
        exact ap i (by show i < nu; omega) i2
    · rw [F.1 65 (hF' _ (by omega))]; exact h6
end PR
