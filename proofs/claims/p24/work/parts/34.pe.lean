section PE
variable {T : TT} {N : Nat} {σ τ : FS} {k : Nat} {Φ : Int32 → FS → Prop} {Ψ : FS → Prop} {c : Int32} {inn lp : Nat → Bool} {G : Nat → Prop} {Q : FS → Prop}
theorem toBeSet_6 (h : Φ 1 σ) : wp_X2_isToBeSet σ 6 Φ := by
  unfold wp_X2_isToBeSet
  exact br_t rfl h
theorem toBeSet_9 (h : Φ 0 σ) : wp_X2_isToBeSet σ 9 Φ := by
  unfold wp_X2_isToBeSet
  exact br_f (by decide) (br_f (by decide) (br_f (by decide) h))
/-- a node with a name is as it has to be -/
theorem asItHasToBe_ok (hk : k < 110) (hm : mt T σ k) (hw : WF T k) (h24 : σ.1 24 k = isN (nm T k)) (hn : nmK (kd T k) = true) (h : Φ 1 σ) : wp_X2_isAsItHasToBe σ (nI k) Φ := by
  have hin := q_in hk (show 110 < 2 ^ 31 by omega)
  obtain ⟨-, h5, n1, n2, n13⟩ := hw.2.2.2.2.2.1 hn
  unfold wp_X2_isAsItHasToBe
  refine ⟨hin, nm_e ⟨hin, nm_e ?_⟩⟩
  rw [q_I (by omega), q_I (by omega), hm.1, h24]
  have hκ : kd T k = 1 ∨ kd T k = 2 ∨ kd T k = 13 ∨ kd T k = 14 := by
    unfold nmK at hn
    simp only [Bool.or_eq_true, beq_iff_eq] at hn
    omega
  rcases hκ with e | e | e | e <;> rw [e]
  · refine br_t rfl ?_
    have : nm T k = 3 ∨ nm T k = 0 ∨ nm T k = 1 ∨ nm T k = 4 := by have := n1 e; omega
    rcases this with q | q | q | q <;> rw [q]
    · exact toBeSet_9 (br_t rfl (br_t rfl h))
    · exact toBeSet_6 (br_f (by decide) h)
    · exact toBeSet_6 (br_f (by decide) h)
    · exact toBeSet_6 (br_f (by decide) h)
  · rw [n2 (Or.inl e)]
    exact br_f (by decide) (br_f (by decide) (br_f (by decide) (br_f (by decide) (br_f (by decide) (br_t rfl h)))))
  · refine br_f (by decide) (br_f (by decide) (br_f (by decide) (br_t rfl ?_)))
    have : nm T k = 0 ∨ nm T k = 1 ∨ nm T k = 4 := by have := n13 e; omega
    rcases this with q | q | q <;> rw [q] <;> exact toBeSet_6 ⟨Or.inr rfl, h⟩
  · rw [n2 (Or.inr e)]
    exact br_f (by decide) (br_f (by decide) (br_f (by decide) (br_f (by decide) (br_f (by decide) (br_t rfl h)))))
theorem isN_29 {a : Nat} (h5 : a < 5) (h3 : a ≠ 3) : ¬ isN a = 9 ∧ ¬ isN a = 2 := by
  rcases (show a = 0 ∨ a = 1 ∨ a = 2 ∨ a = 4 by omega) with rfl | rfl | rfl | rfl <;> decide
/-- the fault of a node that is in MAIN -/
theorem faultOf_ok (hk : k < 110) (hm : mt T σ k) (hw : WF T k) (hi : inn k = true) (h24 : σ.1 24 k = iS T inn k) (h30 : σ.1 30 k = lv T inn lp k)
    (h : Φ (if kd T k = 17 ∧ lp k = false then 6 else 0) σ) : wp_X2_faultOf σ (nI k) Φ := by
  have hin := q_in hk (show 110 < 2 ^ 31 by omega)
  have h8 : ¬ nI (kd T k) = 8 := kd_ne (v := 8) hw.lt (by omega) (okK_ne hw.1 rfl)
  unfold wp_X2_faultOf
  refine ⟨hin, nm_e (hasName_ok hk hm hw ?_)⟩
  rw [q_I (by omega), hm.1, q_I (by omega), q_I (by omega)]
  cases hn : nmK (kd T k) with
  | false =>
    refine br_t rfl (br_f h8 ?_)
    by_cases h17 : kd T k = 17
    · refine br_t (by rw [h17]; rfl) ⟨hin, ?_⟩
      unfold lv at h30
      cases hl : lp k with
      | true =>
        rw [if_pos ⟨h17, hi, hl⟩] at h30
        rw [if_neg (fun q => by rw [hl] at q; cases q.2)] at h
        exact br_f (by rw [h30]; decide) h
      | false =>
        rw [if_neg (fun q => by rw [hl] at q; cases q.2.2)] at h30
        rw [if_pos ⟨h17, hl⟩] at h
        exact br_t h30 h
    · rw [if_neg (fun q => h17 q.1)] at h
      exact br_f (kd_ne (v := 17) hw.lt (by omega) h17) h
  | true =>
    have h17 : kd T k ≠ 17 := fun e => by rw [e] at hn; cases hn
    rw [if_neg (fun q => h17 q.1)] at h
    have hnd : nd T inn k = true := by unfold nd; rw [hi, hn]; rfl
    have e24 : σ.1 24 k = isN (nm T k) := by rw [h24]; unfold iS; rw [if_pos hnd]
    obtain ⟨-, h5, n1, n2, n13⟩ := hw.2.2.2.2.2.1 hn
    refine br_f (by decide) ⟨hin, nm_e (br_f (by rw [e24]; exact isN_ne h5) ?_)⟩
    rw [e24]
    by_cases h13 : kd T k = 13
    · have hh := isN_29 h5 (n13 h13).2
      exact br_t (by rw [h13]; rfl) (br_f hh.1 (br_f hh.2 (asItHasToBe_ok hk hm hw e24 hn (br_f (by decide) (br_f h8 (br_f (kd_ne (v := 17) hw.lt (by omega) h17) h))))))
    · exact br_f (kd_ne (v := 13) hw.lt (by omega) h13) (asItHasToBe_ok hk hm hw e24 hn (br_f (by decide) (br_f h8 (br_f (kd_ne (v := 17) hw.lt (by omega) h17) h))))
def S34 (a : Nat) : Bool := decide (34 ≤ a ∧ a ≤ 38)
theorem S34_f {a : Nat} (h : ¬ (34 ≤ a ∧ a ≤ 38)) : S34 a = false := decide_eq_false h
/-- nodes of G wait -/
def WI (G : Nat → Prop) (σ τ : FS) : Prop := Fr S34 σ τ ∧ τ.1 34 3 = 0 ∧ ∃ w, w ≤ 110 ∧ τ.1 34 8 = nI w ∧ ∀ j, j < w → ∃ k, G k ∧ τ.1 38 j = nI k
theorem await_ok {o : Option Nat} (hI : WI G σ τ) (ho : ∀ p, o = some p → G p ∧ p < 110) (h : ∀ ρ, WI G σ ρ → Ψ ρ) : wp_X2_await τ (oI o) Ψ := by
  obtain ⟨hF, h3, w, hw, h8, hk⟩ := hI
  unfold wp_X2_await
  cases o with
  | none => exact br_t rfl (h τ ⟨hF, h3, w, hw, h8, hk⟩)
  | some p =>
    obtain ⟨hG, hp⟩ := ho p rfl
    refine br_f (q_m1 (by omega)) ?_
    rw [h8]
    by_cases h110 : 110 ≤ w
    · exact br_t (nI_le (a := 110) h110 (by omega)) (h τ ⟨hF, h3, w, hw, h8, hk⟩)
    · refine br_f (nI_ge (b := 110) (by omega) (by omega)) ⟨q_in (by omega) (by omega), nm_e (nm_e ?_)⟩
      rw [q_A (by omega), q_n (by omega), h8, nI_1]
      refine h _ ⟨(hF.put rfl).put rfl, ?_, w + 1, by omega, q_s, fun j hj => ?_⟩
      · rw [q_o (by omega), q_n (by omega)]; exact h3
      · by_cases hjw : j = w
        · exact ⟨p, hG, by rw [hjw, q_n (by omega), q_s]; rfl⟩
        · obtain ⟨k, h1, h2⟩ := hk j (by omega)
          exact ⟨k, h1, by rw [q_n (by omega), q_o hjw]; exact h2⟩
theorem tell_0 {p n : Int32} (h : Ψ σ) : wp_X2_tell σ 0 p n Ψ := by
  unfold wp_X2_tell
  exact br_t rfl h
theorem tell_1 {w p n : Int32} (hw : ¬ w = 0) (h3 : σ.1 34 3 = 0) (h : Ψ (sF (sF (sF (sF σ 35 0 w) 36 0 p) 37 0 n) 34 3 1)) : wp_X2_tell σ w p n Ψ := by
  have z : vp_in (0 : Int32) 120 := by rw [i0]; exact q_in (by omega) (by omega)
  have a0 : ∀ (ρ : FS) (k : Nat) (v : Int32), sA ρ k 0 v = sF ρ k 0 v := fun ρ k v => by rw [i0, q_A (by omega)]
  unfold wp_X2_tell
  refine br_f hw ?_
  rw [h3]
  refine br_f (by decide) ⟨z, nm_e ?_⟩
  rw [a0, q_n (by omega), h3]
  refine ⟨z, nm_e ?_⟩
  rw [a0, q_n (by omega), q_n (by omega), h3]
  refine ⟨z, nm_e (nm_e ?_)⟩
  rw [a0, q_n (by omega), q_n (by omega), q_n (by omega), h3]
  exact h
theorem await_n (h : Ψ σ) : wp_X2_await σ (-1) Ψ := by
  unfold wp_X2_await
  exact br_t rfl h
/-- what may be without a fault -/
def Gd (T : TT) (N : Nat) (inn lp : Nat → Bool) (G : Nat → Prop) : Prop := ∀ k, G k → k < N ∧ inn k = true ∧ (kd T k = 17 → lp k = true) ∧ ∀ p, part T k p → G p
theorem flt_none (hP : Pg T N σ) (hp : σ.1 1 0 = 1) (h7 : σ.1 7 0 = -1) (h : ∀ τ, Fr S34 σ τ → τ.1 34 3 = 1 → τ.1 35 0 = 10 → τ.1 36 0 = 0 → τ.1 37 0 = -1 → Ψ τ) : wp_X2_find σ Ψ := by
  unfold wp_X2_find
  refine nm_e ?_
  rw [show FUEL = 1999998 + 1 + 1 from rfl]
  unfold wp_X2_find_7
  rw [q_n (by omega), hp]
  have g0 : ∀ (ρ : FS) (k : Nat), g ρ k 0 = ρ.1 k 0 := fun ρ k => by rw [i0, q_I (by omega)]
  refine br_f (by decide) ⟨z10, ?_⟩
  rw [g0, q_n (by omega), h7]
  refine br_t rfl (tell_1 (by decide) q_s (nm_e ⟨z10, ?_⟩))
  rw [g0, q_n (by omega), q_n (by omega), q_n (by omega), q_n (by omega), q_n (by omega), q_n (by omega), h7]
  refine await_n ?_
  rw [FUEL_s]
  unfold wp_X2_find_59
  rw [q_s]
  refine br_f (by decide) (br_t (by decide) ?_)
  unfold wp_X2_find_7
  rw [q_n (by omega), q_n (by omega), q_n (by omega), q_n (by omega), q_n (by omega), q_n (by omega), hp]
  refine br_t (by decide) (h _ ((((((Fr.rf.put rfl).put rfl).put rfl).put rfl).put rfl).put rfl) ?_ ?_ ?_ ?_)
  · rw [q_o (by omega), q_s]
  · rw [q_n (by omega), q_n (by omega), q_n (by omega), q_n (by omega), q_s]
  · rw [q_n (by omega), q_n (by omega), q_n (by omega), q_s]
  · rw [q_n (by omega), q_n (by omega), q_s]
theorem flt_0 {top : Nat} (hP : Pg T N σ) (hp : σ.1 1 0 = 1) (h7 : σ.1 7 0 = nI top) (hM : Mn T c N inn lp σ) (hG : Gd T N inn lp G) (ht : G top) (h : ∀ τ, Fr S34 σ τ → τ.1 34 3 = 0 → Ψ τ) : wp_X2_find σ Ψ := by
  have hN := hP.2.1
  have htN := (hG top ht).1
  have g0 : ∀ (ρ : FS) (k : Nat), g ρ k 0 = ρ.1 k 0 := fun ρ k => by rw [i0, q_I (by omega)]
  unfold wp_X2_find
  refine nm_e ?_
  rw [show FUEL = 1999998 + 1 + 1 from rfl]
  unfold wp_X2_find_7
  rw [q_n (by omega), hp]
  refine br_f (by decide) ⟨z10, ?_⟩
  rw [g0, q_n (by omega), h7]
  refine br_f (q_m1 (by omega)) (nm_e ⟨z10, ?_⟩)
  rw [g0, q_n (by omega), q_n (by omega), h7]
  refine await_ok (G := G) (o := some top) (σ := σ) ⟨(Fr.rf.put rfl).put rfl, by rw [q_o (by omega), q_s], 0, by omega, q_s, fun j hj => absurd hj (by omega)⟩ (fun p e => by cases e; exact ⟨ht, by omega⟩) (fun τ1 h1 => ?_)
  have fin : ∀ τ, WI G σ τ → wp_X2_find_7 Ψ (fun (σ39 : FS) (_ : Int32) => Ψ σ39) (1999998 + 1) τ (0 + 1) := by
    intro τ hI
    unfold wp_X2_find_7
    rw [hI.1.1 1 rfl, hp]
    exact br_t (by decide) (h τ hI.1 hI.2.1)
  have := walk (P := fun _ τ => WI G σ τ) (W := fun f τ i => wp_X2_find_59 0 Ψ (fun (σ4 : FS) (_ : Int32) => wp_X2_find_7 Ψ (fun (σ39 : FS) (_ : Int32) => Ψ σ39) (1999998 + 1) σ4 (0 + 1)) f τ i) (N := 110) (by omega) ?_ ?_ 110 0 FUEL τ1 (by omega) (FUEL_le (by omega)) h1
  · rw [i0]; exact this
  · intro i f τ hi hI go
    obtain ⟨hF, h3, w, hw, h8, hk⟩ := hI
    unfold wp_X2_find_59
    rw [h8]
    refine br_f (nI_ge (b := 110) hi (by omega)) ?_
    cases w with
    | zero => exact br_t (by decide) (fin τ ⟨hF, h3, 0, hw, h8, hk⟩)
    | succ w =>
      refine br_f (nI_nle (by omega) (by omega)) (nm_e ?_)
      rw [nI_pred, q_s]
      refine ⟨q_in (by omega) (by omega), nm_e ?_⟩
      rw [q_I (by omega), q_n (by omega)]
      obtain ⟨k, hGk, ek⟩ := hk w (by omega)
      rw [ek]
      obtain ⟨hkN, hik, hlk, hpk⟩ := hG k hGk
      have hI2 : WI G σ (sF τ 34 8 (nI w)) := ⟨hF.put rfl, by rw [q_o (by omega)]; exact h3, w, by omega, q_s, fun j hj => by rw [q_n (by omega)]; exact hk j (by omega)⟩
      have pr : ∀ ρ, WI G σ ρ → mt T ρ k ∧ WF T k := fun ρ hρ => by
        have P := hP.fr hρ.1 (fun k h1 h2 => S34_f (by omega))
        exact P.2.2.2 k hkN
      have mk := hM.1 k hkN
      refine faultOf_ok (T := T) (inn := inn) (lp := lp) (by omega) (pr _ hI2).1 (pr _ hI2).2 hik ?_ ?_ ?_
      · rw [hI2.1.1 24 rfl]; exact mk.2.1.2.2.1
      · rw [hI2.1.1 30 rfl]; exact mk.2.2.2.2.2
      · rw [if_neg (fun q => by have := hlk q.1; rw [this] at q; cases q.2)]
        refine tell_0 (partC_ok (by omega) (pr _ hI2).1 (pr _ hI2).2 (await_ok hI2 (fun p e => ⟨hpk p (Or.inr (Or.inl e)), by have := (hG p (hpk p (Or.inr (Or.inl e)))).1; omega⟩) (fun τ2 h2 => ?_)))
        refine partB_ok (by omega) (pr _ h2).1 (pr _ h2).2 (await_ok h2 (fun p e => ⟨hpk p (Or.inl e), by have := (hG p (hpk p (Or.inl e))).1; omega⟩) (fun τ3 h3 => ?_))
        refine partA_ok (by omega) (pr _ h3).1 (pr _ h3).2 (await_ok h3 (fun p e => ⟨hpk p (Or.inr (Or.inr e)), by have := (hG p (hpk p (Or.inr (Or.inr e)))).1; omega⟩) (fun τ4 h4 => ?_))
        rw [← nI_succ]
        exact go τ4 h4
  · intro f τ hI
    show wp_X2_find_59 0 Ψ _ (f + 1) τ (nI 110)
    unfold wp_X2_find_59
    exact br_t (by decide) (fin τ hI)
/-- a BREAK alone -/
theorem flt_6 {top : Nat} (hP : Pg T N σ) (hp : σ.1 1 0 = 1) (h7 : σ.1 7 0 = nI top) (hM : Mn T c N inn lp σ) (ht : top < N) (h17 : kd T top = 17) (hi : inn top = true) (hl : lp top = false) (h : ∀ τ, Fr S34 σ τ → τ.1 34 3 = 1 → τ.1 35 0 = 6 → τ.1 36 0 = 0 → τ.1 37 0 = nI top → Ψ τ) : wp_X2_find σ Ψ := by
  have hN := hP.2.1
  have g0 : ∀ (ρ : FS) (k : Nat), g ρ k 0 = ρ.1 k 0 := fun ρ k => by rw [i0, q_I (by omega)]
  have a0 : ∀ (ρ : FS) (k : Nat) (v : Int32), sA ρ k 0 v = sF ρ k 0 v := fun ρ k v => by rw [i0, q_A (by omega)]
  have z110 : vp_in (0 : Int32) 110 := by rw [i0]; exact q_in (by omega) (by omega)
  have hm := (hP.2.2.2 top ht).1
  have hw := (hP.2.2.2 top ht).2
  have eB : pB T top = none := by
    have := hw.2.1
    rw [h17] at this
    cases e : pB T top with
    | none => rfl
    | some p => rw [e] at this; cases this
  have eC : pC T top = none := by
    have := hw.2.2.1
    rw [h17] at this
    cases e : pC T top with
    | none => rfl
    | some p => rw [e] at this; cases this
  have eA : pA T top = none := by
    cases e : pA T top with
    | none => rfl
    | some p => have := hw.2.2.2.1 (by rw [e]; rfl); omega
  unfold wp_X2_find
  refine nm_e ?_
  rw [show FUEL = 1999998 + 1 + 1 from rfl]
  unfold wp_X2_find_7
  rw [q_n (by omega), hp]
  refine br_f (by decide) ⟨z10, ?_⟩
  rw [g0, q_n (by omega), h7]
  refine br_f (q_m1 (by omega)) (nm_e ⟨z10, ?_⟩)
  rw [g0, q_n (by omega), q_n (by omega), h7]
  unfold wp_X2_await
  rw [q_s]
  refine br_f (q_m1 (by omega)) (br_f (by decide) ⟨z110, nm_e (nm_e ?_)⟩)
  rw [a0, q_n (by omega), q_s, show (0 : Int32) + 1 = nI 1 by decide, show FUEL = 1999998 + 1 + 1 from rfl]
  unfold wp_X2_find_59
  rw [q_s]
  refine br_f (by decide) (br_f (by decide) (nm_e ?_))
  rw [nI_pred, q_s]
  refine ⟨z110, nm_e ?_⟩
  rw [q_I (by omega), q_n (by omega), q_n (by omega), q_s]
  have F : Fr S34 σ (sF (sF (sF (sF (sF σ 34 3 0) 34 8 0) 38 0 (nI top)) 34 8 (nI 1)) 34 8 (nI 0)) := ((((Fr.rf.put rfl).put rfl).put rfl).put rfl).put rfl
  have mk := hM.1 top ht
  refine faultOf_ok (T := T) (inn := inn) (lp := lp) (by omega) (mt_fr F rfl rfl rfl rfl hm) hw hi ?_ ?_ ?_
  · rw [F.1 24 rfl]; exact mk.2.1.2.2.1
  · rw [F.1 30 rfl]; exact mk.2.2.2.2.2
  rw [if_pos ⟨h17, hl⟩]
  refine tell_1 (by decide) (by rw [q_o (by omega), q_o (by omega), q_n (by omega), q_o (by omega), q_s]) ?_
  have F2 := (((F.put (k := 35) (i := 0) (v := 6) rfl).put (k := 36) (i := 0) (v := 0) rfl).put (k := 37) (i := 0) (v := nI top) rfl).put (k := 34) (i := 3) (v := 1) rfl
  refine partC_ok (T := T) (by omega) (mt_fr F2 rfl rfl rfl rfl hm) hw ?_
  rw [oI_none eC]
  refine await_n (partB_ok (T := T) (by omega) (mt_fr F2 rfl rfl rfl rfl hm) hw ?_)
  rw [oI_none eB]
  refine await_n (partA_ok (T := T) (by omega) (mt_fr F2 rfl rfl rfl rfl hm) hw ?_)
  rw [oI_none eA]
  refine await_n ?_
  unfold wp_X2_find_59
  rw [q_o (by omega), q_n (by omega), q_n (by omega), q_n (by omega), q_s]
  refine br_f (by decide) (br_t (by decide) ?_)
  unfold wp_X2_find_7
  rw [F2.1 1 rfl, hp]
  refine br_t (by decide) (h _ F2 q_s ?_ ?_ ?_)
  · rw [q_n (by omega), q_n (by omega), q_n (by omega), q_s]
  · rw [q_n (by omega), q_n (by omega), q_s]
  · rw [q_n (by omega), q_s]
/-- what refresh() may change -/
def S9 (a : Nat) : Bool := decide (20 ≤ a ∧ a ≤ 38) || a == 39 || a == 52 || a == 0
theorem refresh_no (h9 : σ.1 0 9 = 0) (h : Ψ σ) : wp_X8_refresh σ Ψ := by
  unfold wp_X8_refresh
  exact br_t h9 h
theorem refresh_yes (h9 : ¬ σ.1 0 9 = 0) (hP : Pg T N σ) (hD : Dcl c σ) (hW : Wh T N inn σ) (hB : Br T N inn lp σ)
    (hX : ∀ (τ : FS) (Ψ : FS → Prop), Fr S20 σ τ → Mn T c N inn lp τ → (∀ ρ, Fr S34 τ ρ → Q ρ → Ψ ρ) → wp_X2_find τ Ψ)
    (h : ∀ ρ, Fr (fun a => S20 a || S34 a) σ ρ → Mn T c N inn lp ρ → Q ρ → Ψ (sF (sF (sF ρ 39 3 (-1)) 52 3 (-1)) 0 9 0)) : wp_X8_refresh σ Ψ := by
  unfold wp_X8_refresh
  refine br_f h9 (find_ok hP hD hW hB (fun τ F1 M1 => hX τ _ F1 M1 (fun ρ F2 q => ?_)))
  unfold wp_X0_forget
  refine nm_e (nm_e (nm_e (h ρ ?_ ?_ q)))
  · exact (F1.mono (fun a ha => by have := (Bool.or_eq_false_iff.mp ha).1; exact this)).tr (F2.mono (fun a ha => (Bool.or_eq_false_iff.mp ha).2))
  · have e : ∀ a, ¬ (34 ≤ a ∧ a ≤ 38) → ρ.1 a = τ.1 a := fun a ha => F2.1 a (S34_f ha)
    obtain ⟨m, m2⟩ := M1
    refine ⟨fun k hk => ?_, ?_⟩
    · obtain ⟨x1, x2, x3, x4, x5, x6⟩ := m k hk
      exact ⟨by rw [e 21 (by omega)]; exact x1, bz_fr F2 rfl rfl rfl rfl x2, fz_fr F2 rfl rfl x3, by rw [e 28 (by omega)]; exact x4, by rw [e 29 (by omega)]; exact x5, by rw [e 30 (by omega)]; exact x6⟩
    · rw [e 32 (by omega), e 33 (by omega), e 20 (by omega)]; exact m2
end PE
