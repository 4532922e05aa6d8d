section QH
variable {T : TT} {n d : Nat} {σ τ : FS} {k : Nat} {Φ : Int32 → FS → Prop} {Ψ : FS → Prop} {c : Int32} {ga : SG}
/-- the fresh world, numbers drawn from d on -/
def z0 (d : Int32) : FS := (fun a => if a = 0 then (fun j => if j = 9 then 1 else if j = 10 then 7 else if j = 11 then 1000 else if j = 12 then 20 else 0) else if a = 1 then (fun j => if j = 0 then 1 else 0)
  else if a = 2 then upd (fun _ => 0) (0 : Int32).toNatClampNeg (-1) else if a = 3 then upd (fun _ => 0) (0 : Int32).toNatClampNeg (-1) else if a = 7 then (fun _ => -1) else if a = 8 then (fun _ => -1)
  else if a = 39 then (fun j => if j = 3 then -1 else 0) else if a = 52 then (fun j => if j = 3 then -1 else 0) else if a = 65 then (fun j => if j = 13 then -1 else if j = 16 then 1 else 0)
  else if a = 66 then (fun j => if j = 0 then 2 else 0) else if a = 68 then (fun j => if j = 0 then 2 else 0) else if a = 70 then (fun j => if j = 0 then 3 else 0) else if a = 72 then (fun j => if j = 0 then 5 else 0) else if a = 74 then (fun j => if j = 0 then 5 else 0)
  else if a = 88 then (fun j => if j = 2 then d else 0) else (fun _ => 0), (fun _ => 0, fun _ => none))
/-- a name is declared -/
def vS (σ : FS) (j : Nat) (κ s : Int32) (i m : Nat) : FS := sF (sF (sF (sF (sF (sF (sF (sF (sF σ 0 9 1) 5 0 (nI (m + 1))) 6 0 (nI (i + 1))) 8 j κ) 9 j (-1)) 10 j s) 9 j (nI i)) 11 i κ) 12 i s
def vC (σ : FS) (j : Nat) (s : Int32) (m : Nat) : FS := sF (sF (sF (sF (sF σ 0 9 1) 5 0 (nI (m + 1))) 8 j 9) 9 j (-1)) 10 j s
theorem sa00 {σ : FS} {k : Nat} {v : Int32} : sA σ k 0 v = sF σ k 0 v := by rw [i0, q_A (by omega)]
theorem z10n (i : Nat) : (0 : Int32) * 10 + nI i = nI i := by rw [show (0 : Int32) * 10 = 0 by decide, Int32.zero_add]
theorem decl_ok {j : Nat} {x3 x4 : Int32} (hj : j < 16) (h : Ψ (sF (sF (sF σ 8 j x3) 9 j (-1)) 10 j x4)) : wp_X1_declare σ 0 (nI j) x3 x4 Ψ := by
  have hin := q_in (show j < 160 by omega) (show 160 < 2 ^ 31 by omega)
  unfold wp_X1_declare
  refine nm_e ?_
  rw [z16]
  refine ⟨hin, nm_e ⟨hin, nm_e ⟨hin, nm_e ?_⟩⟩⟩
  rw [q_A (by omega), q_A (by omega), q_A (by omega)]
  exact h
theorem takes_ok {j m : Nat} (hj : j < 16) (h8 : σ.1 8 j = -1) (h5 : σ.1 5 0 = nI m) (hm : m < 6) (h : Φ 1 σ) : wp_X1_takesVariable σ 0 (nI j) Φ := by
  unfold wp_X1_takesVariable
  refine ⟨z10, ?_⟩
  rw [g0, h5]
  refine br_f (nI_ge (b := 6) hm (by omega)) ?_
  unfold wp_X1_declares
  rw [z16]
  refine ⟨q_in (by omega) (by omega), ?_⟩
  rw [q_I (by omega)]
  exact br_t h8 (br_t rfl h)
theorem name_ok {j : Nat} (hj : j < 16) (h : Φ 1 σ) : wp_X8_isName σ (nI j) Φ := by
  unfold wp_X8_isName
  exact br_f (nI_pos (by omega)) (br_f (nI_ge (b := 16) hj (by omega)) h)
theorem variable_ok {j i m : Nat} {κ s : Int32} (hκ : (κ = 0 ∧ s = 0) ∨ (κ = 1 ∧ s = 4)) (h1 : σ.1 1 0 = 1) (hj : j < 16) (h8 : σ.1 8 j = -1) (h5 : σ.1 5 0 = nI m) (hm : m < 6) (h6 : σ.1 6 0 = nI i) (hi : i < 10) (h : Φ (nI i) (vS σ j (κ + 6) s i m)) : wp_X8_variable σ 0 (nI j) κ s Φ := by
  have hin := q_in (show j < 160 by omega) (show 160 < 2 ^ 31 by omega)
  have hii := q_in (show i < 100 by omega) (show 100 < 2 ^ 31 by omega)
  have size : ∀ Φ : Int32 → FS → Prop, Φ 1 σ → wp_X8_isSizeOf σ κ s Φ := fun Φ hh => by
    unfold wp_X8_isSizeOf
    refine nm_e ?_
    rcases hκ with ⟨e1, e2⟩ | ⟨e1, e2⟩ <;> rw [e1, e2]
    · exact br_t (by decide) (br_t rfl hh)
    · exact br_f (by decide) (br_t (by decide) (br_f (by decide) (br_f (by decide) hh)))
  have k9 : ¬ κ + 6 = 9 := by rcases hκ with ⟨e1, e2⟩ | ⟨e1, e2⟩ <;> rw [e1] <;> decide
  unfold wp_X8_variable
  refine needProc_ok h1 (name_ok hj (br_f (by decide) (size _ (br_f (by decide) (needArg_ok (takes_ok hj h8 h5 hm (needState_ok (nm_e ?_))))))))
  unfold wp_X1_addVariable
  refine ⟨z10, z10, nm_e (br_f k9 ?_)⟩
  rw [g0, sa00, q_n (by omega), h5, nI_1]
  unfold wp_X1_declarePlace
  refine ⟨z10, nm_e ⟨z10, z10, nm_e (decl_ok hj ?_)⟩⟩
  rw [g0, sa00, q_n (by omega), q_n (by omega), h6, nI_1, z16]
  refine ⟨hin, nm_e ?_⟩
  rw [z10n]
  refine ⟨hii, nm_e ⟨hii, nm_e ?_⟩⟩
  rw [q_A (by omega), q_A (by omega), q_A (by omega)]
  exact h
theorem constant_ok {j m : Nat} {s : Int32} (hs : ¬ s < -99 ∧ ¬ 99 < s) (h1 : σ.1 1 0 = 1) (hj : j < 16) (h8 : σ.1 8 j = -1) (h5 : σ.1 5 0 = nI m) (hm : m < 6) (h : Φ (-1) (vC σ j s m)) : wp_X8_variable σ 0 (nI j) 3 s Φ := by
  unfold wp_X8_variable
  refine needProc_ok h1 (name_ok hj (br_f (by decide) ?_))
  unfold wp_X8_isSizeOf
  refine nm_e (br_f (by decide) (br_f (by decide) (br_f (by decide) (br_t (by decide) (br_f hs.1 (br_f hs.2 (br_f (by decide) (needArg_ok (takes_ok hj h8 h5 hm (needState_ok (nm_e ?_)))))))))))
  unfold wp_X1_addVariable
  refine ⟨z10, z10, nm_e (br_t (by decide) ?_)⟩
  rw [g0, sa00, q_n (by omega), h5, nI_1]
  exact decl_ok hj h
def T0 : TT := fun _ => ((0, 0), (none, none, none), 0)
theorem c60 {v : Nat} (h : v < 60) : ¬ nI v - 30 < -99 ∧ ¬ 99 < nI v - 30 := by
  have e1 : (nI v - 30).toInt = (v : Int) - 30 := by
    rw [Int32.toInt_sub, nI_toInt (by omega), show (30 : Int32).toInt = 30 by decide]
    exact Int.bmod_eq_of_le (by omega) (by omega)
  rw [Int32.lt_iff_toInt_lt, Int32.lt_iff_toInt_lt, e1, show (-99 : Int32).toInt = -99 by decide, show (99 : Int32).toInt = 99 by decide]
  omega
/-- behind declare() -/
theorem gn_0 {d : Nat} (hd : d < 2 ^ 20) (h0 : σ.1 0 9 = 1 ∧ σ.1 0 10 = 7 ∧ σ.1 0 11 = nI 1000 ∧ σ.1 0 12 = 20 ∧ σ.1 0 13 = 0) (hD : Dcl c σ) (h7 : σ.1 7 0 = -1) (hw : WT σ) (hc : σ.1 88 7 = c) (h13 : σ.1 13 0 = 0) (h3 : σ.1 88 3 = 0) (h2 : σ.1 88 2 = nI d) : Gn T0 0 d c σ := by
  have np : ∀ k p, ¬ part T0 k p := fun k p z => by
    rcases z with z | z | z <;> cases z
  exact ⟨⟨hD, h7, h0, hw, hc⟩, h13, h3, by omega, h2, hd, fun k p z => absurd z (np k p), fun k hk => by omega, fun k p hk => by omega, fun k hk => by omega, fun k _ p => np k p⟩
theorem wt0 (h1 : σ.1 66 0 = 2) (h2 : σ.1 66 2 = 0) (h3 : σ.1 68 0 = 2) (h4 : σ.1 68 2 = 0) (h5 : σ.1 70 0 = 3) (h6 : σ.1 70 2 = 0) (h7 : σ.1 72 0 = 5) (h8 : σ.1 72 2 = 0) (h9 : σ.1 74 0 = 5) (h10 : σ.1 74 2 = 0) : WT σ :=
  ⟨⟨0, by omega, h1, h2⟩, ⟨0, by omega, h3, h4⟩, ⟨0, by omega, h5, h6⟩, ⟨0, by omega, h7, h8⟩, ⟨0, by omega, h9, h10⟩⟩
theorem declare_ok {d : Nat} (hga : ga.2.1 < 2 ^ 31) (hd : d + 1 < 2 ^ 20) (h : ∀ c τ, Gn T0 0 (d + 1) c τ → Φ 1 τ) : wp_X9_declare ga (z0 (nI d)) Φ := by
  unfold wp_X9_declare
  refine draw_ok (m := 60) (d := d) hga (by omega) (by omega) rfl (by omega) (fun v hv => ?_)
  have hc := c60 hv
  obtain ⟨c, ec⟩ : ∃ c, c = nI v - 30 := ⟨_, rfl⟩
  rw [← ec] at hc ⊢
  refine nm_e (variable_ok (j := 0) (i := 0) (m := 0) (Or.inl ⟨rfl, rfl⟩) rfl (by omega) rfl rfl (by omega) rfl (by omega) (nm_e (br_t rfl ?_)))
  refine variable_ok (j := 1) (i := 1) (m := 1) (Or.inl ⟨rfl, rfl⟩) rfl (by omega) rfl rfl (by omega) rfl (by omega) (nm_e (br_t rfl ?_))
  refine variable_ok (j := 2) (i := 2) (m := 2) (Or.inr ⟨rfl, rfl⟩) rfl (by omega) rfl rfl (by omega) rfl (by omega) (nm_e (br_t rfl ?_))
  refine constant_ok (j := 3) (m := 3) hc rfl (by omega) rfl rfl (by omega) (nm_e (br_t rfl ?_))
  refine variable_ok (j := 4) (i := 3) (m := 4) (Or.inl ⟨rfl, rfl⟩) rfl (by omega) rfl rfl (by omega) rfl (by omega) (nm_e (br_t rfl ?_))
  refine h c _ (gn_0 hd ⟨rfl, rfl, rfl, rfl, rfl⟩ ⟨⟨rfl, rfl, rfl, rfl, rfl, rfl⟩, fun j hj => ?_, fun j hj h3 => ?_, rfl, ⟨rfl, rfl, rfl, rfl⟩, rfl⟩ rfl (wt0 rfl rfl rfl rfl rfl rfl rfl rfl rfl rfl) rfl rfl rfl rfl)
  · rcases (show j = 0 ∨ j = 1 ∨ j = 2 ∨ j = 3 ∨ j = 4 ∨ j = 5 ∨ j = 6 ∨ j = 7 ∨ j = 8 ∨ j = 9 ∨ j = 10 ∨ j = 11 ∨ j = 12 ∨ j = 13 ∨ j = 14 ∨ j = 15 by omega) with rfl | rfl | rfl | rfl | rfl | rfl | rfl | rfl | rfl | rfl | rfl | rfl | rfl | rfl | rfl | rfl <;> rfl
  · rcases (show j = 0 ∨ j = 1 ∨ j = 2 ∨ j = 4 by omega) with rfl | rfl | rfl | rfl <;> rfl
end QH
