section PS
variable {T : TT} {N top : Nat} {σ τ : FS} {k t a : Nat} {Φ : Int32 → FS → Prop} {Ψ : FS → Prop} {c cl : Int32}
theorem p_leave {m : MS} {y : Int32} (ht : 80 ≤ t) (hQ : Qm t m σ) (hC : CX T c N top t cl σ) (ha : a < 460) (hk : k ≤ top) (h56 : σ.1 56 a = 0) (h57 : σ.1 57 a = y) (h58 : σ.1 58 a = nI k)
    (h : ∀ τ, Kp t σ τ → Qm t (mLeave m y (nI k)) τ → Ψ τ) : wp_X3_leave t σ (nI a) Ψ := by
  have hN := hC.1.1.2.1
  have htN := hC.1.2.2.2.1
  obtain ⟨h1, h2, h3, h4, h5, h6⟩ := hQ
  have hin := q_in ha (show 460 < 2 ^ 31 by omega)
  have h4' := h4
  obtain ⟨hT, hc, hr⟩ := h4'
  unfold wp_X3_leave
  refine ⟨hin, ?_⟩
  rw [q_I (by omega), h56]
  refine frameAt_0 (nm_e ?_)
  rw [hC.2.2.1, hT.2]
  have key : ∀ r f, r ≤ m.1.2.2 → r < f → fnd m.2.1.2.2.1 y m.1.2.2 = fnd m.2.1.2.2.1 y r → wp_X3_leave_24 t (nI a) 0 Ψ (fun (σ6 : FS) (x7 : Int32) => ((0 ≤ x7 → wp_X7_at 74 320 σ6 x7 2 (fun (x9 : Int32) (σ8 : FS) => ∀ x10 : Int32, x10 = (σ8.1 72 2) → wp_X3_leave_91 t (nI a) 0 x7 x9 Ψ (fun (σ12 : FS) (x13 : Int32) => wp_X7_at 74 320 σ12 x7 3 (fun (x15 : Int32) (σ14 : FS) => wp_X7_cut 68 128 σ14 x15 (fun (σ16 : FS) => wp_X7_cut 74 320 σ16 (x7 + 1) (fun (σ17 : FS) => wp_X7_at 74 320 σ17 x7 4 (fun (x19 : Int32) (σ18 : FS) => ∀ σ20 : FS, σ20 = sF σ18 65 12 x19 → Ψ σ20))))) FUEL σ8 x10)) ∧ (¬ (0 ≤ x7) → vp_in (nI a) 460 ∧ (wp_X3_trap t σ6 5 (g σ6 58 (nI a)) (fun (σ21 : FS) => Ψ σ21))))) f σ (nI r - 1) := by
    intro r
    induction r with
    | zero =>
      intro f _ hf e
      cases f with
      | zero => omega
      | succ f =>
        unfold wp_X3_leave_24
        refine br_t (by decide) (br_f (by decide) ⟨hin, ?_⟩)
        rw [q_I (by omega), h58, show (5 : Int32) = nI 5 by decide]
        refine p_trap (m := m) ht (by omega) (by omega) ?_ ⟨h1, h2, h3, h4, h5, h6⟩ rfl (fun τ K q => h τ K ?_)
        · rw [(hC.1.2.2.1.1 k (by omega)).1, iT_k hk]; rfl
        · unfold mLeave
          rw [e]; exact q
    | succ r ih =>
      intro f hr1 hf e
      cases f with
      | zero => omega
      | succ f =>
        rw [nI_pred]
        obtain ⟨r0, r1, r2, r3, r4⟩ := hr r (by omega)
        unfold wp_X3_leave_24
        refine br_f (nI_pos (by omega)) ⟨hin, ?_⟩
        rw [q_I (by omega), h57]
        unfold wp_X3_isLoopOf
        refine lat (q := 0) h4 (by omega) (by omega) ?_
        rw [show σ.1 75 (5 * r + 0) = 0 from r0]
        refine br_t rfl (lat (q := 1) h4 (by omega) (by omega) ?_)
        rw [r1]
        by_cases hl : m.2.1.2.2.1 r = y
        · refine br_t hl (br_f (by decide) (br_t (nI_pos' (by omega)) (lat (q := 2) h4 (by omega) (by omega) (nm_e ?_))))
          rw [r2, hC.2.2.2.2.1.1.2, FUEL_s]
          unfold wp_X3_leave_91
          refine br_t (by decide) (lat (q := 3) h4 (by omega) (by omega) ?_)
          rw [r3, i0]
          refine cut_ok h2.1 (Nat.zero_le _) (by have := h2.2.1; omega) (fun τ1 F1 T1 => ?_)
          have q4 := Q4_fr h4 F1 rfl rfl
          rw [nI_1]
          refine lcut q4 (by omega) (fun τ2 F2 q4' => ?_)
          refine lat (q := 4) q4' (by omega) (by omega) (nm_e ?_)
          have FF : Fr (fun a => a == 68 || a == 74) σ τ2 := (F1.mono (fun a ha => (Bool.or_eq_false_iff.mp ha).1)).tr (F2.mono (fun a ha => (Bool.or_eq_false_iff.mp ha).2))
          have hs2 : ∀ a, (a == 68 || a == 74) = true → (67 ≤ a ∧ a ≤ 69) ∨ a = 74 ∨ a = 75 := fun a h => by
            simp only [Bool.or_eq_true, beq_iff_eq] at h
            omega
          obtain ⟨g1, g5, g6⟩ := Qm_68 ht ⟨h1, h2, h3, h4, h5, h6⟩ FF hs2
          rw [show τ2.1 75 (5 * r + 4) = nI (m.2.1.2.2.2 r) by rw [FF.1 75 rfl]; exact r4]
          have qm : Qm t ((m.1.1, 0, r + 1), m.2) τ2 := ⟨g1, ⟨tb_fr T1 F2 rfl, by show 0 ≤ 64; omega, fun i hi => absurd hi (Nat.not_lt_zero i)⟩, Q3_fr h3 FF rfl rfl, q4', g5, g6⟩
          obtain ⟨K, Q⟩ := p_go (p := m.2.1.2.2.2 r) ht qm
          refine h _ ((Kp.of FF hs2 ht).tr K) ?_
          unfold mLeave
          rw [e]
          unfold fnd
          rw [if_pos hl]
          exact Q
        · refine br_f hl (br_t rfl ?_)
          rw [show nI r + (-1) = nI r - 1 by rw [Int32.sub_eq_add_neg]]
          refine ih f (by omega) (by omega) ?_
          rw [e, fnd, if_neg hl]
  have := h4.2.1
  exact key m.1.2.2 FUEL (Nat.le_refl _) (FUEL_le (by omega)) rfl
theorem pf_1 {x y n : Int32} {e : Nat} {m : MS} : pf (1, x, y, n) e m = mPush m x := rfl
theorem pf_2 {x y n : Int32} {e : Nat} {m : MS} : pf (2, x, y, n) e m = mPush m (m.2.1.2.1 (tN y)) := rfl
theorem pf_3 {x y n : Int32} {e : Nat} {m : MS} : pf (3, x, y, n) e m = (if inA (mTop m) = true then mPush (mPop m) (m.2.1.2.1 (4 + tN (mTop m))) else mTrap m (m.1.2.1 - 1) 2 n) := rfl
theorem pf_19 {x y n : Int32} {e : Nat} {m : MS} : pf (19, x, y, n) e m = mMem (mPop m) (tN y) (mTop m) := rfl
theorem pf_20 {x y n : Int32} {e : Nat} {m : MS} : pf (20, x, y, n) e m = (if inA (mTop (mPop m)) = true then mMem (mPop (mPop m)) (4 + tN (mTop (mPop m))) (mTop m) else mTrap m (m.1.2.1 - 1 - 1) 2 n) := rfl
theorem pf_21 {x y n : Int32} {e : Nat} {m : MS} : pf (21, x, y, n) e m = (if mTop m = 0 then mGo (mPop m) (tN x) else mPop m) := rfl
theorem pf_22 {x y n : Int32} {e : Nat} {m : MS} : pf (22, x, y, n) e m = mGo m (tN x) := rfl
theorem pf_23 {x y n : Int32} {e : Nat} {m : MS} : pf (23, x, y, n) e m = mOpen m x e := rfl
theorem pf_24 {x y n : Int32} {e : Nat} {m : MS} : pf (24, x, y, n) e m = mShut m := rfl
theorem pf_25 {x y n : Int32} {e : Nat} {m : MS} : pf (25, x, y, n) e m = mLeave m y n := rfl
theorem pf_26 {x y n : Int32} {e : Nat} {m : MS} : pf (26, x, y, n) e m = mPrint (mPop m) (mTop m) n := rfl
theorem pf_15 {x y n : Int32} {e : Nat} {m : MS} : pf (15, x, y, n) e m = mBack m := rfl
theorem pf_r {κ : Nat} {x y n : Int32} {e : Nat} {m : MS} (h3 : 3 ≤ κ) (h7 : κ ≤ 7) : pf (nI (κ + 1), x, y, n) e m = (if κ = 6 ∧ mTop m = 0 then mTrap m (m.1.2.1 - 1 - 1) 1 n else mPush (mPop (mPop m)) (rk κ (mTop (mPop m)) (mTop m))) := by
  rcases (show κ = 3 ∨ κ = 4 ∨ κ = 5 ∨ κ = 6 ∨ κ = 7 by omega) with rfl | rfl | rfl | rfl | rfl
  · rfl
  · rfl
  · rfl
  · by_cases hz : mTop m = 0
    · rw [if_pos ⟨rfl, hz⟩]
      exact if_pos (c := (nI (6 + 1) = 7 ∧ mTop m = 0)) ⟨rfl, hz⟩
    · rw [if_neg (fun q => hz q.2)]
      exact if_neg (c := (nI (6 + 1) = 7 ∧ mTop m = 0)) (fun q => hz q.2)
  · rfl
theorem perform_ok {m : MS} {o x y : Int32} (ht : 80 ≤ t) (hC : CX T c N top t cl σ) (hQ : Qm t m σ) (ha : a < ln T false top) (h12 : 12 ≤ kd T top) (hk : k ≤ top) (eI : Ic T c top a = (o, x, y, nI k)) (hT : TY T c top a k o x y)
    (ho : (m.1.2.1 : Int) = dS T c top a) (hl : (m.1.2.2 : Int) = lS T c top a) (hm2 : m.2.1.2.1 2 = 4) (hn : m.2.2.1.2.1 < 2 ^ 30)
    (h : ∀ τ, Kp t σ τ → Qm t (pf (o, x, y, nI k) (eT T false top k) m) τ → Ψ τ) : wp_X3_perform t σ (nI a) o Ψ := by
  have hN := hC.1.1.2.1
  have htN := hC.1.2.2.2.1
  have tr := hC.1.tr
  have L := L_le (fl := false) tr
  have bd := dbd (c := c) tr h12 (a := a) (by omega)
  obtain ⟨e55, e56, e57, e58⟩ := Ick tr hC.2.1 (show a < ln T false top + 2 by omega) eI
  have hin := q_in (show a < 460 by omega) (show 460 < 2 ^ 31 by omega)
  have h58 : ∀ τ, Kp t σ τ → τ.1 58 a = nI k := fun τ K => by rw [K.1.1 58 (SP_f (by omega))]; exact e58
  have h21 : ∀ τ, Kp t σ τ → τ.1 21 k = 0 := fun τ K => by rw [K.1.1 21 (SP_f (by omega)), (hC.1.2.2.1.1 k (by omega)).1, iT_k hk]; rfl
  unfold wp_X3_perform
  refine ⟨hin, nm_e ?_⟩
  rw [q_I (k := 56) (by omega), e56]
  rcases hT with e | ⟨e, ex, hy⟩ | ⟨e, ex, ey, en, en2, hd⟩ | ⟨⟨κ, h3, h7, e⟩, hd⟩ | ⟨e, ex, hy, hd⟩ | ⟨e, ex, ey, hd⟩ | ⟨e, hd, p, ep, hp, -, -⟩ | ⟨e, p, ep, hp, -, -⟩ | ⟨e, hd, hs, hs1, -, -⟩ | ⟨e, hd⟩ | ⟨e, ex, hd⟩ | ⟨e, hd⟩
  · rw [e]; rw [e, pf_1] at h
    exact br_t rfl (p_push ht hQ (by omega) h)
  · obtain ⟨v, ev, v8, v2, vt⟩ := isC_v hy
    rw [e]; rw [e, pf_2, vt] at h
    rw [ex] at e56
    rw [ev] at e57
    have e24 : σ.1 24 k = 6 := (nameOf hC.1 hk hy.1).1.trans hy.2.1
    exact br_f (by decide) (br_t rfl (cellOf_ok hC (by omega) e56 e57 (p_get ht (by omega) (by omega) e58 e24 hQ (by omega) v8 v2 h)))
  · rw [e]; rw [e, pf_3] at h
    rw [ex] at e56
    rw [ey] at e57
    exact br_f (by decide) (br_f (by decide) (br_t rfl (cellOf_ok hC (by omega) e56 e57 (p_pick ht hQ (by omega) (by omega) h58 h21 (by omega) (by omega) hm2 h))))
  · rw [e, pf_r h3 h7] at h
    rw [e]
    have R : wp_X3_reckon t σ (nI a) (nI (κ + 1)) Ψ := p_reckon (n := 0) ht hQ (by omega) (by omega) hC h58 h21 h3 h7 (by omega) (by omega) h
    rcases (show κ = 3 ∨ κ = 4 ∨ κ = 5 ∨ κ = 6 ∨ κ = 7 by omega) with rfl | rfl | rfl | rfl | rfl
    · exact br_f (by decide) (br_f (by decide) (br_f (by decide) (br_t rfl (R))))
    · exact br_f (by decide) (br_f (by decide) (br_f (by decide) (br_f (by decide) (br_t rfl (R)))))
    · exact br_f (by decide) (br_f (by decide) (br_f (by decide) (br_f (by decide) (br_f (by decide) (br_t rfl (R))))))
    · exact br_f (by decide) (br_f (by decide) (br_f (by decide) (br_f (by decide) (br_f (by decide) (br_f (by decide) (br_t rfl (R)))))))
    · exact br_f (by decide) (br_f (by decide) (br_f (by decide) (br_f (by decide) (br_f (by decide) (br_f (by decide) (br_f (by decide) (br_t rfl (R))))))))
  · obtain ⟨v, ev, v8, v2, vt⟩ := isC_v hy
    rw [e]; rw [e, pf_19, vt] at h
    rw [ex] at e56
    rw [ev] at e57
    have e24 : σ.1 24 k = 6 := (nameOf hC.1 hk hy.1).1.trans hy.2.1
    exact br_f (by decide) (br_f (by decide) (br_f (by decide) (br_f (by decide) (br_f (by decide) (br_f (by decide) (br_f (by decide) (br_f (by decide) (br_f (by decide) (br_f (by decide) (br_f (by decide) (br_f (by decide) (br_f (by decide) (br_f (by decide) (br_f (by decide) (br_f (by decide) (br_f (by decide) (br_f (by decide) (br_t rfl (cellOf_ok hC (by omega) e56 e57 (p_put ht hQ (by omega) (by omega) e58 e24 (by omega) v8 v2 h))))))))))))))))))))
  · rw [e]; rw [e, pf_20] at h
    rw [ex] at e56
    rw [ey] at e57
    exact br_f (by decide) (br_f (by decide) (br_f (by decide) (br_f (by decide) (br_f (by decide) (br_f (by decide) (br_f (by decide) (br_f (by decide) (br_f (by decide) (br_f (by decide) (br_f (by decide) (br_f (by decide) (br_f (by decide) (br_f (by decide) (br_f (by decide) (br_f (by decide) (br_f (by decide) (br_f (by decide) (br_f (by decide) (br_t rfl (cellOf_ok hC (by omega) e56 e57 (p_stow ht hQ (by omega) (by omega) h58 h21 (by omega) hm2 h)))))))))))))))))))))
  · rw [e]; rw [e, pf_21, ep, show tN (nI p) = p from nI_clamp (by omega)] at h
    rw [ep]
    refine br_f (by decide) (br_f (by decide) (br_f (by decide) (br_f (by decide) (br_f (by decide) (br_f (by decide) (br_f (by decide) (br_f (by decide) (br_f (by decide) (br_f (by decide) (br_f (by decide) (br_f (by decide) (br_f (by decide) (br_f (by decide) (br_f (by decide) (br_f (by decide) (br_f (by decide) (br_f (by decide) (br_f (by decide) (br_f (by decide) (br_t rfl (p_pop ht hQ (by omega) (fun τ K Q => ?_))))))))))))))))))))))
    have hC' := hC.kp ht K
    by_cases hz : mTop m = 0
    · rw [if_pos hz] at h
      obtain ⟨K2, Q2⟩ := p_go (p := p) ht Q
      exact br_t hz (skip_1 hC' (h _ (K.tr K2) Q2))
    · rw [if_neg hz] at h
      exact br_f hz (skip_0 hC' (h _ K Q))
  · rw [e]; rw [e, pf_22, ep, show tN (nI p) = p from nI_clamp (by omega)] at h
    rw [ep]
    obtain ⟨K2, Q2⟩ := p_go (p := p) ht hQ
    exact br_f (by decide) (br_f (by decide) (br_f (by decide) (br_f (by decide) (br_f (by decide) (br_f (by decide) (br_f (by decide) (br_f (by decide) (br_f (by decide) (br_f (by decide) (br_f (by decide) (br_f (by decide) (br_f (by decide) (br_f (by decide) (br_f (by decide) (br_f (by decide) (br_f (by decide) (br_f (by decide) (br_f (by decide) (br_f (by decide) (br_f (by decide) (br_t rfl (skip_1 hC (h _ K2 Q2)))))))))))))))))))))))
  · rw [e]; rw [e, pf_23] at h
    exact br_f (by decide) (br_f (by decide) (br_f (by decide) (br_f (by decide) (br_f (by decide) (br_f (by decide) (br_f (by decide) (br_f (by decide) (br_f (by decide) (br_f (by decide) (br_f (by decide) (br_f (by decide) (br_f (by decide) (br_f (by decide) (br_f (by decide) (br_f (by decide) (br_f (by decide) (br_f (by decide) (br_f (by decide) (br_f (by decide) (br_f (by decide) (br_f (by decide) (br_t rfl (p_open ht hQ hC (by omega) hk e58 e56 (by omega) (by omega) hs1 h)))))))))))))))))))))))
  · rw [e]; rw [e, pf_24] at h
    exact br_f (by decide) (br_f (by decide) (br_f (by decide) (br_f (by decide) (br_f (by decide) (br_f (by decide) (br_f (by decide) (br_f (by decide) (br_f (by decide) (br_f (by decide) (br_f (by decide) (br_f (by decide) (br_f (by decide) (br_f (by decide) (br_f (by decide) (br_f (by decide) (br_f (by decide) (br_f (by decide) (br_f (by decide) (br_f (by decide) (br_f (by decide) (br_f (by decide) (br_f (by decide) (br_t rfl (p_shut ht hQ (by omega) h))))))))))))))))))))))))
  · rw [e]; rw [e, pf_25] at h
    rw [ex] at e56
    exact br_f (by decide) (br_f (by decide) (br_f (by decide) (br_f (by decide) (br_f (by decide) (br_f (by decide) (br_f (by decide) (br_f (by decide) (br_f (by decide) (br_f (by decide) (br_f (by decide) (br_f (by decide) (br_f (by decide) (br_f (by decide) (br_f (by decide) (br_f (by decide) (br_f (by decide) (br_f (by decide) (br_f (by decide) (br_f (by decide) (br_f (by decide) (br_f (by decide) (br_f (by decide) (br_f (by decide) (br_t rfl (p_leave ht hQ hC (by omega) hk e56 e57 e58 h)))))))))))))))))))))))))
  · rw [e]; rw [e, pf_26] at h
    refine br_f (by decide) (br_f (by decide) (br_f (by decide) (br_f (by decide) (br_f (by decide) (br_f (by decide) (br_f (by decide) (br_f (by decide) (br_f (by decide) (br_f (by decide) (br_f (by decide) (br_f (by decide) (br_f (by decide) (br_f (by decide) (br_f (by decide) (br_f (by decide) (br_f (by decide) (br_f (by decide) (br_f (by decide) (br_f (by decide) (br_f (by decide) (br_f (by decide) (br_f (by decide) (br_f (by decide) (br_f (by decide) (br_t rfl (p_pop ht hQ (by omega) (fun τ K Q => ⟨hin, ?_⟩)))))))))))))))))))))))))))
    rw [q_I (by omega), h58 τ K]
    exact p_print ht Q (by show m.2.2.1.2.1 < 2 ^ 30; exact hn) (fun τ2 K2 Q2 => h τ2 (K.tr K2) Q2)
end PS
