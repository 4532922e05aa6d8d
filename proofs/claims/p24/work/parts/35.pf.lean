section PF
variable {T : TT} {N top : Nat} {σ τ : FS} {k b : Nat} {Φ : Int32 → FS → Prop} {Ψ : FS → Prop} {c : Int32} {inn lp : Nat → Bool} {fl : Bool}
/-- how many instructions are its own -/
def own (T : TT) (k : Nat) : Nat := if kd T k = 12 then 0 else if kd T k = 15 then (if (pA T k).isSome then 2 else 1) else if kd T k = 16 then 4 else 1
def pu (T : TT) (fl : Bool) (k : Nat) : Bool := fl && (fw T k).1
def lnF (T : TT) (fl : Bool) (r : Nat → Nat) (k : Nat) : Nat := if pu T fl k then 1 else oF (pA T k) 0 r + oF (pB T k) 0 r + oF (pC T k) 0 r + own T k
def ln (T : TT) (fl : Bool) : Nat → Nat := ru 0 (lnF T fl)
theorem ln_eq (h : PL T) (k : Nat) : ln T fl k = lnF T fl (ln T fl) k := by
  refine ru_eq (fun k g g' hg => ?_) k
  unfold lnF
  rw [oF_c (f := g) (f' := g') (fun p hp => hg p (h k p (Or.inr (Or.inr hp)))), oF_c (f := g) (f' := g') (fun p hp => hg p (h k p (Or.inl hp))), oF_c (f := g) (f' := g') (fun p hp => hg p (h k p (Or.inr (Or.inl hp))))]
theorem own_le : own T k ≤ 4 := by
  unfold own
  by_cases h1 : kd T k = 12
  · rw [if_pos h1]; omega
  · rw [if_neg h1]
    by_cases h2 : kd T k = 15
    · rw [if_pos h2]; cases (pA T k).isSome <;> decide
    · rw [if_neg h2]
      by_cases h3 : kd T k = 16
      · rw [if_pos h3]; omega
      · rw [if_neg h3]; omega
theorem oF_le {o : Option Nat} {f : Nat → Nat} {e m : Nat} (h : ∀ p, o = some p → p + 1 = e ∧ lo T p ≤ p ∧ f p ≤ 4 * (p + 1 - lo T p)) (hm : m = oF o e (lo T)) : oF o 0 f ≤ 4 * (e - m) ∧ m ≤ e := by
  cases o with
  | none => rw [hm]; exact ⟨Nat.zero_le _, Nat.le_refl _⟩
  | some p =>
    obtain ⟨h1, h2, h3⟩ := h p rfl
    rw [hm]
    show f p ≤ 4 * (e - lo T p) ∧ lo T p ≤ e
    omega
theorem ln_le (hP : PL T) (hw : ∀ j, j ≤ k → WF T j) : ln T fl k ≤ 4 * (k + 1 - lo T k) := by
  induction k using Nat.strongRecOn with
  | ind k ih =>
    have w := hw k (Nat.le_refl k)
    obtain ⟨-, -, -, -, ⟨wA, wC, wB, wl, wk⟩, -, -⟩ := w
    have q : ∀ p, part T k p → lo T p ≤ p ∧ ln T fl p ≤ 4 * (p + 1 - lo T p) := fun p hp => by
      have := hP k p hp
      exact ⟨(hw p (by omega)).2.2.2.2.1.2.2.2.2, ih p this (fun j hj => hw j (by omega))⟩
    rw [ln_eq hP]
    unfold lnF
    split
    · omega
    · have a := oF_le (T := T) (f := ln T fl) (e := k) (fun p hp => ⟨(wA p hp).1, q p (Or.inr (Or.inr hp))⟩) (show eA T k = _ from rfl)
      have b := oF_le (T := T) (f := ln T fl) (e := eA T k) (fun p hp => ⟨(wC p hp).1, q p (Or.inr (Or.inl hp))⟩) (show eC T k = _ from rfl)
      have d := oF_le (T := T) (f := ln T fl) (e := eC T k) (fun p hp => ⟨(wB p hp).1, q p (Or.inl hp)⟩) (show eB T k = _ from rfl)
      have := own_le (T := T) (k := k)
      omega
/-- what the passes say of folding -/
def fp (pv : Int32) (fl : Bool) : Prop := pv &&& 1 = fB fl
def Sb (b a : Nat) : Bool := decide (b ≤ a ∧ a ≤ b + 12)
theorem Sb_f {b a : Nat} (h : ¬ (b ≤ a ∧ a ≤ b + 12)) : Sb b a = false := decide_eq_false h
theorem Sb_t {b a : Nat} (h : b ≤ a ∧ a ≤ b + 12) : Sb b a = true := decide_eq_true h
/-- the world that a layOut finds: nodes up to top are in MAIN -/
def iT (top : Nat) (k : Nat) : Bool := decide (k ≤ top)
def lT (_ : Nat) : Bool := true
/-- a program without faults -/
def Ok (T : TT) (c : Int32) (N top : Nat) (σ : FS) : Prop := Pg T N σ ∧ Dcl c σ ∧ Mn T c N (iT top) lT σ ∧ top < N ∧ lo T top = 0 ∧ σ.1 7 0 = nI top ∧
  (∀ k p, k < N → part T k p → σ.1 18 p = nI k) ∧ σ.1 18 top = -1
theorem Ok.fr {S : Nat → Bool} (h : Ok T c N top σ) (hF : Fr S σ τ) (hs : ∀ a, 1 ≤ a → a < 34 → S a = false) : Ok T c N top τ := by
  obtain ⟨h1, h2, ⟨m, m2⟩, h4, h5, h6, h7, h8⟩ := h
  have e : ∀ a, 1 ≤ a → a < 34 → τ.1 a = σ.1 a := fun a p q => hF.1 a (hs a p q)
  refine ⟨h1.fr hF (fun k p q => hs k (by omega) (by omega)), ?_, ⟨fun k hk => ?_, ?_⟩, h4, h5, ?_, fun k p hk hp => ?_, ?_⟩
  · unfold Dcl
    rw [e 1 (by omega) (by omega), e 2 (by omega) (by omega), e 3 (by omega) (by omega), e 4 (by omega) (by omega), e 5 (by omega) (by omega), e 6 (by omega) (by omega), e 8 (by omega) (by omega), e 9 (by omega) (by omega), e 10 (by omega) (by omega), e 11 (by omega) (by omega), e 12 (by omega) (by omega)]
    exact h2
  · obtain ⟨x1, x2, x3, x4, x5, x6⟩ := m k hk
    exact ⟨by rw [e 21 (by omega) (by omega)]; exact x1, bz_fr hF (hs _ (by omega) (by omega)) (hs _ (by omega) (by omega)) (hs _ (by omega) (by omega)) (hs _ (by omega) (by omega)) x2, fz_fr hF (hs _ (by omega) (by omega)) (hs _ (by omega) (by omega)) x3, by rw [e 28 (by omega) (by omega)]; exact x4, by rw [e 29 (by omega) (by omega)]; exact x5, by rw [e 30 (by omega) (by omega)]; exact x6⟩
  · rw [e 32 (by omega) (by omega), e 33 (by omega) (by omega), e 20 (by omega) (by omega)]; exact m2
  · rw [e 7 (by omega) (by omega)]; exact h6
  · rw [e 18 (by omega) (by omega)]; exact h7 k p hk hp
  · rw [e 18 (by omega) (by omega)]; exact h8
theorem Ok.frb (h : Ok T c N top σ) (hb : 39 ≤ b) (hF : Fr (Sb b) σ τ) : Ok T c N top τ := h.fr hF (fun a _ h2 => Sb_f (by omega))
theorem isPushed_ok {pv : Int32} (hk : k < 110) (h26 : σ.1 26 k = fB (fw T k).1) (h3 : σ.1 b 3 = pv) (hf : fp pv fl) (h : Φ (fB (pu T fl k)) σ) : wp_X0_isPushed b σ (nI k) Φ := by
  unfold wp_X0_isPushed
  unfold pu at h
  refine ⟨q_in hk (by omega), ?_⟩
  rw [q_I (by omega), h26, h3, hf]
  cases hw : (fw T k).1 with
  | false =>
    rw [hw, Bool.and_false] at h
    exact br_t rfl h
  | true =>
    rw [hw, Bool.and_true] at h
    refine br_f (by decide) ?_
    cases fl with
    | false => exact br_t rfl h
    | true => exact br_f (by decide) h
theorem lengthOfPart_ok {o : Option Nat} {f : Nat → Nat} (ho : ∀ p, o = some p → p < 110 ∧ σ.1 (b + 10) p = nI (f p)) (h : Φ (nI (oF o 0 f)) σ) : wp_X0_lengthOfPart b σ (oI o) Φ := by
  unfold wp_X0_lengthOfPart
  cases o with
  | none => exact br_t rfl h
  | some p =>
    obtain ⟨h1, h2⟩ := ho p rfl
    refine br_f (q_m1 (by omega)) ⟨q_in h1 (by omega), ?_⟩
    rw [show oI (some p) = nI p from rfl, q_I (by omega), h2]
    exact h
theorem ownLength_ok (hk : k < 110) (hm : mt T σ k) (hw : WF T k) (h : Φ (nI (own T k)) σ) : wp_X0_ownLength b σ (nI k) Φ := by
  have hin := q_in hk (show 110 < 2 ^ 31 by omega)
  have no : ∀ v, okK v = false → kd T k ≠ v := fun v hv => okK_ne hw.1 hv
  unfold wp_X0_ownLength
  unfold own at h
  refine ⟨hin, nm_e ?_⟩
  rw [q_I (by omega), hm.1, q_I (by omega), q_I (by omega), hm.2.1]
  refine br_f (kd_ne (v := 9) hw.lt (by omega) (no 9 rfl)) (br_f (kd_ne (v := 10) hw.lt (by omega) (no 10 rfl)) (br_f (kd_ne (v := 11) hw.lt (by omega) (no 11 rfl)) ?_))
  by_cases h12 : kd T k = 12
  · rw [if_pos h12] at h
    exact br_t (by rw [h12]; rfl) h
  rw [if_neg h12] at h
  refine br_f (kd_ne (v := 12) hw.lt (by omega) h12) ?_
  by_cases h15 : kd T k = 15
  · rw [if_pos h15] at h
    refine br_f (kd_ne (v := 13) hw.lt (by omega) (by omega)) (br_f (kd_ne (v := 14) hw.lt (by omega) (by omega)) (br_t (by rw [h15]; rfl) ⟨hin, ?_⟩))
    rw [hw.2.2.2.2.2.2 h15]
    cases e : pA T k with
    | none => rw [e] at h; exact br_t rfl h
    | some p =>
      rw [e] at h
      have := (hw.2.2.2.2.1.1 p e).1
      exact br_f (q_m1 (by omega)) h
  rw [if_neg h15] at h
  by_cases h16 : kd T k = 16
  · rw [if_pos h16] at h
    exact br_f (kd_ne (v := 13) hw.lt (by omega) (by omega)) (br_f (kd_ne (v := 14) hw.lt (by omega) (by omega)) (br_f (kd_ne (v := 15) hw.lt (by omega) h15) (br_t (by rw [h16]; rfl) h)))
  rw [if_neg h16] at h
  have x := br_f (A := wp_X0_isJump b σ (nI k) (fun (x3 : Int32) (σ2 : FS) => ((x3 = 0 → Φ 1 σ2) ∧ (¬ (x3 = 0) → Φ 0 σ2)))) (kd_ne (v := 18) hw.lt (by omega) (no 18 rfl)) h
  have x17 : (nI (kd T k) = 17 → Φ 1 σ) ∧ (¬ (nI (kd T k) = 17) → _) := ⟨fun _ => h, fun _ => x⟩
  have x16 := br_f (A := Φ 4 σ) (kd_ne (v := 16) hw.lt (by omega) h16) x17
  exact ⟨fun _ => h, fun _ => ⟨fun _ => h, fun _ => br_f (kd_ne (v := 15) hw.lt (by omega) h15) x16⟩⟩
theorem layOut16 {pv a1 : Int32} (hb : 39 ≤ b) (hO : Ok T c N top σ) (h3 : σ.1 b 3 = pv) (hf : fp pv fl) {K : FS → Int32 → Prop}
    (h : ∀ τ, Fr (fun a => a == b + 10 || a == b + 12) σ τ → (∀ j, j < N → τ.1 (b + 10) j = nI (ln T fl j) ∧ τ.1 (b + 12) j = 0) → K τ (nI N)) : wp_X0_layOut_16 b a1 Ψ K FUEL σ 0 := by
  have hN := hO.1.2.1
  have fS : ∀ a, a ≠ b + 10 → a ≠ b + 12 → (a == b + 10 || a == b + 12) = false := fun a p q => by rw [beq_false_of_ne p, beq_false_of_ne q]; rfl
  have fT : ∀ a, a = b + 10 ∨ a = b + 12 → (a == b + 10 || a == b + 12) = true := fun a p => by rcases p with p | p <;> rw [p] <;> simp
  have := walk (P := fun i τ => Fr (fun a => a == b + 10 || a == b + 12) σ τ ∧ (∀ j, j < i → τ.1 (b + 10) j = nI (ln T fl j) ∧ τ.1 (b + 12) j = 0)) (W := fun f τ i => wp_X0_layOut_16 b a1 Ψ K f τ i) (N := N) (by omega) ?_ ?_ N 0 FUEL σ (by omega) (FUEL_le (by omega)) ⟨Fr.rf, fun k hk => absurd hk (by omega)⟩
  · rw [i0]; exact this
  · intro i f τ hi ⟨hF, hk⟩ go
    have hPt : Pg T N τ := hO.1.fr hF (fun k h1 h2 => fS k (by omega) (by omega))
    have hm := (hPt.2.2.2 i hi).1
    have hw := (hPt.2.2.2 i hi).2
    have hin := q_in (show i < 110 by omega) (show 110 < 2 ^ 31 by omega)
    have h31 : i < 2 ^ 31 := by omega
    have e := ln_eq (fl := fl) hPt.2.2.1 i
    unfold lnF at e
    unfold wp_X0_layOut_16
    rw [hPt.1]
    refine br_f (nI_ge hi (by omega)) (isPushed_ok (T := T) (fl := fl) (by omega) (by rw [hF.1 26 (fS _ (by omega) (by omega))]; exact (hO.2.2.1.1 i hi).2.2.1.1) (by rw [hF.1 b (fS _ (by omega) (by omega))]; exact h3) hf ?_)
    have fin : ∀ v, v = nI (ln T fl i) → wp_X0_layOut_16 b a1 Ψ K f (sF (sF τ (b + 10) i v) (b + 12) i 0) (nI i + 1) := by
      intro v hv
      rw [← nI_succ]
      refine go _ ⟨(hF.put (fT _ (Or.inl rfl))).put (fT _ (Or.inr rfl)), fun j hj => ?_⟩
      by_cases hji : j = i
      · rw [hji]; exact ⟨by rw [q_n (by omega), q_s, hv], by rw [q_s]⟩
      · obtain ⟨p, q⟩ := hk j (by omega)
        exact ⟨by rw [q_n (by omega), q_o hji]; exact p, by rw [q_o hji, q_n (by omega)]; exact q⟩
    have pt : ∀ o, (∀ p, o = some p → part T i p) → ∀ p, o = some p → p < 110 ∧ τ.1 (b + 10) p = nI (ln T fl p) := fun o ho p hp => by
      have := hPt.2.2.1 i p (ho p hp)
      exact ⟨by omega, (hk p this).1⟩
    cases hp : pu T fl i with
    | true =>
      rw [hp, if_pos rfl] at e
      refine br_f (by decide) ⟨hin, nm_e ⟨hin, nm_e ?_⟩⟩
      rw [q_A h31, q_A h31]
      exact fin _ (by rw [e]; rfl)
    | false =>
      rw [hp, if_neg Bool.false_ne_true] at e
      refine br_t rfl (partA_ok (by omega) hm hw (lengthOfPart_ok (f := ln T fl) (pt _ (fun p q => Or.inr (Or.inr q))) (partB_ok (by omega) hm hw (lengthOfPart_ok (f := ln T fl) (pt _ (fun p q => Or.inl q)) (partC_ok (by omega) hm hw (lengthOfPart_ok (f := ln T fl) (pt _ (fun p q => Or.inr (Or.inl q))) (ownLength_ok (by omega) hm hw ⟨hin, nm_e ⟨hin, nm_e ?_⟩⟩)))))))
      rw [q_A h31, q_A h31]
      exact fin _ (by rw [nI_add, nI_add, nI_add, e])
  · intro f τ ⟨hF, hk⟩
    have hPt : Pg T N τ := hO.1.fr hF (fun k h1 h2 => fS k (by omega) (by omega))
    show wp_X0_layOut_16 b a1 Ψ K (f + 1) τ (nI N)
    unfold wp_X0_layOut_16
    rw [hPt.1]
    exact br_t (nI_le (Nat.le_refl N) (by omega)) (h τ hF hk)
end PF
