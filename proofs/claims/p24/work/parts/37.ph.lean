section PH
variable {T : TT} {N top : Nat} {σ τ : FS} {k b : Nat} {Φ : Int32 → FS → Prop} {Ψ : FS → Prop} {c : Int32} {inn lp : Nat → Bool} {fl : Bool}
theorem g0 {k : Nat} : g σ k 0 = σ.1 k 0 := by rw [i0, q_I (by omega)]
theorem a0 {k : Nat} {v : Int32} : sA σ k 0 v = sF σ k 0 v := by rw [i0, q_A (by omega)]
/-- one instruction is laid -/
def pt (b : Nat) (σ : FS) (a : Nat) (o x y n : Int32) : FS := sF (sF (sF (sF σ (b + 3) a o) (b + 4) a x) (b + 5) a y) (b + 6) a n
abbrev QQ := Int32 × Int32 × Int32 × Int32
def Aq (b : Nat) (σ : FS) (a : Nat) : QQ := (σ.1 (b + 3) a, σ.1 (b + 4) a, σ.1 (b + 5) a, σ.1 (b + 6) a)
theorem Aq_pt {a j : Nat} {o x y n : Int32} : Aq b (pt b σ a o x y n) j = if j = a then (o, x, y, n) else Aq b σ j := by
  unfold Aq pt
  rw [q_n (show b + 3 ≠ b + 6 by omega), q_n (show b + 3 ≠ b + 5 by omega), q_n (show b + 3 ≠ b + 4 by omega), q_n (show b + 4 ≠ b + 6 by omega), q_n (show b + 4 ≠ b + 5 by omega), q_n (show b + 5 ≠ b + 6 by omega), q_e, q_e, q_e, q_e, q_n (show b + 4 ≠ b + 3 by omega), q_n (show b + 5 ≠ b + 4 by omega), q_n (show b + 5 ≠ b + 3 by omega), q_n (show b + 6 ≠ b + 5 by omega), q_n (show b + 6 ≠ b + 4 by omega), q_n (show b + 6 ≠ b + 3 by omega)]
  by_cases h : j = a
  · rw [if_pos h, if_pos h, if_pos h, if_pos h, if_pos h]
  · rw [if_neg h, if_neg h, if_neg h, if_neg h, if_neg h]
def S36 (b a : Nat) : Bool := decide (b + 3 ≤ a ∧ a ≤ b + 6)
theorem S36_f {b a : Nat} (h : ¬ (b + 3 ≤ a ∧ a ≤ b + 6)) : S36 b a = false := decide_eq_false h
theorem S36_t {b a : Nat} (h : b + 3 ≤ a ∧ a ≤ b + 6) : S36 b a = true := decide_eq_true h
theorem pt_fr {a : Nat} {o x y n : Int32} : Fr (S36 b) σ (pt b σ a o x y n) := (((Fr.rf.put (S36_t (by omega))).put (S36_t (by omega))).put (S36_t (by omega))).put (S36_t (by omega))
theorem put_ok {a : Nat} {o x y n : Int32} (ha : a < 460) (h : Ψ (pt b σ a o x y n)) : wp_X0_put b σ (nI a) o x y n Ψ := by
  have hin := q_in ha (show 460 < 2 ^ 31 by omega)
  unfold wp_X0_put
  refine br_f (nI_pos (by omega)) (br_f (nI_ge (b := 460) ha (by omega)) ⟨hin, nm_e ⟨hin, nm_e ⟨hin, nm_e ⟨hin, nm_e ?_⟩⟩⟩⟩)
  rw [q_A (by omega), q_A (by omega), q_A (by omega), q_A (by omega)]
  exact h
theorem clear_ok {e : Nat} (he : e ≤ 460) (h : ∀ τ, Fr (fun a => a == b + 7 || a == b + 8) σ τ → (∀ j, j < e → τ.1 (b + 7) j = -1 ∧ τ.1 (b + 8) j = 0) → Ψ τ) : wp_X0_clear b σ 0 (nI e) Ψ := by
  have fT : ∀ a, a = b + 7 ∨ a = b + 8 → (a == b + 7 || a == b + 8) = true := fun a p => by rcases p with p | p <;> rw [p] <;> simp
  unfold wp_X0_clear
  have := walk (P := fun i τ => Fr (fun a => a == b + 7 || a == b + 8) σ τ ∧ (∀ j, j < i → τ.1 (b + 7) j = -1 ∧ τ.1 (b + 8) j = 0)) (W := fun f τ i => wp_X0_clear_2 b 0 (nI e) Ψ (fun (σ3 : FS) (_ : Int32) => Ψ σ3) f τ i) (N := e) (by omega) ?_ ?_ e 0 FUEL σ (by omega) (FUEL_le (by omega)) ⟨Fr.rf, fun k hk => absurd hk (by omega)⟩
  · rw [i0]; exact this
  · intro i f τ hi ⟨hF, hk⟩ go
    have hin := q_in (show i < 460 by omega) (show 460 < 2 ^ 31 by omega)
    unfold wp_X0_clear_2
    refine br_f (nI_ge hi (by omega)) (br_f (nI_ge (b := 460) (by omega) (by omega)) ⟨hin, nm_e ⟨hin, nm_e ?_⟩⟩)
    rw [q_A (by omega), q_A (by omega), ← nI_succ]
    refine go _ ⟨(hF.put (fT _ (Or.inl rfl))).put (fT _ (Or.inr rfl)), fun j hj => ?_⟩
    by_cases hji : j = i
    · rw [hji]; exact ⟨by rw [q_n (by omega), q_s], by rw [q_s]⟩
    · obtain ⟨p, q⟩ := hk j (by omega)
      exact ⟨by rw [q_n (by omega), q_o hji]; exact p, by rw [q_o hji, q_n (by omega)]; exact q⟩
  · intro f τ ⟨hF, hk⟩
    show wp_X0_clear_2 b 0 (nI e) Ψ _ (f + 1) τ (nI e)
    unfold wp_X0_clear_2
    exact br_t (nI_le (Nat.le_refl e) (by omega)) (h τ hF hk)
/-- what stands behind the body -/
def tailQ (L : Nat) (at_ : Nat) : Option QQ := if at_ = L + 1 then some (15, 0, 0, -1) else if at_ = L then some (1, 0, 0, -1) else none
def S19 (b a : Nat) : Bool := decide (a = b + 1 ∨ a = b + 2 ∨ (b + 3 ≤ a ∧ a ≤ b + 9) ∨ a = b)
theorem S19_f {b a : Nat} (h : ¬ (a = b + 1 ∨ a = b + 2 ∨ (b + 3 ≤ a ∧ a ≤ b + 9) ∨ a = b)) : S19 b a = false := decide_eq_false h
theorem S19_t {b a : Nat} (h : a = b + 1 ∨ a = b + 2 ∨ (b + 3 ≤ a ∧ a ≤ b + 9) ∨ a = b) : S19 b a = true := decide_eq_true h
theorem placeProcedures_ok {L : Nat} (hb : 39 ≤ b) (hO : Ok T c N top σ) (hL : L ≤ 440) (hl : σ.1 (b + 10) top = nI L)
    (h : ∀ τ, Fr (S19 b) σ τ → τ.1 b 3 = σ.1 b 3 → τ.1 b 4 = nI (L + 2) → τ.1 (b + 1) 0 = 0 → τ.1 (b + 2) 0 = nI (L + 2) → τ.1 (b + 9) top = 0 →
      (∀ j, j < L + 2 → τ.1 (b + 7) j = -1 ∧ τ.1 (b + 8) j = 0) → (∀ j q, tailQ L j = some q → Aq b τ j = q) → Ψ τ) : wp_X0_placeProcedures b σ Ψ := by
  have hN := hO.1.2.1
  have htN := hO.2.2.2.1
  unfold wp_X0_placeProcedures
  refine nm_e ?_
  rw [show FUEL = 1999998 + 1 + 1 from rfl]
  unfold wp_X0_placeProcedures_7
  rw [q_n (by omega), hO.2.1.1.1]
  refine br_f (by decide) ⟨z10, nm_e ?_⟩
  rw [g0, q_n (by omega), hO.2.2.2.2.2.1]
  refine lengthOfPart_ok (o := some top) (f := fun _ => L) (fun p e => by cases e; exact ⟨by omega, by rw [q_n (by omega)]; exact hl⟩) ⟨z10, nm_e ⟨z10, nm_e ?_⟩⟩
  refine br_f (q_m1 (by omega)) ⟨q_in (by omega) (by omega), nm_e ⟨z10, nm_e ⟨z10, ?_⟩⟩⟩
  simp only [a0, g0]
  rw [q_A (by omega)]
  rw [show (sF σ b 4 0).1 b 4 = 0 from q_s]
  have e4 : ∀ v w, (sF (sF (sF σ b 4 0) (b + 1) 0 v) (b + 2) 0 w).1 b 4 = 0 := fun v w => by rw [q_n (by omega), q_n (by omega), q_s]
  rw [e4, show nI (oF (some top) 0 fun _ => L) + 2 = nI (L + 2) from nI_add L 2]
  have e4' : (sF (sF (sF (sF σ b 4 0) (b + 1) 0 0) (b + 2) 0 (nI (L + 2))) (b + 9) top 0).1 b 4 = 0 := by rw [q_n (by omega)]; exact e4 _ _
  have e2' : (sF (sF (sF (sF σ b 4 0) (b + 1) 0 0) (b + 2) 0 (nI (L + 2))) (b + 9) top 0).1 (b + 2) 0 = nI (L + 2) := by rw [q_n (by omega), q_s]
  rw [e4', e2', Int32.zero_add]
  rw [show (sF (sF (sF (sF (sF σ b 4 0) (b + 1) 0 0) (b + 2) 0 (nI (L + 2))) (b + 9) top 0) b 4 (nI (L + 2))).1 b 4 = nI (L + 2) from q_s,
    show (sF (sF (sF (sF (sF σ b 4 0) (b + 1) 0 0) (b + 2) 0 (nI (L + 2))) (b + 9) top 0) b 4 (nI (L + 2))).1 (b + 1) 0 = 0 by rw [q_n (by omega), q_n (by omega), q_n (by omega), q_s]]
  have F0 : Fr (S19 b) σ (sF (sF (sF (sF (sF σ b 4 0) (b + 1) 0 0) (b + 2) 0 (nI (L + 2))) (b + 9) top 0) b 4 (nI (L + 2))) := ((((Fr.rf.put (S19_t (by omega))).put (S19_t (by omega))).put (S19_t (by omega))).put (S19_t (by omega))).put (S19_t (by omega))
  refine clear_ok (by omega) (fun τ F1 hc => ?_)
  have x : ∀ a, a ≠ b + 7 → a ≠ b + 8 → τ.1 a = (sF (sF (sF (sF (sF σ b 4 0) (b + 1) 0 0) (b + 2) 0 (nI (L + 2))) (b + 9) top 0) b 4 (nI (L + 2))).1 a := fun a p q => F1.1 a (by show (a == b + 7 || a == b + 8) = false; rw [beq_false_of_ne p, beq_false_of_ne q]; rfl)
  have t4 : τ.1 b 4 = nI (L + 2) := by rw [x b (by omega) (by omega), q_s]
  rw [t4, show nI (L + 2) - 2 = nI L from nI_sub (a := L + 2) (b := 2) (by omega)]
  refine put_ok (by omega) ?_
  have p4 : ∀ a o x y n, (pt b τ a o x y n).1 b = τ.1 b := fun a o x y n => pt_fr.1 b (S36_f (by omega))
  rw [p4, t4, nI_m1 (by omega), show L + 2 - 1 = L + 1 from rfl]
  refine put_ok (by omega) ?_
  unfold wp_X0_placeProcedures_7
  have fr2 : ∀ a, ¬ (b + 3 ≤ a ∧ a ≤ b + 6) → (pt b (pt b τ L 1 0 0 (-1)) (L + 1) 15 0 0 (-1)).1 a = τ.1 a := fun a ha => by rw [pt_fr.1 a (S36_f ha), pt_fr.1 a (S36_f ha)]
  rw [fr2 1 (by omega), x 1 (by omega) (by omega), F0.1 1 (S19_f (by omega)), hO.2.1.1.1]
  refine br_t (by decide) (h _ ?_ ?_ ?_ ?_ ?_ ?_ (fun j hj => ?_) (fun j q hq => ?_))
  · refine F0.tr ((F1.mono (fun a ha => ?_)).tr ((pt_fr.tr pt_fr).mono (fun a ha => ?_)))
    · have := of_decide_eq_false ha
      show (a == b + 7 || a == b + 8) = false
      rw [beq_false_of_ne (by omega), beq_false_of_ne (by omega)]; rfl
    · have := of_decide_eq_false ha
      exact S36_f (by omega)
  · rw [fr2 b (by omega), x b (by omega) (by omega), q_o (by omega), q_n (by omega), q_n (by omega), q_n (by omega), q_o (by omega)]
  · rw [fr2 b (by omega)]; exact t4
  · rw [fr2 _ (by omega), x _ (by omega) (by omega), q_n (by omega), q_n (by omega), q_n (by omega), q_s]
  · rw [fr2 _ (by omega), x _ (by omega) (by omega), q_n (by omega), q_n (by omega), q_s]
  · rw [fr2 _ (by omega), x _ (by omega) (by omega), q_n (by omega), q_s]
  · rw [fr2 _ (by omega), fr2 _ (by omega)]; exact hc j hj
  · unfold tailQ at hq
    rw [Aq_pt]
    by_cases h1 : j = L + 1
    · rw [if_pos h1] at hq; rw [if_pos h1]; cases hq; rfl
    · rw [if_neg h1] at hq; rw [if_neg h1, Aq_pt]
      by_cases h2 : j = L
      · rw [if_pos h2] at hq; rw [if_pos h2]; cases hq; rfl
      · rw [if_neg h2] at hq; cases hq
/-- a part is placed, or swallowed -/
def pl (b : Nat) (σ : FS) (o : Option Nat) (v : Int32) : FS := oF o σ (fun p => sF σ (b + 9) p v)
def sl (b : Nat) (σ : FS) (o : Option Nat) (v : Int32) : FS := oF o σ (fun p => sF (sF σ (b + 9) p v) (b + 12) p 1)
def S92 (b a : Nat) : Bool := decide (a = b + 9 ∨ a = b + 12)
theorem S92_f {b a : Nat} (h : ¬ (a = b + 9 ∨ a = b + 12)) : S92 b a = false := decide_eq_false h
theorem S92_t {b a : Nat} (h : a = b + 9 ∨ a = b + 12) : S92 b a = true := decide_eq_true h
theorem pl_fr {o : Option Nat} {v : Int32} : Fr (S92 b) σ (pl b σ o v) := by
  cases o with
  | none => exact Fr.rf
  | some p => exact Fr.rf.put (S92_t (by omega))
theorem sl_fr {o : Option Nat} {v : Int32} : Fr (S92 b) σ (sl b σ o v) := by
  cases o with
  | none => exact Fr.rf
  | some p => exact (Fr.rf.put (S92_t (by omega))).put (S92_t (by omega))
theorem pl_9 {o : Option Nat} {v : Int32} {j : Nat} : (pl b σ o v).1 (b + 9) j = if o = some j then v else σ.1 (b + 9) j := by
  cases o with
  | none => rw [if_neg (fun e => by cases e)]; rfl
  | some p =>
    show (sF σ (b + 9) p v).1 (b + 9) j = _
    rw [q_e]
    by_cases h : j = p
    · rw [if_pos h, if_pos (by rw [h])]
    · rw [if_neg h, if_neg (fun e => h (by cases e; rfl))]
theorem pl_12 {o : Option Nat} {v : Int32} : (pl b σ o v).1 (b + 12) = σ.1 (b + 12) := by
  cases o with
  | none => rfl
  | some p => exact q_n (by omega)
theorem sl_9 {o : Option Nat} {v : Int32} {j : Nat} : (sl b σ o v).1 (b + 9) j = if o = some j then v else σ.1 (b + 9) j := by
  cases o with
  | none => rw [if_neg (fun e => by cases e)]; rfl
  | some p =>
    show (sF (sF σ (b + 9) p v) (b + 12) p 1).1 (b + 9) j = _
    rw [q_n (by omega), q_e]
    by_cases h : j = p
    · rw [if_pos h, if_pos (by rw [h])]
    · rw [if_neg h, if_neg (fun e => h (by cases e; rfl))]
theorem sl_12 {o : Option Nat} {v : Int32} {j : Nat} : (sl b σ o v).1 (b + 12) j = if o = some j then 1 else σ.1 (b + 12) j := by
  cases o with
  | none => rw [if_neg (fun e => by cases e)]; rfl
  | some p =>
    show (sF (sF σ (b + 9) p v) (b + 12) p 1).1 (b + 12) j = _
    rw [q_e, q_n (show b + 12 ≠ b + 9 by omega)]
    by_cases h : j = p
    · rw [if_pos h, if_pos (by rw [h])]
    · rw [if_neg h, if_neg (fun e => h (by cases e; rfl))]
theorem place_ok {o : Option Nat} {v : Int32} (ho : ∀ p, o = some p → p < 110) (h : Ψ (pl b σ o v)) : wp_X0_place b σ (oI o) v Ψ := by
  unfold wp_X0_place
  cases o with
  | none => exact br_t rfl h
  | some p =>
    have := ho p rfl
    refine br_f (q_m1 (by omega)) ⟨q_in this (by omega), nm_e ?_⟩
    rw [show oI (some p) = nI p from rfl, q_A (by omega)]
    exact h
theorem swallow_ok {o : Option Nat} {v : Int32} (ho : ∀ p, o = some p → p < 110) (h : Ψ (sl b σ o v)) : wp_X0_swallow b σ (oI o) v Ψ := by
  unfold wp_X0_swallow
  cases o with
  | none => exact br_t rfl h
  | some p =>
    have := ho p rfl
    refine br_f (q_m1 (by omega)) ⟨q_in this (by omega), nm_e ⟨q_in this (by omega), nm_e ?_⟩⟩
    rw [show oI (some p) = nI p from rfl, q_A (by omega), q_A (by omega)]
    exact h
theorem mt_92 (hb : 39 ≤ b) (hF : Fr (S92 b) σ τ) (h : mt T σ k) : mt T τ k := mt_fr hF (S92_f (by omega)) (S92_f (by omega)) (S92_f (by omega)) (S92_f (by omega)) h
/-- the parts of a node that is not swallowed -/
theorem pp_ok {f : Nat → Nat} {s a e : Nat} {v : Int32} (hb : 39 ≤ b) (hk : k < 110) (hm : mt T σ k) (hw : WF T k) (hl : ∀ p, part T k p → p < 110 ∧ σ.1 (b + 10) p = nI (f p))
    (hv : v = nI (s + a + oF (pB T k) 0 f + e)) (h : Ψ (pl b (pl b (pl b σ (pB T k) (nI (s + a))) (pC T k) (nI (s + a + oF (pB T k) 0 f + e))) (pA T k) (nI (s + a + oF (pB T k) 0 f + e + oF (pC T k) 0 f + 1)))) :
    wp_X5_partC σ (nI k) (fun (x73 : Int32) (σ72 : FS) => wp_X0_place b σ72 (oI (pB T k)) (nI s + nI a) (fun (σ74 : FS) => wp_X0_place b σ74 x73 v (fun (σ75 : FS) => wp_X5_partA σ75 (nI k) (fun (x77 : Int32) (σ76 : FS) => wp_X0_lengthOfPart b σ76 x73 (fun (x79 : Int32) (σ78 : FS) => wp_X0_place b σ78 x77 ((v + x79) + 1) (fun (σ80 : FS) => Ψ σ80)))))) := by
  refine partC_ok hk hm hw (place_ok (fun p hp => (hl p (Or.inl hp)).1) (place_ok (fun p hp => (hl p (Or.inr (Or.inl hp))).1) ?_))
  have F : Fr (S92 b) σ (pl b (pl b σ (pB T k) (nI s + nI a)) (pC T k) v) := pl_fr.tr pl_fr
  refine partA_ok hk (mt_92 hb F hm) hw (lengthOfPart_ok (f := f) (fun p hp => ⟨(hl p (Or.inr (Or.inl hp))).1, ?_⟩) (place_ok (fun p hp => (hl p (Or.inr (Or.inr hp))).1) ?_))
  · rw [F.1 _ (S92_f (by omega))]; exact (hl p (Or.inr (Or.inl hp))).2
  · rw [hv, nI_add, nI_add, nI_1]; exact h
end PH
