section PK
variable {T : TT} {N top : Nat} {σ τ : FS} {k b : Nat} {Φ : Int32 → FS → Prop} {Ψ : FS → Prop} {c : Int32} {inn lp : Nat → Bool} {fl : Bool}
/-- the outermost node of those below m that begins at a; how many begin there; what is written there -/
def fs (T : TT) (fl : Bool) (top : Nat) : Nat → Nat → Option Nat
  | 0, _ => none
  | m + 1, a => if sT T fl top m = a then some m else fs T fl top m a
def cb (T : TT) (fl : Bool) (top m a : Nat) : Nat := ct (fun j => sT T fl top j == a) m
def QA (T : TT) (c : Int32) (fl : Bool) (top : Nat) : Nat → Nat → Option QQ
  | 0, a => tailQ (ln T fl top) a
  | m + 1, a => match wq T c fl top m a with | some q => some q | none => QA T c fl top m a
def nbS (b : Nat) (σ : FS) (k s : Nat) : FS := sF (sF (sF σ (b + 11) k (σ.1 (b + 7) s)) (b + 7) s (nI k)) (b + 8) s (σ.1 (b + 8) s + 1)
theorem noteBegin_ok {s : Nat} (hk : k < 110) (hs : s < 460) (h9 : σ.1 (b + 9) k = nI s) (h : Ψ (nbS b σ k s)) : wp_X0_noteBegin b σ (nI k) Ψ := by
  have hin := q_in hk (show 110 < 2 ^ 31 by omega)
  have hin2 := q_in hs (show 460 < 2 ^ 31 by omega)
  unfold wp_X0_noteBegin
  refine ⟨hin, nm_e ?_⟩
  rw [q_I (k := b + 9) (by omega), h9]
  refine br_f (nI_pos (by omega)) (br_f (nI_ge (b := 460) hs (by omega)) ⟨hin2, hin, nm_e ⟨hin2, nm_e ⟨hin2, hin2, nm_e ?_⟩⟩⟩)
  rw [q_A (by omega), q_A (by omega), q_A (by omega), q_I (by omega), q_I (by omega), q_n (show b + 8 ≠ b + 7 by omega), q_n (show b + 8 ≠ b + 11 by omega)]
  exact h
def Sc (b a : Nat) : Bool := decide ((b + 3 ≤ a ∧ a ≤ b + 8) ∨ a = b + 11)
theorem Sc_f {b a : Nat} (h : ¬ ((b + 3 ≤ a ∧ a ≤ b + 8) ∨ a = b + 11)) : Sc b a = false := decide_eq_false h
theorem Sc_t {b a : Nat} (h : (b + 3 ≤ a ∧ a ≤ b + 8) ∨ a = b + 11) : Sc b a = true := decide_eq_true h
/-- begins and instructions of the nodes below m -/
def LJ (T : TT) (c : Int32) (fl : Bool) (top b m : Nat) (σ τ : FS) : Prop := Fr (Sc b) σ τ ∧ (∀ a, a < ln T fl top + 2 → τ.1 (b + 7) a = oI (fs T fl top m a) ∧ τ.1 (b + 8) a = nI (cb T fl top m a)) ∧
  (∀ j, j < m → τ.1 (b + 11) j = oI (fs T fl top j (sT T fl top j))) ∧ ∀ a q, QA T c fl top m a = some q → Aq b τ a = q
theorem s_lt (tr : TR T top) (hk : k ≤ top) : sT T fl top k < ln T fl top + 2 := by
  have r := rng (fl := fl) tr k hk
  cases hs : (SS T fl top k).2 with
  | true => have : sT T fl top k + 1 ≤ ln T fl top := r.2 hs; omega
  | false => have : sT T fl top k + ln T fl k ≤ ln T fl top := r.1 hs; omega
theorem layOut146 {pv a1 : Int32} (hb : 39 ≤ b) (hW : Wr T c fl N top b σ) (h3 : σ.1 b 3 = pv) (hf : fp pv fl) (h0 : LJ T c fl top b 0 σ σ) {K : FS → Int32 → Prop}
    (h : ∀ τ x, LJ T c fl top b (top + 1) σ τ → K τ x) : wp_X0_layOut_146 b a1 Ψ K FUEL σ 0 := by
  have hO := hW.1
  have hN := hO.1.2.1
  have htN := hO.2.2.2.1
  have tr := hO.tr
  have L := L_le (fl := fl) tr
  have := walk (P := fun i τ => LJ T c fl top b (min i (top + 1)) σ τ) (W := fun f τ i => wp_X0_layOut_146 b a1 Ψ K f τ i) (N := N) (by omega) ?_ ?_ N 0 FUEL σ (by omega) (FUEL_le (by omega)) (by rw [Nat.zero_min]; exact h0)
  · rw [i0]; exact this
  · intro i f τ hi hJ go
    have hF := hJ.1
    have hW' : Wr T c fl N top b τ := hW.fr hF (fun a _ _ => Sc_f (by omega)) (Sc_f (by omega)) (Sc_f (by omega)) (Sc_f (by omega)) (Sc_f (by omega))
    have hO' := hW'.1
    unfold wp_X0_layOut_146
    rw [hO'.1.1, ← nI_succ, q_I (by omega), (hO'.2.2.1.1 i hi).1]
    refine br_f (nI_ge hi (by omega)) ⟨q_in (by omega) (by omega), ?_⟩
    by_cases hit : i ≤ top
    · rw [iT_k hit]
      rw [show min i (top + 1) = i by omega] at hJ
      obtain ⟨-, j7, j11, jq⟩ := hJ
      have sl := s_lt (fl := fl) tr hit
      refine br_f (by decide) (noteBegin_ok (s := sT T fl top i) (by omega) (by omega) (hW'.2.2 i hit).1 ?_)
      have F2 : Fr (Sc b) τ (nbS b τ i (sT T fl top i)) := ((Fr.rf.put (Sc_t (by omega))).put (Sc_t (by omega))).put (Sc_t (by omega))
      have hW2 : Wr T c fl N top b (nbS b τ i (sT T fl top i)) := hW'.fr F2 (fun a _ _ => Sc_f (by omega)) (Sc_f (by omega)) (Sc_f (by omega)) (Sc_f (by omega)) (Sc_f (by omega))
      have e3 : (nbS b τ i (sT T fl top i)).1 b = σ.1 b := by rw [F2.1 b (Sc_f (by omega)), hF.1 b (Sc_f (by omega))]
      refine write_ok hb hW2 hit (by rw [e3]; exact h3) hf (fun ρ F3 hq => go ρ ?_)
      rw [show min (i + 1) (top + 1) = i + 1 by omega]
      have e7 : ∀ a, a < b + 3 ∨ b + 6 < a → ρ.1 a = (nbS b τ i (sT T fl top i)).1 a := fun a ha => F3.1 a (S36_f (by omega))
      refine ⟨hF.tr (F2.tr (F3.mono (fun a ha => S36_f (by have := of_decide_eq_false ha; omega)))), fun a ha => ?_, fun j hj => ?_, fun a q hqa => ?_⟩
      · rw [e7 _ (by omega), e7 _ (by omega)]
        unfold nbS
        rw [q_n (show b + 7 ≠ b + 8 by omega), q_e, q_e, q_n (show b + 7 ≠ b + 11 by omega), q_n (show b + 8 ≠ b + 7 by omega), q_n (show b + 8 ≠ b + 11 by omega)]
        obtain ⟨x, y⟩ := j7 a ha
        unfold fs cb ct
        by_cases e : a = sT T fl top i
        · rw [if_pos e, if_pos e, if_pos e.symm, ← e, y, nI_1, beq_self_eq_true, if_pos rfl]; exact ⟨rfl, rfl⟩
        · rw [if_neg e, if_neg e, if_neg (fun z => e z.symm), beq_false_of_ne (fun z => e z.symm)]; exact ⟨x, y⟩
      · rw [e7 _ (by omega)]
        unfold nbS
        rw [q_n (show b + 11 ≠ b + 8 by omega), q_n (show b + 11 ≠ b + 7 by omega), q_e]
        by_cases e : j = i
        · rw [if_pos e, e]; exact (j7 _ sl).1
        · rw [if_neg e]; exact j11 j (by omega)
      · rw [hq]
        unfold QA at hqa
        cases e : wq T c fl top i a with
        | some q' =>
          rw [e] at hqa
          cases hqa; rfl
        | none =>
          rw [e] at hqa
          have := jq a q hqa
          rw [← this]
          show Aq b (nbS b τ i (sT T fl top i)) a = Aq b τ a
          unfold Aq nbS
          rw [q_n (show b + 3 ≠ b + 8 by omega), q_n (show b + 3 ≠ b + 7 by omega), q_n (show b + 3 ≠ b + 11 by omega), q_n (show b + 4 ≠ b + 8 by omega), q_n (show b + 4 ≠ b + 7 by omega), q_n (show b + 4 ≠ b + 11 by omega),
            q_n (show b + 5 ≠ b + 8 by omega), q_n (show b + 5 ≠ b + 7 by omega), q_n (show b + 5 ≠ b + 11 by omega), q_n (show b + 6 ≠ b + 8 by omega), q_n (show b + 6 ≠ b + 7 by omega), q_n (show b + 6 ≠ b + 11 by omega)]
    · rw [show iT top i = false from decide_eq_false hit]
      refine br_t rfl (go τ ?_)
      rw [show min (i + 1) (top + 1) = top + 1 by omega]
      rw [show min i (top + 1) = top + 1 by omega] at hJ
      exact hJ
  · intro f τ hJ
    have hF := hJ.1
    have hO' : Ok T c N top τ := hO.fr hF (fun a _ _ => Sc_f (by omega))
    show wp_X0_layOut_146 b a1 Ψ K (f + 1) τ (nI N)
    unfold wp_X0_layOut_146
    rw [hO'.1.1]
    rw [show min N (top + 1) = top + 1 by omega] at hJ
    exact br_t (nI_le (Nat.le_refl N) (by omega)) (h τ _ hJ)
/-- the code stands -/
def CK (T : TT) (c : Int32) (fl : Bool) (top b : Nat) (σ : FS) : Prop := σ.1 b 4 = nI (ln T fl top + 2) ∧ σ.1 (b + 1) 0 = 0 ∧ σ.1 (b + 2) 0 = nI (ln T fl top + 2) ∧
  (∀ j, j ≤ top → σ.1 (b + 9) j = nI (sT T fl top j) ∧ σ.1 (b + 10) j = nI (ln T fl j) ∧ σ.1 (b + 11) j = oI (fs T fl top j (sT T fl top j))) ∧
  (∀ a, a < ln T fl top + 2 → σ.1 (b + 7) a = oI (fs T fl top (top + 1) a) ∧ σ.1 (b + 8) a = nI (cb T fl top (top + 1) a)) ∧ ∀ a q, QA T c fl top (top + 1) a = some q → Aq b σ a = q
theorem layOut_ok {pv : Int32} (hb : 39 ≤ b) (hO : Ok T c N top σ) (hf : fp pv fl) (hc : σ.1 b 3 = pv → CK T c fl top b σ)
    (h : ∀ τ, Fr (Sb b) σ τ → τ.1 b 3 = pv → CK T c fl top b τ → Ψ τ) : wp_X0_layOut b σ pv Ψ := by
  have hN := hO.1.2.1
  have htN := hO.2.2.2.1
  have tr := hO.tr
  have L := L_le (fl := fl) tr
  unfold wp_X0_layOut
  by_cases h3 : σ.1 b 3 = pv
  · exact br_t h3 (h σ Fr.rf h3 (hc h3))
  · refine br_f h3 (nm_e ?_)
    have F0 : Fr (Sb b) σ (sF σ b 3 pv) := Fr.rf.put (Sb_t (by omega))
    refine layOut16 (T := T) (c := c) (top := top) (fl := fl) hb (hO.frb hb F0) q_s hf (fun τ1 F1 h10 => ?_)
    have x1 : ∀ a, a ≠ b + 10 → a ≠ b + 12 → τ1.1 a = (sF σ b 3 pv).1 a := fun a p q => F1.1 a (by show (a == b + 10 || a == b + 12) = false; rw [beq_false_of_ne p, beq_false_of_ne q]; rfl)
    have G1 : Fr (Sb b) σ τ1 := F0.tr (F1.mono (fun a ha => by have := of_decide_eq_false ha; show (a == b + 10 || a == b + 12) = false; rw [beq_false_of_ne (by omega), beq_false_of_ne (by omega)]; rfl))
    refine placeProcedures_ok (T := T) (c := c) (N := N) (L := ln T fl top) hb (hO.frb hb G1) L (h10 top htN).1 (fun τ2 F2 e3 e4 e1 e2 e9 e7 eq => ?_)
    have G2 : Fr (Sb b) σ τ2 := G1.tr (F2.mono (fun a ha => by have := of_decide_eq_false ha; exact S19_f (by omega)))
    have p3 : τ2.1 b 3 = pv := by rw [e3, x1 b (by omega) (by omega), q_s]
    refine nm_e (layOut116 (T := T) (c := c) (fl := fl) hb (hO.frb hb G2) p3 hf (fun j hj => by rw [F2.1 _ (S19_f (by omega))]; exact (h10 j hj).1) (fun j hj => by rw [F2.1 _ (S19_f (by omega))]; exact (h10 j hj).2) e9 (fun τ3 x F3 h9 => ?_))
    have G3 : Fr (Sb b) σ τ3 := G2.tr (F3.mono (fun a ha => by have := of_decide_eq_false ha; exact S92_f (by omega)))
    have W3 : Wr T c fl N top b τ3 := ⟨hO.frb hb G3, by rw [F3.1 _ (S92_f (by omega))]; exact e1, fun j hj => ⟨(h9 j hj).1, (h9 j hj).2, by rw [F3.1 _ (S92_f (by omega)), F2.1 _ (S19_f (by omega))]; exact (h10 j (by omega)).1⟩⟩
    refine layOut146 (T := T) (c := c) (fl := fl) (pv := pv) hb W3 (by rw [F3.1 b (S92_f (by omega))]; exact p3) hf ⟨Fr.rf, fun a ha => ?_, fun j hj => absurd hj (by omega), fun a q hq => ?_⟩ (fun τ4 x2 J => ?_)
    · rw [F3.1 _ (S92_f (by omega)), F3.1 _ (S92_f (by omega))]; exact e7 a ha
    · have := eq a q hq
      rw [← this]
      unfold Aq
      rw [F3.1 _ (S92_f (by omega)), F3.1 _ (S92_f (by omega)), F3.1 _ (S92_f (by omega)), F3.1 _ (S92_f (by omega))]
    obtain ⟨F4, j7, j11, jq⟩ := J
    refine h τ4 (G3.tr (F4.mono (fun a ha => by have := of_decide_eq_false ha; exact Sc_f (by omega)))) ?_ ⟨?_, ?_, ?_, fun j hj => ⟨?_, ?_, j11 j (by omega)⟩, j7, jq⟩
    · rw [F4.1 b (Sc_f (by omega)), F3.1 b (S92_f (by omega))]; exact p3
    · rw [F4.1 b (Sc_f (by omega)), F3.1 b (S92_f (by omega))]; exact e4
    · rw [F4.1 _ (Sc_f (by omega)), F3.1 _ (S92_f (by omega))]; exact e1
    · rw [F4.1 _ (Sc_f (by omega)), F3.1 _ (S92_f (by omega))]; exact e2
    · rw [F4.1 _ (Sc_f (by omega))]; exact (h9 j hj).1
    · rw [F4.1 _ (Sc_f (by omega))]; exact (W3.2.2 j hj).2.2
end PK
