section PI
variable {T : TT} {N top : Nat} {σ τ : FS} {k b : Nat} {Φ : Int32 → FS → Prop} {Ψ : FS → Prop} {c : Int32} {inn lp : Nat → Bool} {fl : Bool}
/-- the state behind placeParts -/
def ppS (T : TT) (fl : Bool) (b : Nat) (σ : FS) (k s : Nat) (sw : Bool) : FS :=
  if pu T fl k || sw then sl b (sl b σ (pB T k) (nI s)) (pC T k) (nI s)
  else pl b (pl b (pl b σ (pB T k) (nI (s + ahd T k))) (pC T k) (nI (s + ahd T k + oF (pB T k) 0 (ln T fl) + btw T k))) (pA T k) (nI (s + ahd T k + oF (pB T k) 0 (ln T fl) + btw T k + oF (pC T k) 0 (ln T fl) + 1))
theorem placeParts_ok {s : Nat} {sw : Bool} {pv : Int32} (hb : 39 ≤ b) (hk : k < 110) (hm : mt T σ k) (hw : WF T k) (h26 : σ.1 26 k = fB (fw T k).1) (h3 : σ.1 b 3 = pv) (hf : fp pv fl)
    (h9 : σ.1 (b + 9) k = nI s) (h12 : σ.1 (b + 12) k = fB sw) (hl : ∀ p, part T k p → p < 110 ∧ σ.1 (b + 10) p = nI (ln T fl p)) (h : Ψ (ppS T fl b σ k s sw)) : wp_X0_placeParts b σ (nI k) Ψ := by
  have hin := q_in hk (show 110 < 2 ^ 31 by omega)
  unfold ppS at h
  unfold wp_X0_placeParts
  refine ⟨hin, nm_e (isPushed_ok (T := T) hk h26 h3 hf ?_)⟩
  rw [q_I (k := b + 9) (by omega), h9, q_I (k := b + 12) (by omega), h12]
  have sw1 : Ψ (sl b (sl b σ (pB T k) (nI s)) (pC T k) (nI s)) → wp_X5_partB σ (nI k) (fun (x82 : Int32) (σ81 : FS) => wp_X0_swallow b σ81 x82 (nI s) (fun (σ83 : FS) => wp_X5_partC σ83 (nI k) (fun (x85 : Int32) (σ84 : FS) => wp_X0_swallow b σ84 x85 (nI s) (fun (σ86 : FS) => Ψ σ86)))) := fun q =>
    partB_ok hk hm hw (swallow_ok (fun p hp => (hl p (Or.inl hp)).1) (partC_ok hk (mt_92 hb sl_fr hm) hw (swallow_ok (fun p hp => (hl p (Or.inr (Or.inl hp))).1) q)))
  cases hp : pu T fl k with
  | true =>
    rw [hp, Bool.true_or, if_pos rfl] at h
    exact br_f (by decide) (sw1 h)
  | false =>
    rw [hp, Bool.false_or] at h
    refine br_t rfl ⟨hin, ?_⟩
    cases sw with
    | true =>
      rw [if_pos rfl] at h
      exact br_f (by decide) (sw1 h)
    | false =>
      rw [if_neg Bool.false_ne_true] at h
      refine br_t rfl ⟨hin, nm_e ?_⟩
      rw [q_I (by omega), hm.1]
      refine br_f (kd_ne (v := 9) hw.lt (by omega) (okK_ne hw.1 rfl)) ?_
      have lB := fun p (hp : pB T k = some p) => hl p (Or.inl hp)
      unfold ahd btw at h
      by_cases h15 : kd T k = 15
      · rw [if_neg (by omega), if_pos (Or.inl h15)] at h
        refine br_t (by rw [h15]; rfl) (partB_ok hk hm hw (lengthOfPart_ok (f := ln T fl) lB (nm_e ?_)))
        exact pp_ok (T := T) (f := ln T fl) (s := s) (a := 0) (e := 1) hb hk hm hw hl (by rw [← nI_add, ← nI_add, ← nI_add]; rfl) h
      · refine br_f (kd_ne (v := 15) hw.lt (by omega) h15) ?_
        by_cases h16 : kd T k = 16
        · rw [if_pos h16, if_pos (Or.inr h16)] at h
          refine br_t (by rw [h16]; rfl) (partB_ok hk hm hw (lengthOfPart_ok (f := ln T fl) lB (nm_e ?_)))
          exact pp_ok (T := T) (f := ln T fl) (s := s) (a := 1) (e := 1) hb hk hm hw hl (by rw [← nI_add, ← nI_add, ← nI_add]; rfl) h
        · rw [if_neg h16, if_neg (by omega)] at h
          refine br_f (kd_ne (v := 16) hw.lt (by omega) h16) (partB_ok hk hm hw (lengthOfPart_ok (f := ln T fl) lB (nm_e ?_)))
          exact pp_ok (T := T) (f := ln T fl) (s := s) (a := 0) (e := 0) hb hk hm hw hl (by rw [← nI_add, ← nI_add, ← nI_add]; rfl) h
theorem ppS_fr {s : Nat} {sw : Bool} : Fr (S92 b) σ (ppS T fl b σ k s sw) := by
  unfold ppS
  split
  · exact sl_fr.tr sl_fr
  · exact (pl_fr.tr pl_fr).tr pl_fr
/-- what placeParts lays at a part, and elsewhere -/
theorem ppS_part {s j : Nat} {sw : Bool} (hP : PL T) (hw : ∀ i, i ≤ k → WF T i) (hA : (pu T fl k || sw) = true → pA T k = none) (hp : part T k j) :
    (ppS T fl b σ k s sw).1 (b + 9) j = nI (if pu T fl k || sw then s else s + off T fl k j) ∧ (ppS T fl b σ k s sw).1 (b + 12) j = if pu T fl k || sw then 1 else σ.1 (b + 12) j := by
  obtain ⟨n1, n2⟩ := part_ne hP hw (j := j)
  unfold ppS
  cases e : pu T fl k || sw with
  | true =>
    rw [if_pos rfl, if_pos rfl, if_pos rfl]
    have hp' : pB T k = some j ∨ pC T k = some j := by
      rcases hp with h | h | h
      · exact Or.inl h
      · exact Or.inr h
      · rw [hA e] at h; cases h
    rw [sl_9, sl_9, sl_12, sl_12]
    rcases hp' with h | h
    · exact ⟨by split <;> first | rfl | (rw [if_pos h]), by split <;> first | rfl | (rw [if_pos h])⟩
    · exact ⟨by rw [if_pos h], by rw [if_pos h]⟩
  | false =>
    rw [if_neg Bool.false_ne_true, if_neg Bool.false_ne_true, if_neg Bool.false_ne_true]
    refine ⟨?_, by rw [pl_12, pl_12, pl_12]⟩
    rw [pl_9, pl_9, pl_9]
    unfold off
    rcases hp with h | h | h
    · rw [if_neg (n1 h).2, if_neg (n1 h).1, if_pos h, if_pos h]
    · have hB : pB T k ≠ some j := fun q => (n1 q).1 h
      rw [if_neg (n2 h), if_pos h, if_neg hB, if_pos h]
      exact congrArg nI (by omega)
    · have hB : pB T k ≠ some j := fun q => (n1 q).2 h
      have hC : pC T k ≠ some j := fun q => n2 q h
      rw [if_pos h, if_neg hB, if_neg hC]
      exact congrArg nI (by omega)
theorem ppS_other {s j : Nat} {sw : Bool} (hp : ¬ part T k j) : (ppS T fl b σ k s sw).1 (b + 9) j = σ.1 (b + 9) j ∧ (ppS T fl b σ k s sw).1 (b + 12) j = σ.1 (b + 12) j := by
  have hB : pB T k ≠ some j := fun q => hp (Or.inl q)
  have hC : pC T k ≠ some j := fun q => hp (Or.inr (Or.inl q))
  have hA : pA T k ≠ some j := fun q => hp (Or.inr (Or.inr q))
  unfold ppS
  cases e : pu T fl k || sw with
  | true =>
    rw [if_pos rfl, sl_9, sl_9, sl_12, sl_12, if_neg hC, if_neg hB, if_neg hC, if_neg hB]; exact ⟨rfl, rfl⟩
  | false =>
    rw [if_neg Bool.false_ne_true, pl_9, pl_9, pl_9, pl_12, pl_12, pl_12, if_neg hA, if_neg hC, if_neg hB]; exact ⟨rfl, rfl⟩
def LI (T : TT) (fl : Bool) (top b : Nat) (σ : FS) (m : Nat) (τ : FS) : Prop := Fr (S92 b) σ τ ∧ ∀ j, j ≤ top → ((j = top ∨ ∃ w, m ≤ w ∧ w ≤ top ∧ part T w j) → τ.1 (b + 9) j = nI (SS T fl top j).1 ∧ τ.1 (b + 12) j = fB (SS T fl top j).2) ∧ ((¬ ∃ w, m ≤ w ∧ w ≤ top ∧ part T w j) → τ.1 (b + 12) j = 0)
theorem layOut116 {pv a1 : Int32} (hb : 39 ≤ b) (hO : Ok T c N top σ) (h3 : σ.1 b 3 = pv) (hf : fp pv fl) (hl : ∀ j, j < N → σ.1 (b + 10) j = nI (ln T fl j)) (h0 : ∀ j, j < N → σ.1 (b + 12) j = 0) (h9 : σ.1 (b + 9) top = 0) {K : FS → Int32 → Prop}
    (h : ∀ τ x, Fr (S92 b) σ τ → (∀ j, j ≤ top → τ.1 (b + 9) j = nI (SS T fl top j).1 ∧ τ.1 (b + 12) j = fB (SS T fl top j).2) → K τ x) : wp_X0_layOut_116 b a1 Ψ K FUEL σ (σ.1 13 0 - 1) := by
  have hN := hO.1.2.1
  have htN := hO.2.2.2.1
  have tr := hO.tr
  rw [hO.1.1]
  have key : ∀ (m : Nat) (f : Nat) (τ : FS), m ≤ N → m < f → LI T fl top b σ m τ → wp_X0_layOut_116 b a1 Ψ K f τ (nI m - 1) := by
    intro m
    induction m with
    | zero =>
      intro f τ hm hff ⟨hF, hk⟩
      cases f with
      | zero => omega
      | succ f =>
        unfold wp_X0_layOut_116
        refine br_t (by decide) (h τ _ hF (fun j hj => (hk j hj).1 ?_))
        by_cases e : j = top
        · exact Or.inl e
        · obtain ⟨w, hw, hp⟩ := has_wh tr (show j < top by omega)
          exact Or.inr ⟨w, Nat.zero_le w, hw, hp⟩
    | succ m ih =>
      intro f τ hm hff ⟨hF, hk⟩
      cases f with
      | zero => omega
      | succ f =>
        have e21 : τ.1 21 m = σ.1 21 m := congrFun (hF.1 21 (S92_f (by omega))) m
        have hO' : Ok T c N top τ := hO.fr hF (fun a _ h2 => S92_f (by omega))
        rw [nI_pred]
        have e : nI m + (-1) = nI m - 1 := by rw [Int32.sub_eq_add_neg]
        unfold wp_X0_layOut_116
        rw [e, q_I (by omega), e21, (hO.2.2.1.1 m (by omega)).1]
        refine br_f (nI_pos (by omega)) ⟨q_in (by omega) (by omega), ?_⟩
        by_cases hmt : m ≤ top
        · rw [show iT top m = true from decide_eq_true hmt]
          have pl9 : τ.1 (b + 9) m = nI (SS T fl top m).1 ∧ τ.1 (b + 12) m = fB (SS T fl top m).2 := by
            refine (hk m hmt).1 ?_
            by_cases e : m = top
            · exact Or.inl e
            · obtain ⟨w, hw, hp⟩ := has_wh tr (show m < top by omega)
              have := tr.1 w m hp
              exact Or.inr ⟨w, by omega, hw, hp⟩
          have hA : (pu T fl m || (SS T fl top m).2) = true → pA T m = none := fun q => by
            refine no_A (tr.2.1 m hmt) ?_
            rcases Bool.or_eq_true_iff.mp q with q | q
            · have := pu_kd tr.1 q; omega
            · exact sw_kd tr m hmt q
          have P := hO'.1.2.2.2 m (by omega)
          refine br_f (by decide) (placeParts_ok (T := T) (fl := fl) (s := (SS T fl top m).1) (sw := (SS T fl top m).2) hb (by omega) P.1 P.2 ?_ (by rw [hF.1 b (S92_f (by omega))]; exact h3) hf pl9.1 pl9.2 (fun p hp => ?_) ?_)
          · exact (hO'.2.2.1.1 m (by omega)).2.2.1.1
          · have := tr.1 m p hp
            exact ⟨by omega, by rw [hF.1 _ (S92_f (by omega))]; exact hl p (by omega)⟩
          refine ih f _ (by omega) (by omega) ⟨hF.tr ppS_fr, fun j hj => ?_⟩
          by_cases hp : part T m j
          · have q := ppS_part (σ := τ) (b := b) (fl := fl) (s := (SS T fl top m).1) (sw := (SS T fl top m).2) tr.1 (fun i hi => tr.2.1 i (by omega)) hA hp
            have e := SS_part (fl := fl) tr hmt hp
            refine ⟨fun _ => ?_, fun z => absurd ⟨m, Nat.le_refl m, hmt, hp⟩ z⟩
            have un : ¬ ∃ w, m + 1 ≤ w ∧ w ≤ top ∧ part T w j := fun ⟨w, w1, w2, w3⟩ => by
              have := tr.2.2.2.1 m w j hmt w2 hp w3
              omega
            rw [q.1, q.2, e]
            cases e2 : pu T fl m || (SS T fl top m).2 with
            | true => exact ⟨rfl, rfl⟩
            | false => exact ⟨rfl, (hk j hj).2 un⟩
          · have q := ppS_other (σ := τ) (b := b) (fl := fl) (s := (SS T fl top m).1) (sw := (SS T fl top m).2) hp
            rw [q.1, q.2]
            refine ⟨fun z => (hk j hj).1 ?_, fun z => (hk j hj).2 (fun ⟨w, w1, w2, w3⟩ => z ⟨w, by omega, w2, w3⟩)⟩
            rcases z with z | ⟨w, w1, w2, w3⟩
            · exact Or.inl z
            · refine Or.inr ⟨w, ?_, w2, w3⟩
              have : w ≠ m := fun e => hp (by rw [← e]; exact w3)
              omega
        · rw [show iT top m = false from decide_eq_false hmt]
          refine br_t rfl (ih f τ (by omega) (by omega) ⟨hF, fun j hj => ⟨fun z => (hk j hj).1 ?_, fun z => (hk j hj).2 (fun ⟨w, w1, w2, w3⟩ => z ⟨w, by omega, w2, w3⟩)⟩⟩)
          rcases z with z | ⟨w, w1, w2, w3⟩
          · exact Or.inl z
          · exact Or.inr ⟨w, by omega, w2, w3⟩
  refine key N FUEL σ (Nat.le_refl N) (FUEL_le (by omega)) ⟨Fr.rf, fun j hj => ⟨fun z => ?_, fun _ => h0 j (by omega)⟩⟩
  rcases z with z | ⟨w, w1, w2, w3⟩
  · rw [z, SS_top]; exact ⟨h9, h0 top htN⟩
  · omega
end PI
