section PB
/-- what is declared: numbers 0, 1, 4; an array of four with the name 2; a constant c with the name 3 -/
def isN : Nat → Int32 | 0 => 6 | 1 => 6 | 2 => 7 | 3 => 9 | 4 => 6 | _ => -1
def tgN (c : Int32) : Nat → Int32 | 0 => 0 | 1 => 1 | 2 => 2 | 3 => c | _ => 3
def Dcl (c : Int32) (σ : FS) : Prop :=
  (σ.1 1 0 = 1 ∧ σ.1 2 0 = -1 ∧ σ.1 3 0 = -1 ∧ σ.1 4 0 = 0 ∧ σ.1 5 0 = 5 ∧ σ.1 6 0 = 4) ∧
  (∀ j, j < 16 → σ.1 8 j = isN j) ∧ (∀ j, j < 5 → j ≠ 3 → σ.1 9 j = tgN c j) ∧ σ.1 10 3 = c ∧
  (σ.1 11 0 = 6 ∧ σ.1 11 1 = 6 ∧ σ.1 11 2 = 7 ∧ σ.1 11 3 = 6) ∧ σ.1 12 2 = 4
theorem Dcl.fr {c : Int32} {σ τ : FS} {S : Nat → Bool} (h : Dcl c σ) (hF : Fr S σ τ) (hs : ∀ k, k < 13 → k ≠ 7 → S k = false) : Dcl c τ := by
  obtain ⟨⟨a1, a2, a0, a3, a4, a5⟩, b, d, e, ⟨f1, f2, f3, f4⟩, i⟩ := h
  have q : ∀ k, k < 13 → k ≠ 7 → τ.1 k = σ.1 k := fun k hk h7 => hF.1 k (hs k hk h7)
  refine ⟨⟨?_, ?_, ?_, ?_, ?_, ?_⟩, fun j hj => ?_, fun j hj h3 => ?_, ?_, ⟨?_, ?_, ?_, ?_⟩, ?_⟩
  · rw [q 1 (by omega) (by omega)]; exact a1
  · rw [q 2 (by omega) (by omega)]; exact a2
  · rw [q 3 (by omega) (by omega)]; exact a0
  · rw [q 4 (by omega) (by omega)]; exact a3
  · rw [q 5 (by omega) (by omega)]; exact a4
  · rw [q 6 (by omega) (by omega)]; exact a5
  · rw [q 8 (by omega) (by omega)]; exact b j hj
  · rw [q 9 (by omega) (by omega)]; exact d j hj h3
  · rw [q 10 (by omega) (by omega)]; exact e
  · rw [q 11 (by omega) (by omega)]; exact f1
  · rw [q 11 (by omega) (by omega)]; exact f2
  · rw [q 11 (by omega) (by omega)]; exact f3
  · rw [q 11 (by omega) (by omega)]; exact f4
  · rw [q 12 (by omega) (by omega)]; exact i
theorem isN_ne {a : Nat} (h : a < 5) : ¬ isN a = -1 := by
  rcases (show a = 0 ∨ a = 1 ∨ a = 2 ∨ a = 3 ∨ a = 4 by omega) with rfl | rfl | rfl | rfl | rfl <;> decide
theorem z16 (a : Nat) : (0 : Int32) * 16 + nI a = nI a := by rw [show (0 : Int32) * 16 = 0 by decide, Int32.zero_add]
variable {T : TT} {N : Nat} {σ τ : FS} {k : Nat} {Φ : Int32 → FS → Prop} {Ψ : FS → Prop} {c : Int32} {inn lp : Nat → Bool}
theorem declares_y {a : Nat} (hD : Dcl c σ) (ha : a < 5) (h : Φ 1 σ) : wp_X1_declares σ 0 (nI a) Φ := by
  unfold wp_X1_declares
  rw [z16]
  refine ⟨q_in (by omega) (by omega), ?_⟩
  rw [q_I (by omega), hD.2.1 a (by omega)]
  exact br_f (isN_ne ha) h
theorem declarer_y {a : Nat} (hD : Dcl c σ) (ha : a < 5) (h : Φ 0 σ) : wp_X1_declarer σ 0 (nI a) Φ := by
  unfold wp_X1_declarer
  rw [FUEL_s]
  unfold wp_X1_declarer_5
  exact br_f (by decide) (br_f (by decide) (declares_y hD ha (br_f (by decide) h)))
theorem hopsTo_0 (h : Φ 0 σ) : wp_X1_hopsTo σ 0 0 Φ := by
  unfold wp_X1_hopsTo
  rw [FUEL_s]
  unfold wp_X1_hopsTo_5
  exact br_f (by decide) (br_t rfl h)
/-- where each node is: descending, by bodies and wholes -/
theorem find1 (hN : σ.1 13 0 = nI N) (hN1 : N ≤ 110)
    (hc : ∀ k, k < N → (σ.1 19 k = 0 ∧ inn k = true) ∨ (σ.1 19 k = -1 ∧ ((σ.1 18 k = -1 ∧ inn k = false) ∨ ∃ w, k < w ∧ w < N ∧ σ.1 18 k = nI w ∧ inn k = inn w)))
    (h : ∀ τ : FS, Fr (fun a => a == 21) σ τ → (∀ k, k < N → τ.1 21 k = if inn k then 0 else -1) → Ψ τ) : wp_X4_findWhereNodesAre σ Ψ := by
  unfold wp_X4_findWhereNodesAre
  intro x hx
  subst hx
  rw [hN]
  have key : ∀ (m : Nat) (f : Nat) (τ : FS), m ≤ N → m < f → Fr (fun a => a == 21) σ τ → (∀ k, m ≤ k → k < N → τ.1 21 k = if inn k then 0 else -1) → wp_X4_findWhereNodesAre_10 Ψ (fun (σ5 : FS) (_ : Int32) => Ψ σ5) f τ (nI m - 1) := by
    intro m
    induction m with
    | zero =>
      intro f τ hm hf hF hk
      cases f with
      | zero => omega
      | succ f =>
        unfold wp_X4_findWhereNodesAre_10
        exact br_t (by decide) (h τ hF (fun k hk2 => hk k (Nat.zero_le k) hk2))
    | succ m ih =>
      intro f τ hm hf hF hk
      cases f with
      | zero => omega
      | succ f =>
        have hm31 : m < 2 ^ 31 := by omega
        have hin : vp_in (nI m) 110 := q_in (by omega) (by omega)
        have e19 : τ.1 19 m = σ.1 19 m := congrFun (hF.1 19 rfl) m
        have e18 : τ.1 18 m = σ.1 18 m := congrFun (hF.1 18 rfl) m
        rw [nI_pred]
        have go : ∀ v : Int32, v = (if inn m then 0 else -1) → wp_X4_findWhereNodesAre_10 Ψ (fun (σ5 : FS) (_ : Int32) => Ψ σ5) f (sF τ 21 m v) (nI m + (-1)) := by
          intro v hv
          have e : nI m + (-1) = nI m - 1 := by rw [Int32.sub_eq_add_neg]
          rw [e]
          refine ih f _ (by omega) (by omega) (hF.put rfl) (fun k h1 h2 => ?_)
          by_cases hkm : k = m
          · rw [hkm, q_s, hv]
          · rw [q_o hkm]; exact hk k (by omega) h2
        unfold wp_X4_findWhereNodesAre_10
        refine br_f (nI_pos hm31) ⟨hin, ?_⟩
        rw [q_I hm31, q_I hm31, e19, e18, q_A hm31, q_A hm31, q_A hm31]
        rcases hc m (by omega) with ⟨e, hi⟩ | ⟨e, ⟨e2, hi⟩ | ⟨w, hw1, hw2, e2, hi⟩⟩
        · refine br_f (by rw [e]; decide) ⟨hin, hin, nm_e (go _ ?_)⟩
          rw [e, hi]; rfl
        · refine br_t e ⟨hin, br_t e2 ⟨hin, nm_e (go _ ?_)⟩⟩
          rw [hi]; rfl
        · refine br_t e ⟨hin, br_f (by rw [e2]; exact q_m1 (by omega)) ⟨hin, by rw [e2]; exact q_in (by omega) (by omega), hin, nm_e (go _ ?_)⟩⟩
          rw [e2, q_I (by omega), hk w (by omega) hw2, hi]
  exact key N FUEL σ (Nat.le_refl N) (FUEL_le (by omega)) Fr.rf (fun k h1 h2 => absurd h2 (Nat.not_lt.mpr h1))
theorem hasPlace_ok (hk : k < 110) (h0 : σ.1 24 k = -1 ∨ σ.1 24 k = 9 → Φ 0 σ) (h1 : (σ.1 24 k = 6 ∨ σ.1 24 k = 7) → Φ 1 σ) (h : σ.1 24 k = -1 ∨ σ.1 24 k = 9 ∨ σ.1 24 k = 6 ∨ σ.1 24 k = 7) : wp_X4_hasPlace σ (nI k) Φ := by
  have hin := q_in hk (show 110 < 2 ^ 31 by omega)
  unfold wp_X4_hasPlace
  rw [q_I (by omega)]
  rcases h with e | e | e | e
  · exact ⟨hin, br_t e (h0 (Or.inl e))⟩
  · exact ⟨hin, br_f (by rw [e]; decide) ⟨hin, br_t e (h0 (Or.inr e))⟩⟩
  · exact ⟨hin, br_f (by rw [e]; decide) ⟨hin, br_f (by rw [e]; decide) ⟨hin, br_f (by rw [e]; decide) (h1 (Or.inl e))⟩⟩⟩
  · exact ⟨hin, br_f (by rw [e]; decide) ⟨hin, br_f (by rw [e]; decide) ⟨hin, br_f (by rw [e]; decide) (h1 (Or.inr e))⟩⟩⟩
/-- with a name, and in MAIN -/
def nd (T : TT) (inn : Nat → Bool) (k : Nat) : Bool := inn k && nmK (kd T k)
def iS (T : TT) (inn : Nat → Bool) (k : Nat) : Int32 := if nd T inn k then isN (nm T k) else -1
def tG (T : TT) (c : Int32) (inn : Nat → Bool) (k : Nat) : Int32 := if nd T inn k then tgN c (nm T k) else -1
def oW (T : TT) (inn : Nat → Bool) (k : Nat) : Int32 := if nd T inn k then 0 else -1
def bS (T : TT) (c : Int32) (inn : Nat → Bool) (σ : FS) (k : Nat) : FS := sF (sF (sF (sF σ 22 k (oW T inn k)) 23 k (oW T inn k)) 24 k (iS T inn k)) 25 k (tG T c inn k)
theorem bind_ok (hk : k < 110) (hm : mt T σ k) (hw : WF T k) (hD : Dcl c σ) (h21 : σ.1 21 k = if inn k then 0 else -1) (h : Ψ (bS T c inn σ k)) : wp_X4_bind σ (nI k) Ψ := by
  have hin := q_in hk (show 110 < 2 ^ 31 by omega)
  have h31 : k < 2 ^ 31 := by omega
  unfold bS oW iS tG nd at h
  unfold wp_X4_bind
  simp only [q_I h31, q_A h31, h21]
  refine ⟨hin, ?_⟩
  cases hi : inn k with
  | false =>
    rw [hi] at h
    exact br_t rfl ⟨hin, nm_e ⟨hin, br_t q_s ⟨hin, nm_e ⟨hin, nm_e ⟨hin, nm_e h⟩⟩⟩⟩⟩
  | true =>
    rw [hi] at h
    refine br_f (by decide) (hasName_ok hk hm hw ?_)
    cases hn : nmK (kd T k) with
    | false =>
      rw [hn] at h
      exact br_t rfl ⟨hin, nm_e ⟨hin, br_t q_s ⟨hin, nm_e ⟨hin, nm_e ⟨hin, nm_e h⟩⟩⟩⟩⟩
    | true =>
      rw [hn] at h
      obtain ⟨ea, h5, -⟩ := hw.2.2.2.2.2.1 hn
      refine br_f (by decide) ⟨hin, hin, ?_⟩
      rw [h21, hi, hm.2.1, ea]
      refine declarer_y hD h5 ⟨hin, nm_e ⟨hin, br_f (by rw [q_s]; decide) ⟨hin, hin, nm_e ⟨hin, hin, ?_⟩⟩⟩⟩
      have e21 : ∀ v : Int32, (sF σ 22 k v).1 21 k = 0 := fun v => by rw [q_n (by omega), h21, hi]; rfl
      have e15 : ∀ v : Int32, (sF σ 22 k v).1 15 k = nI (nm T k) := fun v => by rw [q_n (by omega), hm.2.1, ea]
      rw [e21, q_s]
      have e16 : (0 : Int32) * 16 + (sF σ 22 k 0).1 15 k = nI (nm T k) := by rw [e15, z16]
      have eis : (sF (sF σ 22 k 0) 23 k 0).1 8 (nm T k) = isN (nm T k) := by rw [q_n (by omega), q_n (by omega), hD.2.1 _ (by omega)]
      refine hopsTo_0 ⟨hin, nm_e ⟨by rw [e16]; exact q_in (by omega) (by omega), hin, nm_e ?_⟩⟩
      rw [e16, q_I (by omega), eis]
      have h24 : (sF (sF (sF σ 22 k 0) 23 k 0) 24 k (isN (nm T k))).1 24 k = isN (nm T k) := q_s
      have hp : nm T k = 3 ∨ nm T k ≠ 3 := by omega
      refine hasPlace_ok hk (fun h3 => ?_) (fun h3 => ?_) ?_
      · rw [h24] at h3
        have e3 : nm T k = 3 := by
          rcases (show nm T k = 0 ∨ nm T k = 1 ∨ nm T k = 2 ∨ nm T k = 3 ∨ nm T k = 4 by omega) with q | q | q | q | q <;> rw [q] at h3 <;> first | exact q | (exfalso; revert h3; decide)
        refine br_t rfl ⟨q_in (by omega) (by omega), hin, nm_e ?_⟩
        have e9 : (sF (sF (sF σ 22 k 0) 23 k 0) 24 k (isN (nm T k))).1 10 (nm T k) = tgN c (nm T k) := by rw [q_n (by omega), q_n (by omega), q_n (by omega), e3]; exact hD.2.2.2.1
        rw [q_I (by omega), e9]
        exact h
      · rw [h24] at h3
        have e3 : nm T k ≠ 3 := fun q => by rw [q] at h3; revert h3; decide
        refine br_f (by decide) ⟨q_in (by omega) (by omega), hin, nm_e ?_⟩
        have e9 : (sF (sF (sF σ 22 k 0) 23 k 0) 24 k (isN (nm T k))).1 9 (nm T k) = tgN c (nm T k) := by rw [q_n (by omega), q_n (by omega), q_n (by omega)]; exact hD.2.2.1 _ h5 e3
        rw [q_I (by omega), e9]
        exact h
      · rw [h24]
        rcases (show nm T k = 0 ∨ nm T k = 1 ∨ nm T k = 2 ∨ nm T k = 3 ∨ nm T k = 4 by omega) with q | q | q | q | q <;> rw [q] <;> decide
/-- what is folded, and what it is worth -/
def rk (κ : Nat) (x y : Int32) : Int32 := if κ = 3 then x + y else if κ = 4 then x - y else if κ = 5 then x * y else if κ = 6 then (if y = 0 then 0 else x / y) else if y ≤ x then 0 else 1
def kn (T : TT) (r : Nat → Bool × Int32) (j : Nat) : Bool := kd T j == 0 || (r j).1
def fwF (T : TT) (r : Nat → Bool × Int32) (k : Nat) : Bool × Int32 :=
  if kd T k = 0 then (false, av T k) else if 3 ≤ kd T k ∧ kd T k ≤ 7 then
    oF (pB T k) (false, 0) (fun b => oF (pC T k) (false, 0) (fun c => if kn T r b = true ∧ kn T r c = true then (kd T k != 6 || (r c).2 != 0, rk (kd T k) (r b).2 (r c).2) else (false, 0)))
  else (false, 0)
def fw (T : TT) : Nat → Bool × Int32 := ru (false, 0) (fwF T)
theorem fw_eq (h : PL T) (k : Nat) : fw T k = fwF T (fw T) k := by
  refine ru_eq (fun k g g' hg => ?_) k
  unfold fwF
  split
  · rfl
  · split
    · refine oF_c (fun b hb => oF_c (fun c hc => ?_))
      have e1 := hg b (h k b (Or.inl hb))
      have e2 := hg c (h k c (Or.inr (Or.inl hc)))
      unfold kn
      rw [e1, e2]
    · rfl
def fB (b : Bool) : Int32 := if b then 1 else 0
theorem fB_0 {b : Bool} : fB b = 0 ↔ b = false := by cases b <;> decide
/-- the folding of node j stands in a world -/
def fz (T : TT) (σ : FS) (j : Nat) : Prop := σ.1 26 j = fB (fw T j).1 ∧ (kn T (fw T) j = true → σ.1 27 j = (fw T j).2)
theorem isKnown_ok (hk : k < 110) (hm : mt T σ k) (hf : σ.1 26 k = fB (fw T k).1) (hκ : kd T k < 22) (h : Φ (fB (kn T (fw T) k)) σ) : wp_X4_isKnown σ (nI k) Φ := by
  have hin := q_in hk (show 110 < 2 ^ 31 by omega)
  unfold wp_X4_isKnown
  rw [q_I (by omega), q_I (by omega), hm.1, hf]
  unfold kn at h
  refine ⟨hin, ?_⟩
  by_cases h0 : kd T k = 0
  · rw [h0] at h ⊢
    exact br_t rfl h
  · rw [beq_false_of_ne h0, Bool.false_or] at h
    refine br_f (fun e => h0 ((nI_eq (by omega) (by omega)).mp e)) ⟨hin, ?_⟩
    cases e : (fw T k).1 with
    | false => rw [e] at h; exact br_t rfl h
    | true => rw [e] at h; exact br_f (by decide) h
theorem isReckoned_ok {κ : Nat} (hκ : κ < 22) (h : Φ (if 3 ≤ κ ∧ κ ≤ 7 then 1 else 0) σ) : wp_X4_isReckoned σ (nI κ) Φ := by
  unfold wp_X4_isReckoned
  by_cases h3 : κ < 3
  · rw [if_neg (by omega)] at h
    exact br_t (nI_lt (b := 3) h3 (by omega)) h
  · refine br_f (nI_nlt (b := 3) (by omega) (by omega)) ?_
    by_cases h7 : 7 < κ
    · rw [if_neg (by omega)] at h
      exact br_t (nI_lt (a := 7) h7 (by omega)) h
    · rw [if_pos (by omega)] at h
      exact br_f (nI_nlt (a := 7) (by omega) (by omega)) h
theorem reckon_ok {κ : Nat} {x y : Int32} (h3 : 3 ≤ κ) (h7 : κ ≤ 7) (h : Φ (rk κ x y) σ) : wp_X4_reckon σ (nI κ) x y Φ := by
  unfold wp_X4_reckon
  unfold rk at h
  rcases (show κ = 3 ∨ κ = 4 ∨ κ = 5 ∨ κ = 6 ∨ κ = 7 by omega) with rfl | rfl | rfl | rfl | rfl
  · exact br_t rfl h
  · exact br_f (by decide) (br_t rfl h)
  · exact br_f (by decide) (br_f (by decide) (br_t rfl h))
  · refine br_f (by decide) (br_f (by decide) (br_f (by decide) (br_t rfl ?_)))
    by_cases hy : y = 0
    · rw [if_neg (by omega), if_neg (by omega), if_neg (by omega), if_pos rfl, if_pos hy] at h
      exact br_t hy h
    · rw [if_neg (by omega), if_neg (by omega), if_neg (by omega), if_pos rfl, if_neg hy] at h
      exact br_f hy ⟨hy, h⟩
  · refine br_f (by decide) (br_f (by decide) (br_f (by decide) (br_f (by decide) ?_)))
    by_cases hy : y ≤ x
    · rw [if_neg (by omega), if_neg (by omega), if_neg (by omega), if_neg (by omega), if_pos hy] at h
      exact br_t hy h
    · rw [if_neg (by omega), if_neg (by omega), if_neg (by omega), if_neg (by omega), if_neg hy] at h
      exact br_f hy h
theorem fold_ok (hk : k < 110) (hP : PL T) (hm : ∀ j, j ≤ k → mt T σ j ∧ WF T j) (hf : ∀ j, j < k → fz T σ j)
    (h : ∀ τ, Fr (fun a => a == 26 || a == 27) σ τ → (∀ j, j ≤ k → fz T τ j) → Ψ τ) : wp_X4_fold σ (nI k) Ψ := by
  have hin := q_in hk (show 110 < 2 ^ 31 by omega)
  have h31 : k < 2 ^ 31 := by omega
  obtain ⟨hmk, hw⟩ := hm k (Nat.le_refl k)
  have hκ := hw.lt
  have F1 : ∀ v, Fr (fun a => a == 26 || a == 27) σ (sF σ 26 k v) := fun v => Fr.rf.put rfl
  have F2 : ∀ v w, Fr (fun a => a == 26 || a == 27) σ (sF (sF σ 26 k v) 27 k w) := fun v w => (F1 v).put rfl
  have F3 : ∀ v w z, Fr (fun a => a == 26 || a == 27) σ (sF (sF (sF σ 26 k v) 26 k z) 27 k w) := fun v w z => ((F1 v).put rfl).put rfl
  have lo26 : ∀ τ : FS, Fr (fun a => a == 26 || a == 27) σ τ → (∀ j, j ≠ k → τ.1 26 j = σ.1 26 j ∧ τ.1 27 j = σ.1 27 j) → fz T τ k → ∀ j, j ≤ k → fz T τ j := by
    intro τ _ h1 h2 j hj
    by_cases hjk : j = k
    · rw [hjk]; exact h2
    · obtain ⟨a, b⟩ := h1 j hjk
      obtain ⟨p, q⟩ := hf j (by omega)
      exact ⟨a.trans p, fun z => b.trans (q z)⟩
  have E1 : ∀ v, ∀ j, j ≠ k → (sF σ 26 k v).1 26 j = σ.1 26 j ∧ (sF σ 26 k v).1 27 j = σ.1 27 j := fun v j hj => ⟨q_o hj, by rw [q_n (by omega)]⟩
  have E2 : ∀ v w, ∀ j, j ≠ k → (sF (sF σ 26 k v) 27 k w).1 26 j = σ.1 26 j ∧ (sF (sF σ 26 k v) 27 k w).1 27 j = σ.1 27 j := fun v w j hj => ⟨by rw [q_n (by omega), q_o hj], by rw [q_o hj, q_n (by omega)]⟩
  have E3 : ∀ v w z, ∀ j, j ≠ k → (sF (sF (sF σ 26 k v) 26 k z) 27 k w).1 26 j = σ.1 26 j ∧ (sF (sF (sF σ 26 k v) 26 k z) 27 k w).1 27 j = σ.1 27 j := fun v w z j hj => ⟨by rw [q_n (by omega), q_o hj, q_o hj], by rw [q_o hj, q_n (by omega), q_n (by omega)]⟩
  have efw := fw_eq hP k
  unfold fwF at efw
  unfold wp_X4_fold
  refine ⟨hin, nm_e ⟨hin, ?_⟩⟩
  simp only [q_I h31, q_A h31]
  have g14 : ∀ v, (sF σ 26 k v).1 14 k = nI (kd T k) := fun v => by rw [q_n (by omega)]; exact hmk.1
  rw [g14]
  by_cases h0 : kd T k = 0
  · rw [if_pos h0] at efw
    refine br_t (by rw [h0]; rfl) ⟨hin, hin, nm_e (h _ (F2 _ _) (lo26 _ (F2 _ _) (E2 _ _) ⟨?_, fun _ => ?_⟩))⟩
    · rw [q_n (by omega), q_s, efw]; rfl
    · rw [q_s, q_n (by omega), efw]; exact hmk.2.1
  rw [if_neg h0] at efw
  refine br_f (fun e => h0 ((nI_eq (b := 0) (by omega) (by omega)).mp e)) ⟨hin, isReckoned_ok hκ ?_⟩
  have kk : kn T (fw T) k = (fw T k).1 := by unfold kn; rw [beq_false_of_ne h0, Bool.false_or]
  by_cases h3 : 3 ≤ kd T k ∧ kd T k ≤ 7
  · rw [if_pos h3] at efw ⊢
    have hB := hw.2.1
    have hC := hw.2.2.1
    have hBt : hBk (kd T k) = true := by unfold hBk; simp only [Bool.or_eq_true, Bool.and_eq_true, decide_eq_true_eq, beq_iff_eq]; omega
    have hCt : hCk (kd T k) = true := by unfold hCk; simp only [Bool.or_eq_true, Bool.and_eq_true, decide_eq_true_eq, beq_iff_eq]; omega
    rw [hBt] at hB
    rw [hCt] at hC
    obtain ⟨b, eb⟩ := Option.isSome_iff_exists.mp hB
    obtain ⟨d, ed⟩ := Option.isSome_iff_exists.mp hC
    have hb : b < k := hP k b (Or.inl eb)
    have hd : d < k := hP k d (Or.inr (Or.inl ed))
    rw [eb, ed] at efw
    simp only [oF_some] at efw
    have e16 : ∀ v, (sF σ 26 k v).1 16 k = nI b := fun v => by rw [q_n (by omega), hmk.2.2.1, eb]; rfl
    have e17 : ∀ v, (sF σ 26 k v).1 17 k = nI d := fun v => by rw [q_n (by omega), hmk.2.2.2, ed]; rfl
    have mtt : ∀ j, j ≤ k → mt T (sF σ 26 k 0) j := fun j hj => by
      have := (hm j hj).1
      unfold mt at this ⊢
      rw [q_n (by omega), q_n (by omega), q_n (by omega), q_n (by omega)]; exact this
    have f26 : ∀ j, j < k → (sF σ 26 k 0).1 26 j = fB (fw T j).1 := fun j hj => by rw [q_o (by omega)]; exact (hf j hj).1
    have f27 : ∀ j, j < k → kn T (fw T) j = true → (sF σ 26 k 0).1 27 j = (fw T j).2 := fun j hj => by rw [q_n (by omega)]; exact (hf j hj).2
    refine br_f (by decide) ⟨hin, ?_⟩
    rw [e16]
    refine isKnown_ok (by omega) (mtt b (by omega)) (f26 b hb) (hm b (by omega)).2.lt ?_
    rw [e17]
    cases kb : kn T (fw T) b with
    | false =>
      rw [kb, if_neg (fun q => by cases q.1)] at efw
      refine br_t rfl (h _ (F1 _) (lo26 _ (F1 _) (E1 _) ⟨?_, fun q => ?_⟩))
      · rw [q_s, efw]; rfl
      · rw [kk, efw] at q; cases q
    | true =>
      refine br_f (by decide) ⟨hin, isKnown_ok (by omega) (mtt d (by omega)) (f26 d hd) (hm d (by omega)).2.lt ?_⟩
      cases kc : kn T (fw T) d with
      | false =>
        rw [kc, if_neg (fun q => by cases q.2)] at efw
        refine br_t rfl (h _ (F1 _) (lo26 _ (F1 _) (E1 _) ⟨?_, fun q => ?_⟩))
        · rw [q_s, efw]; rfl
        · rw [kk, efw] at q; cases q
      | true =>
        rw [kb, kc, if_pos ⟨rfl, rfl⟩] at efw
        refine br_f (by decide) ⟨hin, by rw [e16]; exact q_in (by omega) (by omega), nm_e ⟨hin, by rw [e17]; exact q_in (by omega) (by omega), nm_e ⟨hin, ?_⟩⟩⟩
        rw [e16, e17, q_I (by omega), q_I (by omega), f27 b hb kb, f27 d hd kc]
        have g14' : ∀ v, (sF (sF σ 26 k 0) 26 k v).1 14 k = nI (kd T k) := fun v => by rw [q_n (by omega)]; exact g14 0
        by_cases h6 : kd T k = 6
        · refine br_t (by rw [g14, h6]; rfl) ?_
          by_cases hz : (fw T d).2 = 0
          · refine br_t hz ⟨hin, nm_e ⟨hin, ?_⟩⟩
            rw [g14']
            refine reckon_ok h3.1 h3.2 ⟨hin, nm_e (h _ (F3 _ _ _) (lo26 _ (F3 _ _ _) (E3 _ _ _) ⟨?_, fun q => ?_⟩))⟩
            · rw [q_n (by omega), q_s, efw, hz, h6]; rfl
            · rw [q_s, efw]
          · refine br_f hz ⟨hin, nm_e ⟨hin, ?_⟩⟩
            rw [g14']
            refine reckon_ok h3.1 h3.2 ⟨hin, nm_e (h _ (F3 _ _ _) (lo26 _ (F3 _ _ _) (E3 _ _ _) ⟨?_, fun q => ?_⟩))⟩
            · rw [q_n (by omega), q_s, efw, h6]
              have : ((fw T d).2 != 0) = true := bne_iff_ne.mpr hz
              rw [this]; rfl
            · rw [q_s, efw]
        · refine br_f (fun e => h6 ((nI_eq (b := 6) (by omega) (by omega)).mp ((g14 0).symm.trans e))) ⟨hin, nm_e ⟨hin, ?_⟩⟩
          rw [g14']
          refine reckon_ok h3.1 h3.2 ⟨hin, nm_e (h _ (F3 _ _ _) (lo26 _ (F3 _ _ _) (E3 _ _ _) ⟨?_, fun q => ?_⟩))⟩
          · rw [q_n (by omega), q_s, efw]
            have : (kd T k != 6) = true := bne_iff_ne.mpr h6
            rw [this]; rfl
          · rw [q_s, efw]
  · rw [if_neg h3] at efw ⊢
    refine br_t rfl (h _ (F1 _) (lo26 _ (F1 _) (E1 _) ⟨?_, fun q => ?_⟩))
    · rw [q_s, efw]; rfl
    · rw [kk, efw] at q; cases q
end PB
