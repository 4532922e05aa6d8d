section PQ
variable {T : TT} {N top : Nat} {σ τ : FS} {k t : Nat} {Φ : Int32 → FS → Prop} {Ψ : FS → Prop} {c cl : Int32}
/-- a run's state: place, operands, loops; the operands, the memory, labels, ends; steps, how many printed, what; over, trap, node, gave -/
abbrev MS := (Nat × Nat × Nat) × ((Nat → Int32) × (Nat → Int32) × (Nat → Int32) × (Nat → Nat)) × (Nat × Nat × (Nat → Int32) × (Nat → Int32) × (Nat → Int32)) × (Bool × Nat × Int32 × Int32)
def fnd (lab : Nat → Int32) (y : Int32) : Nat → Option Nat
  | 0 => none
  | r + 1 => if lab r = y then some r else fnd lab y r
def tN (x : Int32) : Nat := x.toNatClampNeg
def mTrap (m : MS) (oc w : Nat) (n : Int32) : MS := ((m.1.1, oc, m.1.2.2), m.2.1, m.2.2.1, (true, w, n, m.2.2.2.2.2.2))
def mPush (m : MS) (v : Int32) : MS := ((m.1.1, m.1.2.1 + 1, m.1.2.2), (fu m.2.1.1 m.1.2.1 v, m.2.1.2), m.2.2)
def mPop (m : MS) : MS := ((m.1.1, m.1.2.1 - 1, m.1.2.2), m.2)
def mTop (m : MS) : Int32 := m.2.1.1 (m.1.2.1 - 1)
def mGo (m : MS) (p : Nat) : MS := ((p, m.1.2), m.2)
def mMem (m : MS) (i : Nat) (v : Int32) : MS := (m.1, (m.2.1.1, fu m.2.1.2.1 i v, m.2.1.2.2), m.2.2)
def inA (x : Int32) : Bool := !(decide (x < 0)) && decide (x < 4)
def mOpen (m : MS) (x : Int32) (e : Nat) : MS := ((m.1.1, m.1.2.1, m.1.2.2 + 1), (m.2.1.1, m.2.1.2.1, fu m.2.1.2.2.1 m.1.2.2 x, fu m.2.1.2.2.2 m.1.2.2 e), m.2.2)
def mShut (m : MS) : MS := ((m.1.1, m.1.2.1, m.1.2.2 - 1), m.2)
def mLeave (m : MS) (y n : Int32) : MS := match fnd m.2.1.2.2.1 y m.1.2.2 with | none => mTrap m m.1.2.1 5 n | some r => ((m.2.1.2.2.2 r, 0, r + 1), m.2)
def mPrint (m : MS) (v n : Int32) : MS := (m.1, m.2.1, (m.2.2.1.1, m.2.2.1.2.1 + 1, if m.2.2.1.2.1 < 50 then (fu m.2.2.1.2.2.1 m.2.2.1.2.1 v, fu m.2.2.1.2.2.2.1 m.2.2.1.2.1 (nI m.2.2.1.1), fu m.2.2.1.2.2.2.2 m.2.2.1.2.1 n) else m.2.2.1.2.2), m.2.2.2)
def mBack (m : MS) : MS := (m.1, m.2.1, m.2.2.1, (true, m.2.2.2.2.1, m.2.2.2.2.2.1, mTop m))
def pf (q : QQ) (e : Nat) (m : MS) : MS :=
  if q.1 = 1 then mPush m q.2.1
  else if q.1 = 2 then mPush m (m.2.1.2.1 (tN q.2.2.1))
  else if q.1 = 3 then (if inA (mTop m) = true then mPush (mPop m) (m.2.1.2.1 (4 + tN (mTop m))) else mTrap m (m.1.2.1 - 1) 2 q.2.2.2)
  else if q.1 = 7 ∧ mTop m = 0 then mTrap m (m.1.2.1 - 1 - 1) 1 q.2.2.2
  else if q.1 = 4 ∨ q.1 = 5 ∨ q.1 = 6 ∨ q.1 = 7 ∨ q.1 = 8 then mPush (mPop (mPop m)) (rk (tN q.1 - 1) (mTop (mPop m)) (mTop m))
  else if q.1 = 19 then mMem (mPop m) (tN q.2.2.1) (mTop m)
  else if q.1 = 20 then (if inA (mTop (mPop m)) = true then mMem (mPop (mPop m)) (4 + tN (mTop (mPop m))) (mTop m) else mTrap m (m.1.2.1 - 1 - 1) 2 q.2.2.2)
  else if q.1 = 21 then (if mTop m = 0 then mGo (mPop m) (tN q.2.1) else mPop m)
  else if q.1 = 22 then mGo m (tN q.2.1)
  else if q.1 = 23 then mOpen m q.2.1 e
  else if q.1 = 24 then mShut m
  else if q.1 = 25 then mLeave m q.2.2.1 q.2.2.2
  else if q.1 = 26 then mPrint (mPop m) (mTop m) q.2.2.2
  else if q.1 = 15 then mBack m
  else m
theorem inA_y {x : Int32} (h : inA x = true) : ¬ x < 0 ∧ x < 4 ∧ ∃ j, j < 4 ∧ x = nI j := by
  unfold inA at h
  rw [Bool.and_eq_true, Bool.not_eq_true', decide_eq_false_iff_not, decide_eq_true_iff] at h
  obtain ⟨j, hj, e⟩ := nI_of h.1
  refine ⟨h.1, h.2, j, ?_, e⟩
  rw [e] at h
  exact (nI_ltI (b := 4) hj (by omega)).mp h.2
theorem inA_n {x : Int32} (h : inA x = false) (h0 : ¬ x < 0) : ¬ x < 4 := by
  unfold inA at h
  rw [decide_eq_false h0, Bool.not_false, Bool.true_and, decide_eq_false_iff_not] at h
  exact h
theorem inA_0 {x : Int32} (h : x < 0) : inA x = false := by
  unfold inA
  rw [decide_eq_true h]; rfl
/-- the node that is i-th to begin at a -/
def nz (T : TT) (top : Nat) : Nat → Nat → Nat → Option Nat
  | 0, _, _ => none
  | m + 1, a, i => if sT T false top m = a then (match i with | 0 => some m | i + 1 => nz T top m a i) else nz T top m a i
theorem nz_s {m a i : Nat} (h : sT T false top m = a) : nz T top (m + 1) a (i + 1) = nz T top m a i := if_pos h
theorem nz_0 {m a : Nat} (h : sT T false top m = a) : nz T top (m + 1) a 0 = some m := if_pos h
theorem nz_n {m a i : Nat} (h : ¬ sT T false top m = a) : nz T top (m + 1) a i = nz T top m a i := if_neg h
/-- what is told of a run -/
def Q5 (t st nu : Nat) (p0 p1 p2 : Nat → Int32) (tr : Nat) (tn gv : Int32) (τ : FS) : Prop := τ.1 t 3 = nI st ∧ τ.1 t 4 = nI nu ∧ (∀ i, i < nu → i < 50 → τ.1 (t + 1) i = p0 i ∧ τ.1 (t + 2) i = p1 i ∧ τ.1 (t + 3) i = p2 i) ∧
  τ.1 t 0 = nI tr ∧ τ.1 t 1 = tn ∧ τ.1 t 2 = (if tr = 0 then -1 else 0) ∧ τ.1 t 9 = gv
def Q5m (t : Nat) (m : MS) (τ : FS) : Prop := Q5 t m.2.2.1.1 m.2.2.1.2.1 m.2.2.1.2.2.1 m.2.2.1.2.2.2.1 m.2.2.1.2.2.2.2 m.2.2.2.2.1 m.2.2.2.2.2.1 m.2.2.2.2.2.2 τ
theorem Q5_fr {S : Nat → Bool} {st nu tr : Nat} {p0 p1 p2 : Nat → Int32} {tn gv : Int32} (h : Q5 t st nu p0 p1 p2 tr tn gv σ) (hF : Fr S σ τ) (h0 : S t = false) (h1 : S (t + 1) = false) (h2 : S (t + 2) = false) (h3 : S (t + 3) = false) : Q5 t st nu p0 p1 p2 tr tn gv τ := by
  unfold Q5 at h ⊢
  rw [hF.1 t h0, hF.1 _ h1, hF.1 _ h2, hF.1 _ h3]; exact h
/-- what stays as it is in a run: the program, its code, frame and return -/
def CX (T : TT) (c : Int32) (N top t : Nat) (cl : Int32) (τ : FS) : Prop := Ok T c N top τ ∧ CK T c false top 52 τ ∧ τ.1 65 13 = 0 ∧ (tb 70 3 1 τ ∧ τ.1 71 0 = 0 ∧ τ.1 71 2 = 0) ∧
  (tb 72 5 1 τ ∧ τ.1 73 0 = -1 ∧ τ.1 73 1 = -1 ∧ τ.1 73 4 = 0) ∧ (τ.1 t 5 = 1 ∧ τ.1 t 6 = cl ∧ τ.1 t 7 = 1 ∧ τ.1 t 8 = 1)
/-- what a step of a run may change -/
def SP (t a : Nat) : Bool := decide (a = 65 ∨ (67 ≤ a ∧ a ≤ 69) ∨ a = 74 ∨ a = 75 ∨ (t ≤ a ∧ a ≤ t + 3))
theorem SP_f {t a : Nat} (h : ¬ (a = 65 ∨ (67 ≤ a ∧ a ≤ 69) ∨ a = 74 ∨ a = 75 ∨ (t ≤ a ∧ a ≤ t + 3))) : SP t a = false := decide_eq_false h
theorem SP_t {t a : Nat} (h : a = 65 ∨ (67 ≤ a ∧ a ≤ 69) ∨ a = 74 ∨ a = 75 ∨ (t ≤ a ∧ a ≤ t + 3)) : SP t a = true := decide_eq_true h
def Kp (t : Nat) (σ τ : FS) : Prop := Fr (SP t) σ τ ∧ τ.1 65 13 = σ.1 65 13 ∧ ∀ j, 5 ≤ j → j ≤ 8 → τ.1 t j = σ.1 t j
theorem Kp.rf : Kp t σ σ := ⟨Fr.rf, rfl, fun _ _ _ => rfl⟩
theorem Kp.tr {ρ : FS} (h : Kp t σ τ) (h2 : Kp t τ ρ) : Kp t σ ρ := ⟨h.1.tr h2.1, h2.2.1.trans h.2.1, fun j a b => (h2.2.2 j a b).trans (h.2.2 j a b)⟩
theorem Kp.of {S : Nat → Bool} (h : Fr S σ τ) (hs : ∀ a, S a = true → (67 ≤ a ∧ a ≤ 69) ∨ a = 74 ∨ a = 75) (ht : 80 ≤ t) : Kp t σ τ := by
  have f : ∀ a, ¬ ((67 ≤ a ∧ a ≤ 69) ∨ a = 74 ∨ a = 75) → S a = false := fun a ha => by
    cases e : S a with
    | false => rfl
    | true => exact absurd (hs a e) ha
  refine ⟨h.mono (fun a ha => f a (by have := of_decide_eq_false ha; omega)), by rw [h.1 65 (f 65 (by omega))], fun j _ _ => by rw [h.1 t (f t (by omega))]⟩
theorem CX.kp (h : CX T c N top t cl σ) (ht : 80 ≤ t) (hk : Kp t σ τ) : CX T c N top t cl τ := by
  obtain ⟨h1, h2, h3, ⟨h4, h5, h6⟩, ⟨g1, g2, g3, g4⟩, e5, e6, e7, e8⟩ := h
  obtain ⟨hF, k13, k5⟩ := hk
  have x : ∀ a, 52 ≤ a → a ≤ 64 → τ.1 a = σ.1 a := fun a p q => hF.1 a (SP_f (by omega))
  refine ⟨h1.fr hF (fun a _ _ => SP_f (by omega)), ?_, k13.trans h3, ⟨tb_fr h4 hF (SP_f (by omega)), by rw [hF.1 71 (SP_f (by omega))]; exact h5, by rw [hF.1 71 (SP_f (by omega))]; exact h6⟩, ⟨tb_fr g1 hF (SP_f (by omega)), ?_, ?_, ?_⟩, (k5 5 (by omega) (by omega)).trans e5, (k5 6 (by omega) (by omega)).trans e6, (k5 7 (by omega) (by omega)).trans e7, (k5 8 (by omega) (by omega)).trans e8⟩
  · unfold CK Aq at h2 ⊢
    rw [x 52 (by omega) (by omega), x (52 + 1) (by omega) (by omega), x (52 + 2) (by omega) (by omega), x (52 + 3) (by omega) (by omega), x (52 + 4) (by omega) (by omega), x (52 + 5) (by omega) (by omega), x (52 + 6) (by omega) (by omega), x (52 + 7) (by omega) (by omega), x (52 + 8) (by omega) (by omega), x (52 + 9) (by omega) (by omega), x (52 + 10) (by omega) (by omega), x (52 + 11) (by omega) (by omega)]
    exact h2
  · rw [hF.1 73 (SP_f (by omega))]; exact g2
  · rw [hF.1 73 (SP_f (by omega))]; exact g3
  · rw [hF.1 73 (SP_f (by omega))]; exact g4
/-- a run's state in a world -/
def Qm (t : Nat) (m : MS) (τ : FS) : Prop := τ.1 65 12 = nI m.1.1 ∧ Q2 m.1.2.1 m.2.1.1 τ ∧ Q3 m.2.1.2.1 τ ∧ Q4 m.1.2.2 m.2.1.2.2.1 m.2.1.2.2.2 τ ∧ Q5m t m τ ∧ τ.1 65 16 = fB m.2.2.2.1
theorem trap_ok {w n st nu tr : Nat} {p0 p1 p2 : Nat → Int32} {tn gv : Int32} (ht : 80 ≤ t) (hn : n < 110) (hw : w ≠ 0) (h21 : σ.1 21 n = 0) (h5 : Q5 t st nu p0 p1 p2 tr tn gv σ)
    (h : ∀ τ, Kp t σ τ → τ.1 65 12 = σ.1 65 12 → Fr (fun a => a == 65 || a == t) σ τ → Q5 t st nu p0 p1 p2 w (nI n) gv τ → τ.1 65 16 = 1 → Ψ τ) : wp_X3_trap t σ (nI w) (nI n) Ψ := by
  obtain ⟨a3, a4, ap, a0, a1, a2, a9⟩ := h5
  have fT : ∀ a, a = 65 ∨ a = t → (a == 65 || a == t) = true := fun a p => by rcases p with p | p <;> rw [p] <;> simp
  unfold wp_X3_trap
  refine nm_e (nm_e ⟨q_in hn (by omega), nm_e (nm_e ?_)⟩)
  rw [q_I (by omega), q_n (by omega), q_n (by omega), h21]
  refine h _ ⟨(((Fr.rf.put (SP_t (by omega))).put (SP_t (by omega))).put (SP_t (by omega))).put (SP_t (by omega)), ?_, fun j j1 j2 => ?_⟩ ?_ ((((Fr.rf.put (fT _ (Or.inr rfl))).put (fT _ (Or.inr rfl))).put (fT _ (Or.inr rfl))).put (fT _ (Or.inl rfl))) ⟨?_, ?_, fun i i1 i2 => ?_, ?_, ?_, ?_, ?_⟩ ?_
  · rw [q_o (by omega), q_n (by omega), q_n (by omega), q_n (by omega)]
  · rw [q_n (by omega), q_o (by omega), q_o (by omega), q_o (by omega)]
  · rw [q_o (by omega), q_n (by omega), q_n (by omega), q_n (by omega)]
  · rw [q_n (by omega), q_o (by omega), q_o (by omega), q_o (by omega)]; exact a3
  · rw [q_n (by omega), q_o (by omega), q_o (by omega), q_o (by omega)]; exact a4
  · have e : ∀ x, t < x → (sF (sF (sF (sF σ t 0 (nI w)) t 1 (nI n)) t 2 0) 65 16 1).1 x = σ.1 x := fun x hx => by rw [q_n (by omega), q_n (by omega), q_n (by omega), q_n (by omega)]
    rw [e _ (by omega), e _ (by omega), e _ (by omega)]
    exact ap i i1 i2
  · rw [q_n (by omega), q_o (by omega), q_o (by omega), q_s]
  · rw [q_n (by omega), q_o (by omega), q_s]
  · rw [q_n (by omega), q_s, if_neg hw]
  · rw [q_n (by omega), q_o (by omega), q_o (by omega), q_o (by omega)]; exact a9
  · rw [q_s]
/-- the nodes that begin at a place -/
theorem begin_ok {a st nu tr most : Nat} {p0 p1 p2 : Nat → Int32} {tn gv : Int32} (ht : 80 ≤ t) (ha : a < ln T false top + 2) (hO : Ok T c N top σ) (hC : CK T c false top 52 σ) (hs : st ≤ most) (hm : most ≤ 3000) (h5 : Q5 t st nu p0 p1 p2 tr tn gv σ)
    (h1 : st + cb T false top (top + 1) a ≤ most → ∀ τ, Kp t σ τ → Fr (fun a => a == t) σ τ → Q5 t (st + cb T false top (top + 1) a) nu p0 p1 p2 tr tn gv τ → Φ 1 τ)
    (h0 : ∀ n, most < st + cb T false top (top + 1) a → nz T top (top + 1) a (most - st) = some n → ∀ τ, Kp t σ τ → Fr (fun a => a == 65 || a == t) σ τ → Q5 t most nu p0 p1 p2 6 (nI n) gv τ → τ.1 65 16 = 1 → Φ 0 τ) :
    wp_X3_begin t σ (nI a) (nI most) Φ := by
  have tr' := hO.tr
  have hN := hO.1.2.1
  have htN := hO.2.2.2.1
  have L := L_le (fl := false) tr'
  unfold wp_X3_begin
  refine ⟨q_in (by omega) (by omega), nm_e ?_⟩
  rw [q_I (by omega), (hC.2.2.2.2.1 a ha).1, i0]
  have key : ∀ m, m ≤ top + 1 → ∀ f l st' τ, m < f → l + cb T false top m a ≤ 110 → st' ≤ most → st' + cb T false top m a = st + cb T false top (top + 1) a → Kp t σ τ → Fr (fun a => a == t) σ τ → Q5 t st' nu p0 p1 p2 tr tn gv τ →
      (∀ i, nz T top m a i = nz T top (top + 1) a (st' - st + i)) → st ≤ st' → 
      wp_X3_begin_13 t (nI a) (nI most) Φ (fun (σ5 : FS) (_ : Int32) (_ : Int32) => Φ 1 σ5) f τ (nI l) (oI (fs T false top m a)) := by
    intro m
    induction m with
    | zero =>
      intro _ f l st' τ hf hl hst hsum hK hF hq _ _
      cases f with
      | zero => omega
      | succ f =>
        have e : cb T false top 0 a = 0 := rfl
        rw [e, Nat.add_zero] at hsum
        have hh := h1 (by omega) τ hK hF (by rw [← hsum]; exact hq)
        unfold wp_X3_begin_13
        exact ⟨fun _ => hh, fun _ => br_t rfl hh⟩
    | succ m ih =>
      intro hm1 f l st' τ hf hl hst hsum hK hF hq hnz hle
      cases f with
      | zero => omega
      | succ f =>
        have ecb : cb T false top (m + 1) a = cb T false top m a + (if (sT T false top m == a) = true then 1 else 0) := rfl
        by_cases e : sT T false top m = a
        · rw [if_pos (by rw [e]; exact beq_self_eq_true a)] at ecb
          have efs : fs T false top (m + 1) a = some m := by unfold fs; rw [if_pos e]
          rw [efs]
          unfold wp_X3_begin_13
          refine br_f (nI_ge (b := 110) (by omega) (by omega)) (br_f (q_m1 (by omega)) ?_)
          rw [hq.1]
          by_cases hlt : st' < most
          · refine br_t (nI_lt hlt (by omega)) (nm_e ⟨q_in (by omega) (by omega), nm_e ?_⟩)
            have e63 : (sF τ t 3 (nI st' + 1)).1 63 m = oI (fs T false top m a) := by
              rw [q_n (by omega), hF.1 63 (beq_false_of_ne (by omega)), (hC.2.2.2.1 m (by omega)).2.2, e]
            rw [show oI (some m) = nI m from rfl, q_I (by omega), e63, nI_1, nI_1]
            have K2 : Kp t τ (sF τ t 3 (nI (st' + 1))) := ⟨Fr.rf.put (SP_t (by omega)), by rw [q_n (by omega)], fun j j1 j2 => by rw [q_o (by omega)]⟩
            refine ih (by omega) f (l + 1) (st' + 1) _ (by omega) (by omega) hlt (by omega) (hK.tr K2) (hF.put (beq_self_eq_true t)) ?_ (fun i => ?_) (by omega)
            · obtain ⟨a3, a4, ap, a0, a1, a2, a9⟩ := hq
              refine ⟨q_s, by rw [q_o (by omega)]; exact a4, fun i i1 i2 => ?_, by rw [q_o (by omega)]; exact a0, by rw [q_o (by omega)]; exact a1, by rw [q_o (by omega)]; exact a2, by rw [q_o (by omega)]; exact a9⟩
              rw [q_n (by omega), q_n (by omega), q_n (by omega)]; exact ap i i1 i2
            · have := hnz (i + 1)
              rw [nz_s e] at this
              rw [show st' + 1 - st + i = st' - st + (i + 1) by omega, ← this]
          · have est : st' = most := by omega
            refine br_f (nI_nlt (by omega) (by omega)) ?_
            rw [show (6 : Int32) = nI 6 by decide, show oI (some m) = nI m from rfl]
            have e21 : τ.1 21 m = 0 := by
              rw [hF.1 21 (beq_false_of_ne (by omega)), (hO.2.2.1.1 m (by omega)).1, iT_k (by omega)]; rfl
            refine trap_ok ht (by omega) (by omega) e21 hq (fun ρ K2 _ F2 q2 q16 => h0 m (by omega) ?_ ρ (hK.tr K2) ?_ (by rw [← est]; exact q2) q16)
            · have := hnz 0
              rw [nz_0 e, Nat.add_zero, est] at this
              exact this.symm
            · refine (hF.mono (fun a ha => ?_)).tr F2
              exact (Bool.or_eq_false_iff.mp ha).2
        · rw [if_neg (by rw [beq_false_of_ne e]; exact Bool.false_ne_true), Nat.add_zero] at ecb
          have efs : fs T false top (m + 1) a = fs T false top m a := by unfold fs; rw [if_neg e]; cases m <;> rfl
          rw [efs]
          refine ih (by omega) (f + 1) l st' τ (by omega) (by omega) hst (by omega) hK hF hq (fun i => ?_) hle
          have := hnz i
          rw [nz_n e] at this
          exact this
  have hcb := ct_le (fun j => sT T false top j == a) (top + 1)
  exact key (top + 1) (Nat.le_refl _) FUEL 0 st σ (FUEL_le (by omega)) (by show 0 + ct _ _ ≤ 110; omega) hs rfl Kp.rf Fr.rf h5 (fun i => by rw [Nat.sub_self, Nat.zero_add]) (Nat.le_refl _)
end PQ
