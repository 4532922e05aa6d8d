section PT
variable {T : TT} {N top : Nat} {σ σ0 τ : FS} {k t a : Nat} {Φ : Int32 → FS → Prop} {Ψ : FS → Prop} {c cl : Int32} {most : Nat}
/-- a state that fits its place -/
def TI (T : TT) (c : Int32) (top : Nat) (m : MS) : Prop := m.1.1 < ln T false top + 2 ∧ (m.1.2.1 : Int) = dS T c top m.1.1 ∧ (m.1.2.2 : Int) = lS T c top m.1.1 ∧ m.2.1.2.1 2 = 4 ∧
  ∀ r, r < m.1.2.2 → m.2.1.2.2.2 r < ln T false top ∧ dS T c top (m.2.1.2.2.2 r) = 0 ∧ lS T c top (m.2.1.2.2.2 r) = (r : Int) + 1
/-- begun: the place is one on, the steps are counted -/
def mBegin (T : TT) (top : Nat) (m : MS) : MS := ((m.1.1 + 1, m.1.2), m.2.1, (m.2.2.1.1 + cb T false top (top + 1) m.1.1, m.2.2.1.2), m.2.2.2)
theorem fnd_lt {lab : Nat → Int32} {y : Int32} : ∀ {n r : Nat}, fnd lab y n = some r → r < n := by
  intro n
  induction n with
  | zero => intro r h; cases h
  | succ n ih =>
    intro r h
    unfold fnd at h
    by_cases e : lab n = y
    · rw [if_pos e] at h; cases h; omega
    · rw [if_neg e] at h; have := ih h; omega
theorem mLeave_some {m : MS} {y n : Int32} {r : Nat} (h : fnd m.2.1.2.2.1 y m.1.2.2 = some r) : mLeave m y n = ((m.2.1.2.2.2 r, 0, r + 1), m.2) := by unfold mLeave; rw [h]
theorem mLeave_none {m : MS} {y n : Int32} (h : fnd m.2.1.2.2.1 y m.1.2.2 = none) : mLeave m y n = mTrap m m.1.2.1 5 n := by unfold mLeave; rw [h]
theorem TI_step {m m1 : MS} {o x y : Int32} (tr : TR T top) (h12 : 12 ≤ kd T top) (h : TI T c top m) (e1 : m1 = mBegin T top m) (ha : m.1.1 < ln T false top) (hk : k ≤ top) (eI : Ic T c top m.1.1 = (o, x, y, nI k)) (hT : TY T c top m.1.1 k o x y)
    (hv : (pf (o, x, y, nI k) (eT T false top k) m1).2.2.2.1 = false) : TI T c top (pf (o, x, y, nI k) (eT T false top k) m1) := by
  obtain ⟨⟨pc, oc, lc⟩, ⟨ops, mem, lab, sh⟩, ⟨st, nu, p0, p1, p2⟩, ⟨ov, trp, tn, gv⟩⟩ := m
  obtain ⟨t1, t2, t3, t4, t5⟩ := h
  have ha : pc < ln T false top := ha
  have t2 : (oc : Int) = dS T c top pc := t2
  have t3 : (lc : Int) = lS T c top pc := t3
  have t4 : mem 2 = 4 := t4
  have t5 : ∀ r, r < lc → sh r < ln T false top ∧ dS T c top (sh r) = 0 ∧ lS T c top (sh r) = (r : Int) + 1 := t5
  have eI : Ic T c top pc = (o, x, y, nI k) := eI
  have hT : TY T c top pc k o x y := hT
  have L := L_le (fl := false) tr
  subst e1
  have bd := dbd (c := c) tr h12 (a := pc) (by omega)
  have sm : ∀ {f : Nat → Int32} {i : Nat} {v : Int32}, i ≠ 2 → f 2 = 4 → fu f i v 2 = 4 := fun hi hf => by rw [fu_o (Ne.symm hi)]; exact hf
  rcases hT with e | ⟨e, ex, hy⟩ | ⟨e, ex, ey, en, en2, hd⟩ | ⟨⟨κ, h3, h7, e⟩, hd⟩ | ⟨e, ex, hy, hd⟩ | ⟨e, ex, ey, hd⟩ | ⟨e, hd, p, ep, hp, d1, d2⟩ | ⟨e, p, ep, hp, d1, d2⟩ | ⟨e, hd, hs, hs1, d1, d2⟩ | ⟨e, hd⟩ | ⟨e, ex, hd⟩ | ⟨e, hd⟩
  · subst e
    have u := dS_o eI (v := 1) (w := 0) (by decide) (by decide)
    exact ⟨by show pc + 1 < _; omega, by show ((oc + 1 : Nat) : Int) = dS T c top (pc + 1); omega, by show (lc : Int) = lS T c top (pc + 1); omega, t4, t5⟩
  · subst e
    have u := dS_o eI (v := 1) (w := 0) (by decide) (by decide)
    exact ⟨by show pc + 1 < _; omega, by show ((oc + 1 : Nat) : Int) = dS T c top (pc + 1); omega, by show (lc : Int) = lS T c top (pc + 1); omega, t4, t5⟩
  · subst e
    have u := dS_o eI (v := 0) (w := 0) (by decide) (by decide)
    rw [pf_3] at hv ⊢
    split
    · exact ⟨by show pc + 1 < _; omega, by show ((oc - 1 + 1 : Nat) : Int) = dS T c top (pc + 1); omega, by show (lc : Int) = lS T c top (pc + 1); omega, t4, t5⟩
    · rename_i hi; rw [if_neg hi] at hv; cases hv
  · subst e
    have ek := eff_k h3 h7
    have u := dS_o eI ek.1 ek.2
    rw [pf_r h3 h7] at hv ⊢
    split
    · rename_i hi; rw [if_pos hi] at hv; cases hv
    · exact ⟨by show pc + 1 < _; omega, by show ((oc - 1 - 1 + 1 : Nat) : Int) = dS T c top (pc + 1); omega, by show (lc : Int) = lS T c top (pc + 1); omega, t4, t5⟩
  · subst e
    have u := dS_o eI (v := -1) (w := 0) (by decide) (by decide)
    obtain ⟨v, ev, v8, v2, vt⟩ := isC_v hy
    exact ⟨by show pc + 1 < _; omega, by show ((oc - 1 : Nat) : Int) = dS T c top (pc + 1); omega, by show (lc : Int) = lS T c top (pc + 1); omega, by show fu mem (tN y) _ 2 = 4; exact sm (by omega) t4, t5⟩
  · subst e
    have u := dS_o eI (v := -2) (w := 0) (by decide) (by decide)
    rw [pf_20] at hv ⊢
    split
    · exact ⟨by show pc + 1 < _; omega, by show ((oc - 1 - 1 : Nat) : Int) = dS T c top (pc + 1); omega, by show (lc : Int) = lS T c top (pc + 1); omega, sm (by omega) t4, t5⟩
    · rename_i hi; rw [if_neg hi] at hv; cases hv
  · subst e
    have u := dS_o eI (v := -1) (w := 0) (by decide) (by decide)
    rw [pf_21]
    split
    · rw [ep, show tN (nI p) = p from nI_clamp (by omega)]
      exact ⟨by show p < _; omega, by show ((oc - 1 : Nat) : Int) = dS T c top p; omega, by show (lc : Int) = lS T c top p; omega, t4, t5⟩
    · exact ⟨by show pc + 1 < _; omega, by show ((oc - 1 : Nat) : Int) = dS T c top (pc + 1); omega, by show (lc : Int) = lS T c top (pc + 1); omega, t4, t5⟩
  · subst e
    rw [pf_22, ep, show tN (nI p) = p from nI_clamp (by omega)]
    exact ⟨by show p < _; omega, by show (oc : Int) = dS T c top p; omega, by show (lc : Int) = lS T c top p; omega, t4, t5⟩
  · subst e
    have u := dS_o eI (v := 0) (w := 1) (by decide) (by decide)
    rw [pf_23]
    refine ⟨by show pc + 1 < _; omega, by show (oc : Int) = dS T c top (pc + 1); omega, by show ((lc + 1 : Nat) : Int) = lS T c top (pc + 1); omega, t4, fun r hr => ?_⟩
    show fu sh lc (eT T false top k) r < _ ∧ dS T c top (fu sh lc (eT T false top k) r) = 0 ∧ lS T c top (fu sh lc (eT T false top k) r) = _
    by_cases e : r = lc
    · rw [e, fu_s]
      have : eT T false top k < ln T false top := by unfold eT; omega
      exact ⟨this, d1, by omega⟩
    · rw [fu_o e]
      have hr' : r < lc + 1 := hr
      exact t5 r (by omega)
  · subst e
    have u := dS_o eI (v := 0) (w := -1) (by decide) (by decide)
    rw [pf_24]
    exact ⟨by show pc + 1 < _; omega, by show (oc : Int) = dS T c top (pc + 1); omega, by show ((lc - 1 : Nat) : Int) = lS T c top (pc + 1); omega, t4, fun r hr => t5 r (by have hr' : r < lc - 1 := hr; omega)⟩
  · subst e
    rw [pf_25] at hv ⊢
    cases ef : fnd lab y lc with
    | none =>
      rw [mLeave_none (m := mBegin T top ((pc, oc, lc), (ops, mem, lab, sh), (st, nu, p0, p1, p2), ov, trp, tn, gv)) ef] at hv
      cases hv
    | some r =>
      have hr := fnd_lt ef
      obtain ⟨s1, s2, s3⟩ := t5 r hr
      rw [mLeave_some (m := mBegin T top ((pc, oc, lc), (ops, mem, lab, sh), (st, nu, p0, p1, p2), ov, trp, tn, gv)) ef]
      exact ⟨by show sh r < _; omega, by show ((0 : Nat) : Int) = dS T c top (sh r); omega, by show ((r + 1 : Nat) : Int) = lS T c top (sh r); omega, t4, fun r' hr' => t5 r' (by have hr' : r' < r + 1 := hr'; omega)⟩
  · subst e
    have u := dS_o eI (v := -1) (w := 0) (by decide) (by decide)
    rw [pf_26]
    exact ⟨by show pc + 1 < _; omega, by show ((oc - 1 : Nat) : Int) = dS T c top (pc + 1); omega, by show (lc : Int) = lS T c top (pc + 1); omega, t4, t5⟩
/-- a turn, with no more than most steps -/
def stp (T : TT) (c : Int32) (top most : Nat) (m : MS) : MS :=
  if m.2.2.2.1 = true then m
  else if m.2.2.1.1 + cb T false top (top + 1) m.1.1 ≤ most then pf (Ic T c top m.1.1) (eT T false top (tN (Ic T c top m.1.1).2.2.2)) (mBegin T top m)
  else (m.1, m.2.1, (most, m.2.2.1.2), (true, 6, oI (nz T top (top + 1) m.1.1 (most - m.2.2.1.1)), m.2.2.2.2.2.2))
def it (f : MS → MS) : Nat → MS → MS
  | 0, m => m
  | n + 1, m => f (it f n m)
/-- the first state: all is empty -/
def m00 : MS := ((0, 0, 0), ((fun _ => 0), fu (fun _ => 0) 2 4, (fun _ => 0), (fun _ => 0)), (0, 0, (fun _ => 0), (fun _ => 0), (fun _ => 0)), (false, 0, -1, 0))
theorem stp_over {m : MS} (h : m.2.2.2.1 = true) : stp T c top most m = m := if_pos h
theorem it_over {m : MS} {i : Nat} (h : (it (stp T c top most) i m).2.2.2.1 = true) : ∀ d, it (stp T c top most) (i + d) m = it (stp T c top most) i m := by
  intro d
  induction d with
  | zero => rfl
  | succ d ih =>
    show stp T c top most (it (stp T c top most) (i + d) m) = _
    rw [ih, stp_over h]
/-- the Tables keep their widths -/
def WT (τ : FS) : Prop := (∃ n, n < 2 ^ 30 ∧ tb 66 2 n τ) ∧ (∃ n, n < 2 ^ 30 ∧ tb 68 2 n τ) ∧ (∃ n, n < 2 ^ 30 ∧ tb 70 3 n τ) ∧ (∃ n, n < 2 ^ 30 ∧ tb 72 5 n τ) ∧ (∃ n, n < 2 ^ 30 ∧ tb 74 5 n τ)
def SX (t a : Nat) : Bool := decide ((52 ≤ a ∧ a ≤ 75) ∨ (t ≤ a ∧ a ≤ t + 3))
theorem SX_f {t a : Nat} (h : ¬ ((52 ≤ a ∧ a ≤ 75) ∨ (t ≤ a ∧ a ≤ t + 3))) : SX t a = false := decide_eq_false h
theorem SX_t {t a : Nat} (h : (52 ≤ a ∧ a ≤ 75) ∨ (t ≤ a ∧ a ≤ t + 3)) : SX t a = true := decide_eq_true h
theorem SPX {t : Nat} : ∀ a, SX t a = false → SP t a = false := fun a ha => SP_f (by have := of_decide_eq_false ha; omega)
/-- how a world stands behind a run -/
def OutR (T : TT) (c cl : Int32) (top t : Nat) (σ0 : FS) (m : MS) (τ : FS) : Prop := Fr (SX t) σ0 τ ∧ τ.1 52 3 = 0 ∧ CK T c false top 52 τ ∧ WT τ ∧ Q5m t m τ ∧ τ.1 t 5 = 1 ∧ τ.1 t 6 = cl ∧ τ.1 t 7 = 1 ∧ τ.1 t 8 = 1
def RunR (T : TT) (c cl : Int32) (N top t most : Nat) (σ0 : FS) (i : Nat) (m : MS) (τ : FS) : Prop := Fr (SX t) σ0 τ ∧ τ.1 52 3 = 0 ∧ CX T c N top t cl τ ∧ Qm t m τ ∧ m.2.2.2.1 = false ∧ TI T c top m ∧ m.2.2.1.1 ≤ most ∧ m.2.2.1.2.1 ≤ i
theorem RunR.out {m : MS} (hF : Fr (SX t) σ0 τ) (h3 : τ.1 52 3 = 0) (hC : CX T c N top t cl τ) (hQ : Qm t m τ) : OutR T c cl top t σ0 m τ := by
  obtain ⟨-, q2, q3, q4, q5, -⟩ := hQ
  obtain ⟨-, ck, -, ⟨f1, -, -⟩, ⟨g1, -, -, -⟩, e5, e6, e7, e8⟩ := hC
  refine ⟨hF, h3, ck, ⟨⟨8, by omega, q3.1⟩, ⟨m.1.2.1, by have := q2.2.1; omega, q2.1⟩, ⟨1, by omega, f1⟩, ⟨1, by omega, g1⟩, ⟨m.1.2.2, by have := q4.2.1; omega, q4.1⟩⟩, q5, e5, e6, e7, e8⟩
theorem CK_fr {S : Nat → Bool} (h : CK T c false top 52 σ) (hF : Fr S σ τ) (hs : ∀ a, 52 ≤ a → a ≤ 64 → S a = false) : CK T c false top 52 τ := by
  have x : ∀ a, 52 ≤ a → a ≤ 64 → τ.1 a = σ.1 a := fun a p q => hF.1 a (hs a p q)
  unfold CK Aq at h ⊢
  rw [x 52 (by omega) (by omega), x (52 + 1) (by omega) (by omega), x (52 + 2) (by omega) (by omega), x (52 + 3) (by omega) (by omega), x (52 + 4) (by omega) (by omega), x (52 + 5) (by omega) (by omega), x (52 + 6) (by omega) (by omega), x (52 + 7) (by omega) (by omega), x (52 + 8) (by omega) (by omega), x (52 + 9) (by omega) (by omega), x (52 + 10) (by omega) (by omega), x (52 + 11) (by omega) (by omega)]
  exact h
theorem rat {b N w cnt r q : Nat} (hT : tb b w cnt σ) (h1 : r < cnt) (h2 : q < w) (hN : r * w + q < N) (hN1 : N < 2 ^ 31) (hc : cnt < 2 ^ 31) (hw : w < 2 ^ 31) {v : Int32} (hv : σ.1 (b + 1) (r * w + q) = v) (h : Φ v σ) : wp_X7_at b N σ (nI r) (nI q) Φ := at_ok hT h1 h2 hN hN1 hc hw (by rw [hv]; exact h)
/-- the end of the code -/
theorem p_back {m : MS} (ht : 80 ≤ t) (hF : Fr (SX t) σ0 σ) (h3 : σ.1 52 3 = 0) (hC : CX T c N top t cl σ) (hQ : Qm t m σ) (ho : m.1.2.1 = 1)
    (h : ∀ τ, τ.1 65 16 = 1 → OutR T c cl top t σ0 (mBack m) τ → Ψ τ) : wp_X3_goBack t σ Ψ := by
  obtain ⟨h1, h2, h3', h4, h5, h6⟩ := hQ
  have hC' := hC
  obtain ⟨-, ck, -, ⟨f1, -, -⟩, ⟨g1, g2, g3, g4⟩, e5, e6, e7, e8⟩ := hC'
  unfold wp_X3_goBack
  refine nm_e ?_
  rw [g1.2, nI_m1 (by omega), show nI (1 - 1) = nI 0 from rfl]
  have F1 : ∀ v, Fr (fun a => a == 65) σ (sF σ 65 12 v) := fun v => Fr.rf.put rfl
  have p1 : wp_X7_at 72 320 σ (nI 0) (nI 0) (fun (x3 : Int32) (σ2 : FS) => ∀ σ4 : FS, σ4 = sF σ2 65 12 x3 → wp_X7_at 72 320 σ4 (nI 0) (nI 1) (fun (x6 : Int32) (σ5 : FS) => ∀ σ7 : FS, σ7 = sF σ5 65 13 x6 → wp_X7_at 72 320 σ7 (nI 0) (nI 2) (fun (x9 : Int32) (σ8 : FS) => ∀ σ10 : FS, σ10 = sF σ8 65 14 x9 → wp_X7_at 72 320 σ10 (nI 0) (nI 3) (fun (x12 : Int32) (σ11 : FS) => ∀ σ13 : FS, σ13 = sF σ11 65 15 x12 → wp_X7_at 72 320 σ13 (nI 0) (nI 4) (fun (x15 : Int32) (σ14 : FS) => wp_X7_cut 74 320 σ14 x15 (fun (σ16 : FS) => wp_X7_cut 72 320 σ16 (nI 0) (fun (σ17 : FS) => ((nI 0 = 0 → wp_X3_pop σ17 (fun (x19 : Int32) (σ18 : FS) => ∀ σ20 : FS, σ20 = sF σ18 t 9 x19 → ∀ σ21 : FS, σ21 = sF σ20 65 16 1 → Ψ σ21)) ∧ (¬ (nI 0 = 0) → Ψ σ17))))))))) := by
    refine at_ok g1 (by omega) (by omega) (by omega) (by omega) (by omega) (by omega) (nm_e ?_)
    refine at_ok (w := 5) (cnt := 1) ⟨by rw [q_n (by omega)]; exact g1.1, by rw [q_n (by omega)]; exact g1.2⟩ (by omega) (by omega) (by omega) (by omega) (by omega) (by omega) (nm_e ?_)
    refine at_ok (w := 5) (cnt := 1) ⟨by rw [q_n (by omega), q_n (by omega)]; exact g1.1, by rw [q_n (by omega), q_n (by omega)]; exact g1.2⟩ (by omega) (by omega) (by omega) (by omega) (by omega) (by omega) (nm_e ?_)
    refine at_ok (w := 5) (cnt := 1) ⟨by rw [q_n (by omega), q_n (by omega), q_n (by omega)]; exact g1.1, by rw [q_n (by omega), q_n (by omega), q_n (by omega)]; exact g1.2⟩ (by omega) (by omega) (by omega) (by omega) (by omega) (by omega) (nm_e ?_)
    refine rat (w := 5) (cnt := 1) (v := 0) ⟨by rw [q_n (by omega), q_n (by omega), q_n (by omega), q_n (by omega)]; exact g1.1, by rw [q_n (by omega), q_n (by omega), q_n (by omega), q_n (by omega)]; exact g1.2⟩ (by omega) (by omega) (by omega) (by omega) (by omega) (by omega) ?_ ?_
    · rw [q_n (by omega), q_n (by omega), q_n (by omega), q_n (by omega)]; exact g4
    have G : ∀ v1 v2 v3 v4, Fr (fun a => a == 65) σ (sF (sF (sF (sF σ 65 12 v1) 65 13 v2) 65 14 v3) 65 15 v4) := fun v1 v2 v3 v4 => (((Fr.rf.put rfl).put rfl).put rfl).put rfl
    rw [i0]
    refine cut_ok (w := 5) (cnt := m.1.2.2) (tb_fr h4.1 (G _ _ _ _) rfl) (Nat.zero_le _) (by have := h4.2.1; omega) (fun τ1 H1 T1 => ?_)
    refine cut_ok (w := 5) (cnt := 1) (tb_fr (tb_fr g1 (G _ _ _ _) rfl) H1 rfl) (Nat.zero_le _) (by omega) (fun τ2 H2 T2 => br_t rfl ?_)
    have q2 : Q2 m.1.2.1 m.2.1.1 τ2 := Q2_fr (Q2_fr (Q2_fr h2 (G _ _ _ _) rfl rfl) H1 rfl rfl) H2 rfl rfl
    obtain ⟨⟨pc, oc, lc⟩, ⟨ops, mem, lab, sh⟩, ⟨st, nu, p0, p1, p2⟩, ⟨ov, tr, tn, gv⟩⟩ := m
    have ho : oc = 1 := ho
    subst ho
    refine pop_ok (oc := 0) (ops := ops) q2 (fun τ3 H3 q2' => nm_e (nm_e ?_))
    have S : Fr (fun a => decide (a = 65 ∨ a = 68 ∨ a = 72 ∨ a = 74)) σ τ3 := ((((G _ _ _ _).mono (fun a ha => beq_false_of_ne (by have := of_decide_eq_false ha; omega))).tr (H1.mono (fun a ha => beq_false_of_ne (by have := of_decide_eq_false ha; omega)))).tr (H2.mono (fun a ha => beq_false_of_ne (by have := of_decide_eq_false ha; omega)))).tr (H3.mono (fun a ha => beq_false_of_ne (by have := of_decide_eq_false ha; omega)))
    have sf : ∀ a, ¬ (a = 65 ∨ a = 68 ∨ a = 72 ∨ a = 74) → (fun a => decide (a = 65 ∨ a = 68 ∨ a = 72 ∨ a = 74)) a = false := fun a ha => decide_eq_false ha
    have S2 : Fr (fun a => decide (a = 65 ∨ a = 68 ∨ a = 72 ∨ a = 74 ∨ a = t)) σ (sF (sF τ3 t 9 (ops 0)) 65 16 1) := ((S.mono (fun a ha => sf a (by have := of_decide_eq_false ha; omega))).put (decide_eq_true (by omega))).put (decide_eq_true (by omega))
    have sf2 : ∀ a, ¬ (a = 65 ∨ a = 68 ∨ a = 72 ∨ a = 74 ∨ a = t) → (fun a => decide (a = 65 ∨ a = 68 ∨ a = 72 ∨ a = 74 ∨ a = t)) a = false := fun a ha => decide_eq_false ha
    have et : ∀ j, j ≠ 9 → (sF (sF τ3 t 9 (ops 0)) 65 16 1).1 t j = σ.1 t j := fun j hj => by rw [q_n (by omega), q_o hj, S.1 t (sf _ (by omega))]
    refine h _ q_s ⟨hF.tr (S2.mono (fun a ha => sf2 a (by have := of_decide_eq_false ha; omega))), ?_, CK_fr ck S2 (fun a a1 a2 => sf2 a (by omega)), ⟨⟨8, by omega, tb_fr h3'.1 S2 (sf2 _ (by omega))⟩, ⟨0, by omega, ?_⟩, ⟨1, by omega, tb_fr f1 S2 (sf2 _ (by omega))⟩, ⟨0, by omega, ?_⟩, ⟨0, by omega, ?_⟩⟩, ?_, ?_, ?_, ?_, ?_⟩
    · rw [S2.1 52 (sf2 _ (by omega))]; exact h3
    · have := q2'.1
      exact ⟨by rw [q_n (by omega), q_n (by omega)]; exact this.1, by rw [q_n (by omega), q_n (by omega)]; exact this.2⟩
    · have := tb_fr T2 H3 rfl
      exact ⟨by rw [q_n (by omega), q_n (by omega)]; exact this.1, by rw [q_n (by omega), q_n (by omega)]; exact this.2⟩
    · have := tb_fr (tb_fr T1 H2 rfl) H3 rfl
      exact ⟨by rw [q_n (by omega), q_n (by omega)]; exact this.1, by rw [q_n (by omega), q_n (by omega)]; exact this.2⟩
    · obtain ⟨b3, b4, bp, b0, b1, b2, b9⟩ := h5
      refine ⟨by rw [et 3 (by omega)]; exact b3, by rw [et 4 (by omega)]; exact b4, fun i i1 i2 => ?_, by rw [et 0 (by omega)]; exact b0, by rw [et 1 (by omega)]; exact b1, by rw [et 2 (by omega)]; exact b2, ?_⟩
      · rw [S2.1 (t + 1) (sf2 _ (by omega)), S2.1 (t + 2) (sf2 _ (by omega)), S2.1 (t + 3) (sf2 _ (by omega))]; exact bp i i1 i2
      · rw [q_n (by omega), q_s]; rfl
    · rw [et 5 (by omega)]; exact e5
    · rw [et 6 (by omega)]; exact e6
    · rw [et 7 (by omega)]; exact e7
    · rw [et 8 (by omega)]; exact e8
  exact p1
end PT
