section QC1
variable {T T' : TT} {n d : Nat} {σ τ : FS} {k : Nat} {Φ : Int32 → FS → Prop} {c : Int32} {ga : SG}
/-- a root: an expression or a statement from l on, part of nothing -/
def Rt (e : Bool) (T : TT) (n : Nat) (σ : FS) (r l : Nat) : Prop := r < n ∧ (if e = true then kd T r < 8 else 12 ≤ kd T r) ∧ lo T r = l ∧ σ.1 18 r = -1
/-- what a new node is -/
theorem wf_mk {κ : Nat} {a : Int32} {pb pc pa : Option Nat} {l : Nat} (hκ : okK κ = true) (hb : pb.isSome = hBk κ) (hc : pc.isSome = hCk κ) (ha : pa.isSome = true → κ = 15)
    (h1 : ∀ p, pa = some p → p + 1 = n ∧ 12 ≤ kd T p) (h2 : ∀ p, pc = some p → p + 1 = oF pa n (lo T) ∧ (if κ = 12 ∨ κ = 15 ∨ κ = 16 then 12 ≤ kd T p else kd T p < 8))
    (h3 : ∀ p, pb = some p → p + 1 = oF pc (oF pa n (lo T)) (lo T) ∧ (if κ = 12 then 12 ≤ kd T p else kd T p < 8)) (hl : l = oF pb (oF pc (oF pa n (lo T)) (lo T)) (lo T)) (hln : l ≤ n)
    (hlt : ∀ p, pb = some p ∨ pc = some p ∨ pa = some p → p < n)
    (hn : nmK κ = true → ∃ j, a = nI j ∧ j < 5 ∧ (κ = 1 → j ≠ 2) ∧ (κ = 2 ∨ κ = 14 → j = 2) ∧ (κ = 13 → j ≠ 2 ∧ j ≠ 3)) (h15 : κ = 15 → a = oI pa) : WF (fu T n (rcd κ a pb pc pa l)) n := by
  have eK : kd (fu T n (rcd κ a pb pc pa l)) n = κ := by unfold kd; rw [fu_T]
  have eV : av (fu T n (rcd κ a pb pc pa l)) n = a := by unfold av; rw [fu_T]
  have eB' : pB (fu T n (rcd κ a pb pc pa l)) n = pb := by unfold pB; rw [fu_T]
  have eC' : pC (fu T n (rcd κ a pb pc pa l)) n = pc := by unfold pC; rw [fu_T]
  have eA' : pA (fu T n (rcd κ a pb pc pa l)) n = pa := by unfold pA; rw [fu_T]
  have eL : lo (fu T n (rcd κ a pb pc pa l)) n = l := by unfold lo; rw [fu_T]
  have kp : ∀ p, p < n → kd (fu T n (rcd κ a pb pc pa l)) p = kd T p := fun p hp => by unfold kd; rw [fu_o (by omega)]
  have lp : ∀ p, p < n → lo (fu T n (rcd κ a pb pc pa l)) p = lo T p := fun p hp => by unfold lo; rw [fu_o (by omega)]
  have xA : eA (fu T n (rcd κ a pb pc pa l)) n = oF pa n (lo T) := by unfold eA; rw [eA']; exact oF_c (fun p hp => lp p (hlt p (Or.inr (Or.inr hp))))
  have xC : eC (fu T n (rcd κ a pb pc pa l)) n = oF pc (oF pa n (lo T)) (lo T) := by unfold eC; rw [eC', xA]; exact oF_c (fun p hp => lp p (hlt p (Or.inr (Or.inl hp))))
  have xB : eB (fu T n (rcd κ a pb pc pa l)) n = oF pb (oF pc (oF pa n (lo T)) (lo T)) (lo T) := by unfold eB; rw [eB', xC]; exact oF_c (fun p hp => lp p (hlt p (Or.inl hp)))
  unfold WF nm
  rw [eK, eV, eB', eC', eA', eL, xA, xC, xB]
  refine ⟨hκ, hb, hc, ha, ⟨fun p hp => ?_, fun p hp => ?_, fun p hp => ?_, hl, hln⟩, fun q => ?_, h15⟩
  · rw [kp p (hlt p (Or.inr (Or.inr hp)))]; exact h1 p hp
  · rw [kp p (hlt p (Or.inr (Or.inl hp)))]; exact h2 p hp
  · rw [kp p (hlt p (Or.inl hp))]; exact h3 p hp
  · obtain ⟨j, e, j5, j1, j2, j3⟩ := hn q
    rw [e, nI_clamp (by omega)]
    exact ⟨rfl, j5, j1, j2, j3⟩
/-- a step: a node more, its record, and the others as they were -/
def Ad (T : TT) (n d : Nat) (c : Int32) (σ : FS) (r : (Nat × Int32) × (Option Nat × Option Nat × Option Nat) × Nat) (T' : TT) (τ : FS) : Prop :=
  Gn T' (n + 1) d c τ ∧ (∀ k, k < n → T' k = T k) ∧ T' n = r ∧ τ.1 18 n = -1 ∧ ∀ j, j < n → ¬ (r.2.1.1 = some j ∨ r.2.1.2.1 = some j ∨ r.2.1.2.2 = some j) → τ.1 18 j = σ.1 18 j
theorem mk {κ : Nat} {a : Int32} {pb pc pa : Option Nat} {l : Nat} (hG : Gn T n d c σ) (hn : n < 110) (hκ : okK κ = true) (hA : arg1 T n σ κ a pa) (hP : partsOk T n σ κ pb pc pa) (hw : WF (fu T n (rcd κ a pb pc pa l)) n)
    (h : ∀ T' τ, Ad T n d c σ (rcd κ a pb pc pa l) T' τ → Φ (nI n) τ) : wp_X9_add ga σ (nI κ) a (oF pb 0 nI) (oF pc 0 nI) Φ :=
  madd_ok (l := l) hG hn hκ hA hP hw (fun τ G e18 k18 => h _ τ ⟨G, fun k hk => fu_o (by omega), fu_T, e18, fun j hj hnp => k18 j (by omega) (fun q => hnp (by unfold part pB pC pA at q; rw [fu_T] at q; exact q))⟩)
theorem Rt.fe {e : Bool} {r l : Nat} (h : Rt e T n σ r l) : Fe n σ r := ⟨h.1, h.2.2.2⟩
/-- no parts -/
theorem mk0 {κ : Nat} {a : Int32} (hG : Gn T n d c σ) (hn : n < 110) (hκ : κ = 0 ∨ κ = 1 ∨ κ = 17) (h0 : κ = 0 → ¬ a < -999 ∧ ¬ 999 < a) (h1 : κ = 1 → ∃ j, a = nI j ∧ j < 5 ∧ j ≠ 2) (h17 : κ = 17 → ∃ j, j < 10 ∧ a = nI j)
    (h : ∀ T' τ, Ad T n d c σ (rcd κ a none none none n) T' τ → Φ (nI n) τ) : wp_X9_add ga σ (nI κ) a 0 0 Φ := by
  have k15 : κ ≠ 15 := by clear h0 h1 h17; omega
  have k16 : κ ≠ 16 := by clear h0 h1 h17; omega
  have k1x : κ = 1 → κ ≠ 2 ∧ κ ≠ 14 ∧ κ ≠ 13 := by clear h0 h1 h17; omega
  have ok : okK κ = true := by rcases hκ with e | e | e <;> rw [e] <;> rfl
  have nb : hBk κ = false := by rcases hκ with e | e | e <;> rw [e] <;> rfl
  have nc : hCk κ = false := by rcases hκ with e | e | e <;> rw [e] <;> rfl
  have nk : nmK κ = true → κ = 1 := fun q => by rcases hκ with e | e | e <;> rw [e] at q <;> first | exact e | cases q
  refine mk (pb := none) (pc := none) (pa := none) (l := n) hG hn ok ⟨h0, fun q => ?_, fun q => ?_, fun q => absurd q k15, fun q => ?_⟩ ⟨fun p e => (by cases e), fun p e => (by cases e), fun p e => (by cases e), nb.symm, nc.symm, fun q => (by cases q), fun p e => (by cases e), fun p e => (by cases e)⟩ (wf_mk ok nb.symm nc.symm (fun q => (by cases q)) (fun p e => (by cases e)) (fun p e => (by cases e)) (fun p e => (by cases e)) rfl (Nat.le_refl n) (fun p q => (by rcases q with q | q | q <;> cases q)) (fun q => ?_) (fun q => absurd q k15)) h
  · obtain ⟨j, e, j5, -⟩ := h1 (nk q)
    exact ⟨j, j5, e⟩
  · exact h17 (q.resolve_left k16)
  · exfalso
    rcases hκ with e | e | e
    · exact q.1 e
    · rw [e] at q; cases q.2.1
    · exact q.2.2.2.2 e
  · obtain ⟨j, e, j5, j2⟩ := h1 (nk q)
    have k1 := k1x (nk q)
    exact ⟨j, e, j5, fun _ => j2, fun z => (by rcases z with z | z; exact absurd z k1.1; exact absurd z k1.2.1), fun z => absurd z k1.2.2⟩
/-- b alone: AT, SET, PRINT -/
theorem mkB {κ : Nat} {a : Int32} {b lb : Nat} (hG : Gn T n d c σ) (hn : n < 110) (hκ : κ = 2 ∨ κ = 13 ∨ κ = 19) (hb : Rt true T n σ b lb) (hb1 : b + 1 = n)
    (ha : κ = 19 → a = 0) (hnm : κ ≠ 19 → ∃ j, a = nI j ∧ j < 5 ∧ (κ = 2 → j = 2) ∧ (κ = 13 → j ≠ 2 ∧ j ≠ 3))
    (h : ∀ T' τ, Ad T n d c σ (rcd κ a (some b) none none lb) T' τ → Φ (nI n) τ) : wp_X9_add ga σ (nI κ) a (nI b) 0 Φ := by
  have k0 : κ ≠ 0 := by clear ha hnm; omega
  have k12 : κ ≠ 12 := by clear ha hnm; omega
  have k14 : κ ≠ 14 := by clear ha hnm; omega
  have k15 : κ ≠ 15 := by clear ha hnm; omega
  have k1 : κ ≠ 1 := by clear ha hnm; omega
  have k167 : ¬ (κ = 16 ∨ κ = 17) := by clear ha hnm; omega
  have ok : okK κ = true := by rcases hκ with e | e | e <;> rw [e] <;> rfl
  have nb : hBk κ = true := by rcases hκ with e | e | e <;> rw [e] <;> rfl
  have nc : hCk κ = false := by rcases hκ with e | e | e <;> rw [e] <;> rfl
  have k8 : kd T b < 8 := hb.2.1
  have wb := (hG.2.2.2.2.2.2.2.1 b hb.1).2.lok
  have lbn : lb ≤ n := by have := hb.2.2.1; have := hb.1; clear ha hnm; omega
  have nn : nmK κ = true → κ ≠ 19 := fun q e => by rw [e] at q; cases q
  refine mk (pb := some b) (pc := none) (pa := none) (l := lb) hG hn ok ⟨fun q => absurd q k0, fun q => ?_, fun q => absurd q k167, fun q => absurd q k15, fun q => ?_⟩ ⟨fun p e => ?_, fun p e => (by cases e), fun p e => (by cases e), nb.symm, nc.symm, fun q => (by cases q), fun p e => ⟨fun q => (by cases q), fun q => (by cases q)⟩, fun p e => (by cases e)⟩ (wf_mk ok nb.symm nc.symm (fun q => (by cases q)) (fun p e => (by cases e)) (fun p e => (by cases e)) (fun p e => ?_) hb.2.2.1.symm lbn (fun p q => (by rcases q with q | q | q <;> cases q; exact hb.1)) (fun q => ?_) (fun q => absurd q k15)) h
  · obtain ⟨j, e, j5, -⟩ := hnm (nn q)
    exact ⟨j, j5, e⟩
  · refine ha ?_
    rcases hκ with e | e | e
    · rw [e] at q; cases q.2.1
    · rw [e] at q; cases q.2.1
    · exact e
  · cases e
    exact ⟨hb.fe, by rw [if_neg k12]; exact k8⟩
  · cases e
    exact ⟨hb1, by rw [if_neg k12]; exact k8⟩
  · obtain ⟨j, e, j5, j2, j3⟩ := hnm (nn q)
    exact ⟨j, e, j5, fun z => absurd z k1, fun z => j2 (z.resolve_right k14), j3⟩
/-- b and c: arithmetic, STORE, SEQ, LOOP, IF without else -/
theorem mkC {κ : Nat} {a : Int32} {b lb x : Nat} (hG : Gn T n d c σ) (hn : n < 110) (hκ : (3 ≤ κ ∧ κ ≤ 7) ∨ κ = 12 ∨ κ = 14 ∨ κ = 15 ∨ κ = 16) (hb : Rt (κ != 12) T n σ b lb) (hx : Rt (κ != 12 && κ != 15 && κ != 16) T n σ x (b + 1)) (hx1 : x + 1 = n)
    (h14 : κ = 14 → a = 2) (h15 : κ = 15 → a = -1) (h16 : κ = 16 → ∃ j, j < 10 ∧ a = nI j) (h0 : κ < 14 → a = 0)
    (h : ∀ T' τ, Ad T n d c σ (rcd κ a (some b) (some x) none lb) T' τ → Φ (nI n) τ) : wp_X9_add ga σ (nI κ) a (nI b) (nI x) Φ := by
  have kk : κ = 3 ∨ κ = 4 ∨ κ = 5 ∨ κ = 6 ∨ κ = 7 ∨ κ = 12 ∨ κ = 14 ∨ κ = 15 ∨ κ = 16 := by clear h14 h15 h16 h0; omega
  have k0 : κ ≠ 0 := by clear h14 h15 h16 h0; omega
  have k17 : κ ≠ 17 := by clear h14 h15 h16 h0; omega
  have k1 : κ ≠ 1 := by clear h14 h15 h16 h0; omega
  have k13 : κ ≠ 13 := by clear h14 h15 h16 h0; omega
  have ok : okK κ = true := by rcases kk with e | e | e | e | e | e | e | e | e <;> rw [e] <;> rfl
  have nb : hBk κ = true := by rcases kk with e | e | e | e | e | e | e | e | e <;> rw [e] <;> rfl
  have nc : hCk κ = true := by rcases kk with e | e | e | e | e | e | e | e | e <;> rw [e] <;> rfl
  have nk : nmK κ = true → κ = 14 := fun q => by rcases kk with e | e | e | e | e | e | e | e | e <;> rw [e] at q <;> first | exact e | cases q
  have kb : if κ = 12 then 12 ≤ kd T b else kd T b < 8 := by
    have := hb.2.1
    by_cases e : κ = 12
    · rw [e] at this; rw [if_pos e]; exact this
    · rw [show (κ != 12) = true from bne_iff_ne.mpr e] at this; rw [if_neg e]; exact this
  have kx : if κ = 12 ∨ κ = 15 ∨ κ = 16 then 12 ≤ kd T x else kd T x < 8 := by
    have := hx.2.1
    by_cases e : κ = 12 ∨ κ = 15 ∨ κ = 16
    · rw [if_pos e]
      rcases e with e | e | e <;> rw [e] at this <;> exact this
    · rw [show (κ != 12) = true from bne_iff_ne.mpr (by omega), show (κ != 15) = true from bne_iff_ne.mpr (by omega), show (κ != 16) = true from bne_iff_ne.mpr (by omega)] at this; rw [if_neg e]; exact this
  have lx : lo T x = b + 1 := hx.2.2.1
  have wx := (hG.2.2.2.2.2.2.2.1 x hx.1).2.lok
  have wb := (hG.2.2.2.2.2.2.2.1 b hb.1).2.lok
  have lbb : lo T b = lb := hb.2.2.1
  have lbn : lb ≤ n := by have := hb.1; clear h14 h15 h16 h0; omega
  refine mk (pb := some b) (pc := some x) (pa := none) (l := lb) hG hn ok ⟨fun q => absurd q k0, fun q => ?_, fun q => h16 (q.resolve_right k17), fun q => h15 q, fun q => ?_⟩ ⟨fun p e => (by cases e; exact ⟨hb.fe, kb⟩), fun p e => (by cases e; exact ⟨hx.fe, kx⟩), fun p e => (by cases e), nb.symm, nc.symm, fun q => (by cases q), fun p e => ⟨fun q => ?_, fun q => by cases q⟩, fun p e => (fun q => by cases q)⟩ (wf_mk ok nb.symm nc.symm (fun q => (by cases q)) (fun p e => (by cases e)) (fun p e => ?_) (fun p e => ?_) lbb.symm lbn (fun p q => ?_) (fun q => ?_) (fun q => h15 q)) h
  · exact ⟨2, by decide, by rw [h14 (nk q)]; rfl⟩
  · refine h0 ?_
    have := q.2.1
    have n14 : κ ≠ 14 := fun e => by rw [e] at this; cases this
    have n15 := q.2.2.1
    have n16 := q.2.2.2.1
    clear h14 h15 h16 h0 q; omega
  · cases e; cases q; clear h14 h15 h16 h0; omega
  · cases e; exact ⟨hx1, kx⟩
  · cases e; exact ⟨lx.symm, kb⟩
  · rcases q with q | q | q
    · cases q; exact hb.1
    · cases q; exact hx.1
    · cases q
  · have k14 := nk q
    exact ⟨2, by rw [h14 k14]; rfl, by decide, fun z => absurd z k1, fun _ => rfl, fun z => absurd z k13⟩
/-- IF with an else -/
theorem mkI {b lb x y : Nat} (hG : Gn T n d c σ) (hn : n < 110) (hb : Rt true T n σ b lb) (hx : Rt false T n σ x (b + 1)) (hy : Rt false T n σ y (x + 1)) (hy1 : y + 1 = n)
    (h : ∀ T' τ, Ad T n d c σ (rcd 15 (nI y) (some b) (some x) (some y) lb) T' τ → Φ (nI n) τ) : wp_X9_add ga σ 15 (nI y) (nI b) (nI x) Φ := by
  have kb : kd T b < 8 := hb.2.1
  have kx : 12 ≤ kd T x := hx.2.1
  have ky : 12 ≤ kd T y := hy.2.1
  have lx : lo T x = b + 1 := hx.2.2.1
  have ly : lo T y = x + 1 := hy.2.2.1
  have lbb : lo T b = lb := hb.2.2.1
  have wx := (hG.2.2.2.2.2.2.2.1 x hx.1).2.lok
  have wy := (hG.2.2.2.2.2.2.2.1 y hy.1).2.lok
  have wb := (hG.2.2.2.2.2.2.2.1 b hb.1).2.lok
  refine mk (κ := 15) (pb := some b) (pc := some x) (pa := some y) (l := lb) hG hn rfl ⟨fun q => by omega, fun q => (by cases q), fun q => by omega, fun q => rfl, fun q => absurd rfl q.2.2.1⟩ ⟨fun p e => (by cases e; exact ⟨hb.fe, kb⟩), fun p e => (by cases e; exact ⟨hx.fe, kx⟩), fun p e => (by cases e; exact ⟨hy.fe, ky⟩), rfl, rfl, fun _ => rfl, fun p e => ⟨fun q => ?_, fun q => ?_⟩, fun p e q => ?_⟩ (wf_mk rfl rfl rfl (fun _ => rfl) (fun p e => (by cases e; exact ⟨hy1, ky⟩)) (fun p e => (by cases e; exact ⟨ly.symm, kx⟩)) (fun p e => (by cases e; exact ⟨lx.symm, kb⟩)) lbb.symm (by omega) (fun p q => ?_) (fun q => (by cases q)) (fun _ => rfl)) h
  · cases e; cases q; omega
  · cases e; cases q; omega
  · cases e; cases q; omega
  · rcases q with q | q | q
    · cases q; exact hb.1
    · cases q; exact hx.1
    · cases q; exact hy.1
/-- the new root -/
theorem Ad.root {e : Bool} {r : (Nat × Int32) × (Option Nat × Option Nat × Option Nat) × Nat} (h : Ad T n d c σ r T' τ) (hk : if e = true then r.1.1 < 8 else 12 ≤ r.1.1) : Rt e T' (n + 1) τ n r.2.2 := by
  obtain ⟨-, -, h3, h4, -⟩ := h
  refine ⟨Nat.lt_succ_self n, ?_, ?_, h4⟩
  · unfold kd; rw [h3]; exact hk
  · unfold lo; rw [h3]
/-- an older root that is no part of the new node -/
theorem Ad.old {e : Bool} {r : (Nat × Int32) × (Option Nat × Option Nat × Option Nat) × Nat} {q l : Nat} (h : Ad T n d c σ r T' τ) (hq : Rt e T n σ q l) (hn : ¬ (r.2.1.1 = some q ∨ r.2.1.2.1 = some q ∨ r.2.1.2.2 = some q)) : Rt e T' (n + 1) τ q l := by
  obtain ⟨-, h2, -, -, h5⟩ := h
  obtain ⟨a1, a2, a3, a4⟩ := hq
  refine ⟨by omega, ?_, ?_, by rw [h5 q a1 hn]; exact a4⟩
  · unfold kd at a2 ⊢; rw [h2 q a1]; exact a2
  · unfold lo at a3 ⊢; rw [h2 q a1]; exact a3
/-- a BREAK and its LOOP, as the Mill makes them -/
def Lpp (T : TT) (k : Nat) : Prop := (kd T (k + 1) = 15 ∧ pC T (k + 1) = some k) ∧ (kd T (k + 2) = 12 ∧ pC T (k + 2) = some (k + 1)) ∧ (kd T (k + 7) = 12 ∧ pB T (k + 7) = some (k + 2)) ∧ (kd T (k + 8) = 16 ∧ pC T (k + 8) = some (k + 7)) ∧ av T (k + 8) = av T k
def LB (T : TT) (n m : Nat) : Prop := ∀ k, n ≤ k → k < m → kd T k = 17 → k + 8 < m ∧ Lpp T k
theorem LB.ext {m : Nat} (h : LB T n m) (he : ∀ k, k < m → T' k = T k) : LB T' n m := by
  intro k h1 h2 h3
  have h3' : kd T k = 17 := by unfold kd at h3 ⊢; rw [← he k h2]; exact h3
  obtain ⟨a, b⟩ := h k h1 h2 h3'
  refine ⟨a, ?_⟩
  unfold Lpp kd pC pB av at b ⊢
  rw [he (k + 1) (by omega), he (k + 2) (by omega), he (k + 7) (by omega), he (k + 8) (by omega), he k h2]
  exact b
theorem LB.join {m x : Nat} (h : LB T n m) (h2 : LB T m x) (hm : m ≤ x) : LB T n x := by
  intro k h1 h3 h4
  by_cases e : k < m
  · have := h k h1 e h4
    exact ⟨by omega, this.2⟩
  · exact h2 k (by omega) h3 h4
theorem LB.none {m : Nat} (h : ∀ k, n ≤ k → k < m → kd T k ≠ 17) : LB T n m := fun k h1 h2 h3 => absurd h3 (h k h1 h2)
/-- what a piece of the Mill lays: nodes from n to n', a root that is the last -/
def Pc (e : Bool) (T : TT) (n : Nat) (c : Int32) (σ : FS) (B : Nat → Prop) (D : Nat) (T' : TT) (n' d' : Nat) (τ : FS) : Prop :=
  Gn T' n' d' c τ ∧ (∀ k, k < n → T' k = T k) ∧ n < n' ∧ B n' ∧ d' ≤ D ∧ Rt e T' n' τ (n' - 1) n ∧ (∀ k, k < n → τ.1 18 k = σ.1 18 k) ∧ LB T' n n' ∧ (e = true → ∀ k, n ≤ k → k < n' → kd T' k ≠ 17)
theorem Pc.old {e e2 : Bool} {B : Nat → Prop} {D n' d' q l : Nat} (h : Pc e T n c σ B D T' n' d' τ) (hq : Rt e2 T n σ q l) : Rt e2 T' n' τ q l := by
  obtain ⟨-, h2, h3, -, -, -, h7, -, -⟩ := h
  obtain ⟨a1, a2, a3, a4⟩ := hq
  refine ⟨by omega, ?_, ?_, by rw [h7 q a1]; exact a4⟩
  · unfold kd at a2 ⊢; rw [h2 q a1]; exact a2
  · unfold lo at a3 ⊢; rw [h2 q a1]; exact a3
end QC1
