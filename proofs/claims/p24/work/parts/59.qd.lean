section QD1
variable {T T' T1 T2 : TT} {n d m : Nat} {σ τ σ1 σ2 : FS} {k : Nat} {Φ : Int32 → FS → Prop} {c : Int32} {ga : SG}
/-- from one state to a later one: older nodes stay, what they are parts of too -/
def Sp (T : TT) (n : Nat) (σ : FS) (T' : TT) (m : Nat) (τ : FS) : Prop := (∀ k, k < n → T' k = T k) ∧ n ≤ m ∧ ∀ k, k < n → τ.1 18 k = σ.1 18 k
theorem Sp.rf : Sp T n σ T n σ := ⟨fun _ _ => rfl, Nat.le_refl n, fun _ _ => rfl⟩
theorem Sp.dr {v : Int32} (h : Sp T n σ T' m τ) : Sp T n σ T' m (sF τ 88 2 v) := ⟨h.1, h.2.1, fun k hk => by rw [q_n (by omega)]; exact h.2.2 k hk⟩
theorem Sp.pc {e : Bool} {B : Nat → Prop} {D n' d' : Nat} (h : Sp T n σ T1 m σ1) (p : Pc e T1 m c σ1 B D T' n' d' τ) : Sp T n σ T' n' τ := by
  obtain ⟨-, p2, p3, -, -, -, p7, -, -⟩ := p
  have hm := h.2.1
  exact ⟨fun k hk => (p2 k (by omega)).trans (h.1 k hk), by omega, fun k hk => (p7 k (by omega)).trans (h.2.2 k hk)⟩
theorem Sp.ad {r : (Nat × Int32) × (Option Nat × Option Nat × Option Nat) × Nat} (h : Sp T n σ T1 m σ1) (p : Ad T1 m d c σ1 r T' τ) (hp : ∀ q, r.2.1.1 = some q ∨ r.2.1.2.1 = some q ∨ r.2.1.2.2 = some q → n ≤ q) : Sp T n σ T' (m + 1) τ := by
  obtain ⟨-, p2, -, -, p5⟩ := p
  have hm := h.2.1
  exact ⟨fun k hk => (p2 k (by omega)).trans (h.1 k hk), by omega, fun k hk => (p5 k (by omega) (fun q => by have := hp k q; omega)).trans (h.2.2 k hk)⟩
theorem Pc.lb {e : Bool} {B : Nat → Prop} {D n' d' : Nat} (p : Pc e T n c σ B D T' n' d' τ) : LB T' n n' := p.2.2.2.2.2.2.2.1
theorem Pc.gn {e : Bool} {B : Nat → Prop} {D n' d' : Nat} (p : Pc e T n c σ B D T' n' d' τ) : Gn T' n' d' c τ := p.1
theorem Pc.rt {e : Bool} {B : Nat → Prop} {D n' d' : Nat} (p : Pc e T n c σ B D T' n' d' τ) : Rt e T' n' τ (n' - 1) n := p.2.2.2.2.2.1
theorem Rt.dr {e : Bool} {r l : Nat} {v : Int32} (h : Rt e T n σ r l) : Rt e T n (sF σ 88 2 v) r l := ⟨h.1, h.2.1, h.2.2.1, by rw [q_n (by omega)]; exact h.2.2.2⟩
theorem no17 (h : ∀ k, n ≤ k → k < m → kd T k ≠ 17) (h2 : ∀ k, k < m → T' k = T k) (h3 : kd T' m ≠ 17) : ∀ k, n ≤ k → k < m + 1 → kd T' k ≠ 17 := fun k a b => by
  by_cases e : k = m
  · rw [e]; exact h3
  · unfold kd at h ⊢; rw [h2 k (by omega)]; exact h k a (by omega)
theorem no17j {x : Nat} (h : ∀ k, n ≤ k → k < m → kd T k ≠ 17) (h2 : ∀ k, k < m → T' k = T k) (h3 : ∀ k, m ≤ k → k < x → kd T' k ≠ 17) : ∀ k, n ≤ k → k < x → kd T' k ≠ 17 := fun k a b => by
  by_cases e : k < m
  · unfold kd at h ⊢; rw [h2 k e]; exact h k a e
  · exact h3 k (by omega) b
/-- a piece ends with its root -/
theorem fin1 {e : Bool} {r : (Nat × Int32) × (Option Nat × Option Nat × Option Nat) × Nat} {B : Nat → Prop} {D : Nat} (hs : Sp T n σ T1 m σ1) (p : Ad T1 m d c σ1 r T' τ) (hp : ∀ q, r.2.1.1 = some q ∨ r.2.1.2.1 = some q ∨ r.2.1.2.2 = some q → n ≤ q)
    (hl : LB T1 n m) (he : e = true → ∀ k, n ≤ k → k < m → kd T1 k ≠ 17) (h17 : r.1.1 ≠ 17) (hk : if e = true then r.1.1 < 8 else 12 ≤ r.1.1) (hl0 : r.2.2 = n) (hB : B (m + 1)) (hD : d ≤ D) : Pc e T n c σ B D T' (m + 1) d τ := by
  have s := hs.ad p hp
  have hm := hs.2.1
  have kk : kd T' m ≠ 17 := by unfold kd; rw [p.2.2.1]; exact h17
  have rt := p.root (e := e) hk
  rw [hl0] at rt
  refine ⟨p.1, s.1, by omega, hB, hD, rt, s.2.2, (hl.ext p.2.1).join (fun k h1 h2 h3 => ?_) (by omega), fun h => no17 (he h) p.2.1 kk⟩
  have : k = m := by omega
  rw [this] at h3; exact absurd h3 kk
theorem a20 : ∀ v : Nat, v < 41 → ¬ (nI v - 20 < -999) ∧ ¬ (999 < nI v - 20) := by decide
/-- a leaf -/
theorem leaf_num {a : Int32} (hG : Gn T n d c σ) (hn : n + 1 ≤ 110) (ha : ¬ a < -999 ∧ ¬ 999 < a) {B : Nat → Prop} {D : Nat} (hB : B (n + 1)) (hD : d ≤ D) (h : ∀ T' τ, Pc true T n c σ B D T' (n + 1) d τ → Φ (nI n) τ) : wp_X9_add ga σ 0 a 0 0 Φ :=
  mk0 (κ := 0) hG (by omega) (Or.inl rfl) (fun _ => ha) (fun e => by omega) (fun e => by omega) (fun T' τ p => h T' τ (fin1 Sp.rf p (fun q z => by rcases z with z | z | z <;> cases z) (LB.none (fun k h1 h2 => absurd h2 (by omega))) (fun _ k h1 h2 => absurd h2 (by omega)) (show (0 : Nat) ≠ 17 by decide) (show (0 : Nat) < 8 by decide) rfl hB hD))
theorem leaf_use {j : Nat} (hG : Gn T n d c σ) (hn : n + 1 ≤ 110) (hj : j < 5 ∧ j ≠ 2) {B : Nat → Prop} {D : Nat} (hB : B (n + 1)) (hD : d ≤ D) (h : ∀ T' τ, Pc true T n c σ B D T' (n + 1) d τ → Φ (nI n) τ) : wp_X9_add ga σ 1 (nI j) 0 0 Φ :=
  mk0 (κ := 1) hG (by omega) (Or.inr (Or.inl rfl)) (fun e => by omega) (fun _ => ⟨j, rfl, hj.1, hj.2⟩) (fun e => by omega) (fun T' τ p => h T' τ (fin1 Sp.rf p (fun q z => by rcases z with z | z | z <;> cases z) (LB.none (fun k h1 h2 => absurd h2 (by omega))) (fun _ k h1 h2 => absurd h2 (by omega)) (show (1 : Nat) ≠ 17 by decide) (show (1 : Nat) < 8 by decide) rfl hB hD))
theorem Pc.mono {e : Bool} {B B' : Nat → Prop} {D D' n' d' : Nat} (p : Pc e T n c σ B D T' n' d' τ) (hB : B n' → B' n') (hD : D ≤ D') : Pc e T n c σ B' D' T' n' d' τ := by
  obtain ⟨a, b, x, y, z, w⟩ := p
  exact ⟨a, b, x, hB y, Nat.le_trans z hD, w⟩
theorem Pc.dr {e : Bool} {B : Nat → Prop} {D n' d' : Nat} {v : Int32} (p : Pc e T n c (sF σ 88 2 v) B D T' n' d' τ) : Pc e T n c σ B D T' n' d' τ := by
  obtain ⟨a, b, x, y, z, w, q, r⟩ := p
  exact ⟨a, b, x, y, z, w, fun k hk => by rw [q k hk, q_n (by omega)], r⟩
/-- the two kinds of leaves, drawn -/
theorem leaf0 (hga : ga.2.1 < 2 ^ 31) (hG : Gn T n d c σ) (hn : n + 1 ≤ 110) (hd : d + 1 < 2 ^ 20) {B : Nat → Prop} {D : Nat} (hB : B (n + 1)) (hD : d + 1 ≤ D) (h : ∀ T' n' d' τ, Pc true T n c σ B D T' n' d' τ → Φ (nI (n' - 1)) τ) :
    wp_X9_draw ga σ 41 (fun (x4 : Int32) (σ3 : FS) => wp_X9_add ga σ3 0 (x4 - 20) 0 0 (fun (x6 : Int32) (σ5 : FS) => Φ x6 σ5)) := by
  refine draw_ok (m := 41) (d := d) hga (by omega) (by omega) hG.2.2.2.2.1 (by omega) (fun v hv => ?_)
  exact leaf_num (hG.draw hd) hn (a20 v hv) hB hD (fun T' τ p => h T' (n + 1) (d + 1) τ p.dr)
theorem leaf1 (hga : ga.2.1 < 2 ^ 31) (hG : Gn T n d c σ) (hn : n + 1 ≤ 110) (hd : d + 1 < 2 ^ 20) {B : Nat → Prop} {D : Nat} (hB : B (n + 1)) (hD : d + 1 ≤ D) (h : ∀ T' n' d' τ, Pc true T n c σ B D T' n' d' τ → Φ (nI (n' - 1)) τ) :
    wp_X9_draw ga σ 4 (fun (x8 : Int32) (σ7 : FS) => ((x8 = 2 → wp_X9_add ga σ7 1 4 0 0 (fun (x12 : Int32) (σ11 : FS) => Φ x12 σ11)) ∧ (¬ (x8 = 2) → wp_X9_add ga σ7 1 x8 0 0 (fun (x10 : Int32) (σ9 : FS) => Φ x10 σ9)))) := by
  refine draw_ok (m := 4) (d := d) hga (by omega) (by omega) hG.2.2.2.2.1 (by omega) (fun v hv => ?_)
  by_cases e : v = 2
  · exact br_t (by rw [e]; rfl) (leaf_use (j := 4) (hG.draw hd) hn ⟨by omega, by omega⟩ hB hD (fun T' τ p => h T' (n + 1) (d + 1) τ p.dr))
  · exact br_f (nI_ne (b := 2) e (by omega) (by omega)) (leaf_use (j := v) (hG.draw hd) hn ⟨by omega, e⟩ hB hD (fun T' τ p => h T' (n + 1) (d + 1) τ p.dr))
/-- what an expression of some depth does -/
def CE (ga : SG) (f : FS → (Int32 → FS → Prop) → Prop) (B D : Nat) : Prop := ∀ (T : TT) (n d : Nat) (c : Int32) (σ : FS) (Φ : Int32 → FS → Prop), Gn T n d c σ → n + B ≤ 110 → d + D < 2 ^ 20 → (∀ T' n' d' τ, Pc true T n c σ (fun m => m ≤ n + B) (d + D) T' n' d' τ → Φ (nI (n' - 1)) τ) → f σ Φ
theorem x0_ok (hga : ga.2.1 < 2 ^ 31) : CE ga (wp_X9_expression_0 ga) 1 2 := by
  intro T n d c σ Φ hG hn hd h
  unfold wp_X9_expression_0
  refine draw_ok (m := 2) (d := d) hga (by omega) (by omega) hG.2.2.2.2.1 (by omega) (fun v hv => ?_)
  have G1 := hG.draw (by omega)
  rcases (show v = 0 ∨ v = 1 by omega) with rfl | rfl
  · exact br_t rfl (leaf0 (B := fun m => m ≤ n + 1) (D := d + 2) hga G1 hn (by omega) (Nat.le_refl _) (by omega) (fun T' n' d' τ p => h T' n' d' τ p.dr))
  · exact br_f (by decide) (br_t rfl (leaf1 (B := fun m => m ≤ n + 1) (D := d + 2) hga G1 hn (by omega) (Nat.le_refl _) (by omega) (fun T' n' d' τ p => h T' n' d' τ p.dr)))
end QD1
section QD2
variable {T T' T1 T2 : TT} {n d m : Nat} {σ τ σ1 σ2 : FS} {k : Nat} {Φ : Int32 → FS → Prop} {c : Int32} {ga : SG}
def gE (ga : SG) (inner : FS → (Int32 → FS → Prop) → Prop) (σ : FS) (Φ : Int32 → FS → Prop) : Prop :=
  (((σ.1 88 3) ≤ 75 → wp_X9_draw ga σ 7 (fun (x2 : Int32) (σ1 : FS) => ((x2 = 0 → wp_X9_draw ga σ1 41 (fun (x4 : Int32) (σ3 : FS) => wp_X9_add ga σ3 0 (x4 - 20) 0 0 (fun (x6 : Int32) (σ5 : FS) => Φ x6 σ5))) ∧ (¬ (x2 = 0) → ((x2 = 1 → wp_X9_draw ga σ1 4 (fun (x8 : Int32) (σ7 : FS) => ((x8 = 2 → wp_X9_add ga σ7 1 4 0 0 (fun (x12 : Int32) (σ11 : FS) => Φ x12 σ11)) ∧ (¬ (x8 = 2) → wp_X9_add ga σ7 1 x8 0 0 (fun (x10 : Int32) (σ9 : FS) => Φ x10 σ9))))) ∧ (¬ (x2 = 1) → ((x2 = 2 → wp_X9_draw ga σ1 3 (fun (x14 : Int32) (σ13 : FS) => ((x14 = 0 → inner σ13 (fun (x22 : Int32) (σ21 : FS) => wp_X9_add ga σ21 2 2 x22 0 (fun (x24 : Int32) (σ23 : FS) => Φ x24 σ23))) ∧ (¬ (x14 = 0) → wp_X9_draw ga σ13 4 (fun (x16 : Int32) (σ15 : FS) => wp_X9_add ga σ15 0 x16 0 0 (fun (x18 : Int32) (σ17 : FS) => wp_X9_add ga σ17 2 2 x18 0 (fun (x20 : Int32) (σ19 : FS) => Φ x20 σ19))))))) ∧ (¬ (x2 = 2) → inner σ1 (fun (x26 : Int32) (σ25 : FS) => inner σ25 (fun (x28 : Int32) (σ27 : FS) => wp_X9_draw ga σ27 5 (fun (x30 : Int32) (σ29 : FS) => wp_X9_add ga σ29 (3 + x30) 0 x26 x28 (fun (x32 : Int32) (σ31 : FS) => Φ x32 σ31)))))))))))) ∧ (¬ ((σ.1 88 3) ≤ 75) → wp_X9_draw ga σ 2 (fun (x34 : Int32) (σ33 : FS) => ((x34 = 0 → wp_X9_draw ga σ33 41 (fun (x36 : Int32) (σ35 : FS) => wp_X9_add ga σ35 0 (x36 - 20) 0 0 (fun (x38 : Int32) (σ37 : FS) => Φ x38 σ37))) ∧ (¬ (x34 = 0) → ((x34 = 1 → wp_X9_draw ga σ33 4 (fun (x40 : Int32) (σ39 : FS) => ((x40 = 2 → wp_X9_add ga σ39 1 4 0 0 (fun (x44 : Int32) (σ43 : FS) => Φ x44 σ43)) ∧ (¬ (x40 = 2) → wp_X9_add ga σ39 1 x40 0 0 (fun (x42 : Int32) (σ41 : FS) => Φ x42 σ41))))) ∧ (¬ (x34 = 1) → ((x34 = 2 → wp_X9_draw ga σ33 3 (fun (x46 : Int32) (σ45 : FS) => ((x46 = 0 → inner σ45 (fun (x54 : Int32) (σ53 : FS) => wp_X9_add ga σ53 2 2 x54 0 (fun (x56 : Int32) (σ55 : FS) => Φ x56 σ55))) ∧ (¬ (x46 = 0) → wp_X9_draw ga σ45 4 (fun (x48 : Int32) (σ47 : FS) => wp_X9_add ga σ47 0 x48 0 0 (fun (x50 : Int32) (σ49 : FS) => wp_X9_add ga σ49 2 2 x50 0 (fun (x52 : Int32) (σ51 : FS) => Φ x52 σ51))))))) ∧ (¬ (x34 = 2) → inner σ33 (fun (x58 : Int32) (σ57 : FS) => inner σ57 (fun (x60 : Int32) (σ59 : FS) => wp_X9_draw ga σ59 5 (fun (x62 : Int32) (σ61 : FS) => wp_X9_add ga σ61 (3 + x62) 0 x58 x60 (fun (x64 : Int32) (σ63 : FS) => Φ x64 σ63)))))))))))))
/-- AT of a piece -/
theorem at_fin {b B D D1 n1 d1 : Nat} (hG : Gn T n d c σ) (p : Pc true T n c σ (fun m => m ≤ n + b) D1 T1 n1 d1 σ1) (hB : b + 1 ≤ B) (hn : n + B ≤ 110) (hD : D1 ≤ D) (h : ∀ T' n' d' τ, Pc true T n c σ (fun m => m ≤ n + B) D T' n' d' τ → Φ (nI (n' - 1)) τ) : wp_X9_add ga σ1 2 2 (nI (n1 - 1)) 0 Φ := by
  have p3 := p.2.2.1
  have pb : n1 ≤ n + b := p.2.2.2.1
  refine mkB (κ := 2) (lb := n) p.gn (by omega) (Or.inl rfl) p.rt (by omega) (fun e => by omega) (fun _ => ⟨2, rfl, by omega, fun _ => rfl, fun e => by omega⟩) (fun T' τ a => ?_)
  have := h T' (n1 + 1) d1 τ (fin1 (Sp.rf.pc p) a (fun q z => ?_) p.lb p.2.2.2.2.2.2.2.2 (show (2 : Nat) ≠ 17 by decide) (show (2 : Nat) < 8 by decide) rfl (by show n1 + 1 ≤ n + B; omega) (by have := p.2.2.2.2.1; omega))
  · exact this
  · rcases z with z | z | z
    · cases z; omega
    · cases z
    · cases z
theorem gE_ok {inner : FS → (Int32 → FS → Prop) → Prop} {b D : Nat} (hga : ga.2.1 < 2 ^ 31) (hb : 1 ≤ b) (hD : 2 ≤ D) (hi : CE ga inner b D) : CE ga (gE ga inner) (2 * b + 1) (2 * D + 2) := by
  intro T n d c σ Φ hG hn hd h
  unfold gE
  have low : ∀ (Ψ : Int32 → FS → Prop), (∀ v, v < 2 → Ψ (nI v) (sF σ 88 2 (nI (d + 1)))) → wp_X9_draw ga σ 2 Ψ := fun Ψ hv => draw_ok (m := 2) (d := d) hga (by omega) (by omega) hG.2.2.2.2.1 (by omega) hv
  have G1 := hG.draw (by omega)
  have L0 := leaf0 (Φ := Φ) hga G1 (by omega) (by omega) (B := fun m => m ≤ n + (2 * b + 1)) (D := d + (2 * D + 2)) (by show n + 1 ≤ _; omega) (by omega) (fun T' n' d' τ p => h T' n' d' τ p.dr)
  have L1 := leaf1 (Φ := Φ) hga G1 (by omega) (by omega) (B := fun m => m ≤ n + (2 * b + 1)) (D := d + (2 * D + 2)) (by show n + 1 ≤ _; omega) (by omega) (fun T' n' d' τ p => h T' n' d' τ p.dr)
  rw [hG.2.2.1]
  refine ⟨fun _ => ?_, fun _ => ?_⟩
  · refine draw_ok (m := 7) (d := d) hga (by omega) (by omega) hG.2.2.2.2.1 (by omega) (fun v hv => ?_)
    by_cases v0 : v = 0
    · rw [v0]; exact br_t rfl L0
    refine br_f (nI_ne (b := 0) v0 (by omega) (by omega)) ?_
    by_cases v1 : v = 1
    · rw [v1]; exact br_t rfl L1
    refine br_f (nI_ne (b := 1) v1 (by omega) (by omega)) ?_
    by_cases v2 : v = 2
    · rw [v2]
      refine br_t rfl (draw_ok (m := 3) (d := d + 1) hga (by omega) (by omega) G1.2.2.2.2.1 (by omega) (fun w hw => ?_))
      have G2 := G1.draw (by omega)
      by_cases w0 : w = 0
      · rw [w0]
        refine br_t rfl (hi T n (d + 2) c _ _ G2 (by omega) (by omega) (fun T1 n1 d1 τ1 p => ?_))
        exact at_fin (B := 2 * b + 1) (D := d + (2 * D + 2)) hG p.dr.dr (by omega) hn (by omega) h
      · refine br_f (nI_ne (b := 0) w0 (by omega) (by omega)) (draw_ok (m := 4) (d := d + 2) hga (by omega) (by omega) G2.2.2.2.2.1 (by omega) (fun z hz => ?_))
        have G3 := G2.draw (by omega)
        refine leaf_num (a := nI z) (B := fun m => m ≤ n + 1) (D := d + 3) G3 (by omega) ?_ (Nat.le_refl _) (Nat.le_refl _) (fun T1 τ1 p => ?_)
        · rcases (show z = 0 ∨ z = 1 ∨ z = 2 ∨ z = 3 by omega) with rfl | rfl | rfl | rfl <;> decide
        · have := at_fin (ga := ga) (B := 2 * b + 1) (D := d + (2 * D + 2)) (Φ := Φ) hG p.dr.dr.dr (by omega) hn (by omega) h
          exact this
    · refine br_f (nI_ne (b := 2) v2 (by omega) (by omega)) (hi T n (d + 1) c _ _ G1 (by omega) (by omega) (fun T1 n1 d1 τ1 p => ?_))
      have p3 := p.2.2.1
      have pb : n1 ≤ n + b := p.2.2.2.1
      have pd := p.2.2.2.2.1
      refine hi T1 n1 d1 c _ _ p.gn (by omega) (by omega) (fun T2 n2 d2 τ2 q => ?_)
      have q3 := q.2.2.1
      have qb : n2 ≤ n1 + b := q.2.2.2.1
      have qd := q.2.2.2.2.1
      refine draw_ok (m := 5) (d := d2) hga (by omega) (by omega) q.gn.2.2.2.2.1 (by omega) (fun w hw => ?_)
      have G3 := q.gn.draw (by omega)
      rw [show (3 : Int32) + nI w = nI (3 + w) from nI_add 3 w]
      refine mkC (κ := 3 + w) (a := 0) (b := n1 - 1) (lb := n) (x := n2 - 1) G3 (by omega) (Or.inl ⟨by omega, by omega⟩) ?_ ?_ (by omega) (fun e => by omega) (fun e => by omega) (fun e => by omega) (fun _ => rfl) (fun T' τ a => ?_)
      · rw [show (3 + w != 12) = true from bne_iff_ne.mpr (by omega)]
        exact (q.old p.rt).dr
      · rw [show (3 + w != 12) = true from bne_iff_ne.mpr (by omega), show (3 + w != 15) = true from bne_iff_ne.mpr (by omega), show (3 + w != 16) = true from bne_iff_ne.mpr (by omega), show n1 - 1 + 1 = n1 by omega]
        exact q.rt.dr
      · have hs : Sp T n σ T2 n2 (sF τ2 88 2 (nI (d2 + 1))) := ((Sp.rf.pc p.dr).pc q).dr
        have := h T' (n2 + 1) (d2 + 1) τ (fin1 hs a (fun z hz => ?_) ((p.lb.ext q.2.1).join q.lb (by omega)) (fun _ => no17j (p.2.2.2.2.2.2.2.2 rfl) q.2.1 (q.2.2.2.2.2.2.2.2 rfl)) (show 3 + w ≠ 17 by omega) (by show 3 + w < 8; omega) rfl (by show n2 + 1 ≤ n + (2 * b + 1); omega) (by omega))
        · exact this
        · rcases hz with hz | hz | hz
          · cases hz; omega
          · cases hz; omega
          · cases hz
  · refine low _ (fun v hv => ?_)
    rcases (show v = 0 ∨ v = 1 by omega) with rfl | rfl
    · exact br_t rfl L0
    · exact br_f (by decide) (br_t rfl L1)
theorem x1_ok (hga : ga.2.1 < 2 ^ 31) : CE ga (wp_X9_expression_1 ga) 3 6 := by
  have := gE_ok (inner := wp_X9_expression_0 ga) hga (by omega) (by omega) (x0_ok hga)
  intro T n d c σ Φ hG hn hd h
  unfold wp_X9_expression_1
  exact this T n d c σ Φ hG hn hd h
theorem x2_ok (hga : ga.2.1 < 2 ^ 31) : CE ga (wp_X9_expression_2 ga) 7 14 := by
  have := gE_ok (inner := wp_X9_expression_1 ga) hga (by omega) (by omega) (x1_ok hga)
  intro T n d c σ Φ hG hn hd h
  unfold wp_X9_expression_2
  exact this T n d c σ Φ hG hn hd h
end QD2
