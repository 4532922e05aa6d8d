section QE
variable {T T' T1 T2 : TT} {n d m : Nat} {σ τ σ1 σ2 : FS} {k : Nat} {Φ : Int32 → FS → Prop} {c : Int32} {ga : SG} {B : Nat → Prop} {D : Nat}
/-- a statement with b alone ends -/
theorem endB {κ : Nat} {a : Int32} {B1 : Nat → Prop} {D1 n1 d1 : Nat} (hκ : κ = 13 ∨ κ = 19) (ha : κ = 19 → a = 0) (hnm : κ = 13 → ∃ j, a = nI j ∧ j < 5 ∧ j ≠ 2 ∧ j ≠ 3) (p : Pc true T n c σ B1 D1 T1 n1 d1 σ1) (h110 : n1 < 110) (hB : B (n1 + 1)) (hD : d1 ≤ D)
    (h : ∀ T' n' d' τ, Pc false T n c σ B D T' n' d' τ → Φ (nI (n' - 1)) τ) : wp_X9_add ga σ1 (nI κ) a (nI (n1 - 1)) 0 Φ := by
  have p3 := p.2.2.1
  have k2 : κ ≠ 2 := by clear ha hnm; omega
  refine mkB (κ := κ) (lb := n) p.gn h110 (Or.inr hκ) p.rt (by omega) ha (fun e => ?_) (fun T' τ a => ?_)
  · obtain ⟨j, e1, e2, e3, e4⟩ := hnm (hκ.resolve_right e)
    exact ⟨j, e1, e2, fun z => absurd z k2, fun _ => ⟨e3, e4⟩⟩
  · have := h T' (n1 + 1) d1 τ (fin1 (Sp.rf.pc p) a (fun q z => ?_) p.lb (fun e => (by cases e)) (show κ ≠ 17 by clear ha hnm; omega) (show 12 ≤ κ by clear ha hnm; omega) rfl hB hD)
    · exact this
    · rcases z with z | z | z
      · cases z; omega
      · cases z
      · cases z
theorem setP (hga : ga.2.1 < 2 ^ 31) (hG : Gn T n d c σ) (hn : n + 8 ≤ 110) (hd : d + 15 < 2 ^ 20) (hB : ∀ m, m ≤ n + 8 → B m) (hD : d + 15 ≤ D) (h : ∀ T' n' d' τ, Pc false T n c σ B D T' n' d' τ → Φ (nI (n' - 1)) τ) :
    wp_X9_draw ga σ 2 (fun (x4 : Int32) (σ3 : FS) => wp_X9_expression_2 ga σ3 (fun (x6 : Int32) (σ5 : FS) => wp_X9_add ga σ5 13 x4 x6 0 (fun (x8 : Int32) (σ7 : FS) => Φ x8 σ7))) := by
  refine draw_ok (m := 2) (d := d) hga (by omega) (by omega) hG.2.2.2.2.1 (by omega) (fun v hv => ?_)
  refine x2_ok hga T n (d + 1) c _ _ (hG.draw (by omega)) (by omega) (by omega) (fun T1 n1 d1 τ1 p => ?_)
  have pb : n1 ≤ n + 7 := p.2.2.2.1
  have pd := p.2.2.2.2.1
  exact endB (κ := 13) (Or.inl rfl) (fun e => by omega) (fun _ => ⟨v, rfl, by omega, by omega, by omega⟩) p.dr (by omega) (hB _ (by omega)) (by omega) h
theorem printP (hga : ga.2.1 < 2 ^ 31) (hG : Gn T n d c σ) (hn : n + 8 ≤ 110) (hd : d + 14 < 2 ^ 20) (hB : ∀ m, m ≤ n + 8 → B m) (hD : d + 14 ≤ D) (h : ∀ T' n' d' τ, Pc false T n c σ B D T' n' d' τ → Φ (nI (n' - 1)) τ) :
    wp_X9_expression_2 ga σ (fun (x10 : Int32) (σ9 : FS) => wp_X9_add ga σ9 19 0 x10 0 (fun (x12 : Int32) (σ11 : FS) => Φ x12 σ11)) := by
  refine x2_ok hga T n d c _ _ hG (by omega) (by omega) (fun T1 n1 d1 τ1 p => ?_)
  have pb : n1 ≤ n + 7 := p.2.2.2.1
  have pd := p.2.2.2.2.1
  exact endB (κ := 19) (Or.inr rfl) (fun _ => rfl) (fun e => by omega) p (by omega) (hB _ (by omega)) (by omega) h
/-- a statement of b and c ends -/
theorem endC {κ : Nat} {a : Int32} {e1 e2 : Bool} {B1 B2 : Nat → Prop} {D1 D2 n1 n2 d1 d2 : Nat} (hκ : κ = 12 ∨ κ = 14 ∨ κ = 15) (p : Pc e1 T n c σ B1 D1 T1 n1 d1 σ1) (q : Pc e2 T1 n1 c σ1 B2 D2 T2 n2 d2 σ2) (h1 : e1 = (κ != 12)) (h2 : e2 = (κ == 14)) (h110 : n2 < 110)
    (h14 : κ = 14 → a = 2) (h15 : κ = 15 → a = -1) (h0 : κ = 12 → a = 0) (hG : Gn T2 n2 D c τ) (h18 : τ.1 18 = σ2.1 18) (hB : B (n2 + 1)) {D' : Nat} (hD : D ≤ D')
    (h : ∀ T' n' d' τ, Pc false T n c σ B D' T' n' d' τ → Φ (nI (n' - 1)) τ) : wp_X9_add ga τ (nI κ) a (nI (n1 - 1)) (nI (n2 - 1)) Φ := by
  have p3 := p.2.2.1
  have q3 := q.2.2.1
  have rr : ∀ {e r l}, Rt e T2 n2 σ2 r l → Rt e T2 n2 τ r l := fun hh => ⟨hh.1, hh.2.1, hh.2.2.1, by rw [h18]; exact hh.2.2.2⟩
  refine mkC (κ := κ) (a := a) (b := n1 - 1) (lb := n) (x := n2 - 1) hG h110 (by clear h14 h15 h0; omega) ?_ ?_ (by omega) h14 h15 (fun e => by clear h14 h15 h0; omega) (fun e => h0 (by clear h14 h15 h0; omega)) (fun T' τ' a => ?_)
  · rw [← h1]; exact rr (q.old p.rt)
  · rw [show n1 - 1 + 1 = n1 by omega]
    have : (κ != 12 && κ != 15 && κ != 16) = e2 := by
      rw [h2]
      rcases hκ with e | e | e <;> rw [e] <;> rfl
    rw [this]; exact rr q.rt
  · have hs : Sp T n σ T2 n2 τ := by
      have := (Sp.rf.pc p).pc q
      exact ⟨this.1, this.2.1, fun k hk => by rw [h18]; exact this.2.2 k hk⟩
    have := h T' (n2 + 1) D τ' (fin1 hs a (fun z hz => ?_) ((p.lb.ext q.2.1).join q.lb (by omega)) (fun e => (by cases e)) (show κ ≠ 17 by clear h14 h15 h0; omega) (show 12 ≤ κ by clear h14 h15 h0; omega) rfl hB hD)
    · exact this
    · rcases hz with hz | hz | hz
      · cases hz; omega
      · cases hz; omega
      · cases hz
theorem storeP (hga : ga.2.1 < 2 ^ 31) (hG : Gn T n d c σ) (hn : n + 8 ≤ 110) (hd : d + 14 < 2 ^ 20) (hB : ∀ m, m ≤ n + 8 → B m) (hD : d + 14 ≤ D) (h : ∀ T' n' d' τ, Pc false T n c σ B D T' n' d' τ → Φ (nI (n' - 1)) τ) :
    wp_X9_draw ga σ 4 (fun (x14 : Int32) (σ13 : FS) => ((x14 = 0 → wp_X9_expression_1 ga σ13 (fun (x24 : Int32) (σ23 : FS) => wp_X9_expression_1 ga σ23 (fun (x26 : Int32) (σ25 : FS) => wp_X9_add ga σ25 14 2 x24 x26 (fun (x28 : Int32) (σ27 : FS) => Φ x28 σ27)))) ∧ (¬ (x14 = 0) → wp_X9_draw ga σ13 4 (fun (x16 : Int32) (σ15 : FS) => wp_X9_add ga σ15 0 x16 0 0 (fun (x18 : Int32) (σ17 : FS) => wp_X9_expression_1 ga σ17 (fun (x20 : Int32) (σ19 : FS) => wp_X9_add ga σ19 14 2 x18 x20 (fun (x22 : Int32) (σ21 : FS) => Φ x22 σ21))))))) := by
  refine draw_ok (m := 4) (d := d) hga (by omega) (by omega) hG.2.2.2.2.1 (by omega) (fun v hv => ?_)
  have G1 := hG.draw (by omega)
  by_cases v0 : v = 0
  · rw [v0]
    refine br_t rfl (x1_ok hga T n (d + 1) c _ _ G1 (by omega) (by omega) (fun T1 n1 d1 τ1 p => ?_))
    have pb : n1 ≤ n + 3 := p.2.2.2.1
    have pd := p.2.2.2.2.1
    have p3 := p.2.2.1
    refine x1_ok hga T1 n1 d1 c _ _ p.gn (by omega) (by omega) (fun T2 n2 d2 τ2 q => ?_)
    have qb : n2 ≤ n1 + 3 := q.2.2.2.1
    have qd := q.2.2.2.2.1
    exact endC (κ := 14) (D := d2) (Or.inr (Or.inl rfl)) p.dr q rfl rfl (by omega) (fun _ => rfl) (fun e => by omega) (fun e => by omega) q.gn rfl (hB _ (by omega)) (by omega) h
  · refine br_f (nI_ne (b := 0) v0 (by omega) (by omega)) (draw_ok (m := 4) (d := d + 1) hga (by omega) (by omega) G1.2.2.2.2.1 (by omega) (fun z hz => ?_))
    have G2 := G1.draw (by omega)
    refine leaf_num (a := nI z) (B := fun m => m ≤ n + 1) (D := d + 2) G2 (by omega) ?_ (Nat.le_refl _) (Nat.le_refl _) (fun T1 τ1 p => ?_)
    · rcases (show z = 0 ∨ z = 1 ∨ z = 2 ∨ z = 3 by omega) with rfl | rfl | rfl | rfl <;> decide
    · refine x1_ok hga T1 (n + 1) (d + 2) c _ _ p.gn (by omega) (by omega) (fun T2 n2 d2 τ2 q => ?_)
      have qb : n2 ≤ n + 1 + 3 := q.2.2.2.1
      have qd := q.2.2.2.2.1
      exact endC (κ := 14) (D := d2) (n1 := n + 1) (Or.inr (Or.inl rfl)) p.dr.dr q rfl rfl (by omega) (fun _ => rfl) (fun e => by omega) (fun e => by omega) q.gn rfl (hB _ (by omega)) (by omega) h
/-- what a statement of some depth does -/
def CS (ga : SG) (f : FS → (Int32 → FS → Prop) → Prop) (U D : Nat) : Prop := ∀ (T : TT) (n d : Nat) (c : Int32) (σ : FS) (Φ : Int32 → FS → Prop), Gn T n d c σ → n + 8 ≤ 110 → d + D < 2 ^ 20 → (∀ T' n' d' τ, Pc false T n c σ (fun m => m ≤ n + 8 ∨ m ≤ U) (d + D) T' n' d' τ → Φ (nI (n' - 1)) τ) → f σ Φ
theorem s0_ok (hga : ga.2.1 < 2 ^ 31) : CS ga (wp_X9_statement_0 ga) 0 16 := by
  intro T n d c σ Φ hG hn hd h
  unfold wp_X9_statement_0
  refine draw_ok (m := 3) (d := d) hga (by omega) (by omega) hG.2.2.2.2.1 (by omega) (fun v hv => ?_)
  have G1 := hG.draw (by omega)
  have hh : ∀ T' n' d' τ, Pc false T n c (sF σ 88 2 (nI (d + 1))) (fun m => m ≤ n + 8 ∨ m ≤ 0) (d + 16) T' n' d' τ → Φ (nI (n' - 1)) τ := fun T' n' d' τ p => h T' n' d' τ p.dr
  rcases (show v = 0 ∨ v = 1 ∨ v = 2 by omega) with rfl | rfl | rfl
  · exact br_t rfl (setP hga G1 hn (by omega) (fun m hm => Or.inl hm) (by omega) hh)
  · exact br_f (by decide) (br_t rfl (printP hga G1 hn (by omega) (fun m hm => Or.inl hm) (by omega) hh))
  · exact br_f (by decide) (br_f (by decide) (br_t rfl (storeP hga G1 hn (by omega) (fun m hm => Or.inl hm) (by omega) hh)))
/-- the parts of a record are none of these -/
theorem np1 {b q : Nat} {κ : Nat} {a : Int32} {l : Nat} (h : q ≠ b) : ¬ ((rcd κ a (some b) none none l).2.1.1 = some q ∨ (rcd κ a (some b) none none l).2.1.2.1 = some q ∨ (rcd κ a (some b) none none l).2.1.2.2 = some q) := fun z => by
  rcases z with z | z | z
  · cases z; exact h rfl
  · cases z
  · cases z
theorem np2 {b x q : Nat} {κ : Nat} {a : Int32} {l : Nat} (h : q ≠ b) (h2 : q ≠ x) : ¬ ((rcd κ a (some b) (some x) none l).2.1.1 = some q ∨ (rcd κ a (some b) (some x) none l).2.1.2.1 = some q ∨ (rcd κ a (some b) (some x) none l).2.1.2.2 = some q) := fun z => by
  rcases z with z | z | z
  · cases z; exact h rfl
  · cases z; exact h2 rfl
  · cases z
theorem np0 {q : Nat} {κ : Nat} {a : Int32} {l : Nat} : ¬ ((rcd κ a none none none l).2.1.1 = some q ∨ (rcd κ a none none none l).2.1.2.1 = some q ∨ (rcd κ a none none none l).2.1.2.2 = some q) := fun z => by
  rcases z with z | z | z <;> cases z
theorem ge1 {b q : Nat} {κ : Nat} {a : Int32} {l : Nat} (h : n ≤ b) : (rcd κ a (some b) none none l).2.1.1 = some q ∨ (rcd κ a (some b) none none l).2.1.2.1 = some q ∨ (rcd κ a (some b) none none l).2.1.2.2 = some q → n ≤ q := fun z => by
  rcases z with z | z | z
  · cases z; exact h
  · cases z
  · cases z
theorem ge2 {b x q : Nat} {κ : Nat} {a : Int32} {l : Nat} (h : n ≤ b) (h2 : n ≤ x) : (rcd κ a (some b) (some x) none l).2.1.1 = some q ∨ (rcd κ a (some b) (some x) none l).2.1.2.1 = some q ∨ (rcd κ a (some b) (some x) none l).2.1.2.2 = some q → n ≤ q := fun z => by
  rcases z with z | z | z
  · cases z; exact h
  · cases z; exact h2
  · cases z
theorem ge0 {q : Nat} {κ : Nat} {a : Int32} {l : Nat} : (rcd κ a none none none l).2.1.1 = some q ∨ (rcd κ a none none none l).2.1.2.1 = some q ∨ (rcd κ a none none none l).2.1.2.2 = some q → n ≤ q := fun z => by
  rcases z with z | z | z <;> cases z
/-- the tail of a loop: the counter goes up; body, LOOP, SEQ -/
theorem tailP {j q0 L : Nat} (hL : L < 10) (hG : Gn T1 m d c σ1) (hm : m + 7 ≤ 110) (h0 : Rt false T1 m σ1 (n + 1) n) (h1 : Rt true T1 m σ1 (n + 4) (n + 2)) (hj : Rt false T1 m σ1 j (n + 5)) (hj1 : j + 1 = m) (hq : q0 = j) (hnj : n + 5 ≤ j) (hs : Sp T n σ T1 m σ1)
    (h : ∀ T' τ, Gn T' (m + 7) d c τ → Sp T n σ T' (m + 7) τ → Rt false T' (m + 7) τ (m + 6) n → (∀ k, k < m → T' k = T1 k) → (kd T' m ≠ 17 ∧ kd T' (m + 1) ≠ 17 ∧ kd T' (m + 2) ≠ 17 ∧ kd T' (m + 3) ≠ 17 ∧ kd T' (m + 6) ≠ 17) → (kd T' (m + 4) = 12 ∧ pB T' (m + 4) = some q0) → (kd T' (m + 5) = 16 ∧ pC T' (m + 5) = some (m + 4) ∧ av T' (m + 5) = nI L) → Φ (nI (m + 6)) τ) :
    wp_X9_add ga σ1 1 4 0 0 (fun (x20 : Int32) (σ19 : FS) => wp_X9_add ga σ19 0 1 0 0 (fun (x22 : Int32) (σ21 : FS) => wp_X9_add ga σ21 3 0 x20 x22 (fun (x24 : Int32) (σ23 : FS) => wp_X9_add ga σ23 13 4 x24 0 (fun (x26 : Int32) (σ25 : FS) => wp_X9_add ga σ25 12 0 (nI j) x26 (fun (x28 : Int32) (σ27 : FS) => wp_X9_add ga σ27 16 (nI L) (nI (n + 4)) x28 (fun (x30 : Int32) (σ29 : FS) => wp_X9_add ga σ29 12 0 (nI (n + 1)) x30 (fun (x32 : Int32) (σ31 : FS) => Φ x32 σ31))))))) := by
  refine mk0 (κ := 1) (a := 4) hG (by omega) (Or.inr (Or.inl rfl)) (fun e => by omega) (fun _ => ⟨4, rfl, by omega, by omega⟩) (fun e => by omega) (fun Ta τa pa => ?_)
  have ra := pa.root (e := true) (show (1 : Nat) < 8 by decide)
  refine mk0 (κ := 0) (a := 1) pa.1 (by omega) (Or.inl rfl) (fun _ => by decide) (fun e => by omega) (fun e => by omega) (fun Tb τb pb => ?_)
  have rb := pb.root (e := true) (show (0 : Nat) < 8 by decide)
  have ra2 := pb.old ra np0
  refine mkC (κ := 3) (a := 0) (b := m) (lb := m) (x := m + 1) pb.1 (by omega) (Or.inl ⟨by omega, by omega⟩) ra2 rb (by omega) (fun e => by omega) (fun e => by omega) (fun e => by omega) (fun _ => rfl) (fun Tc τc pc => ?_)
  have rc := pc.root (e := true) (show (3 : Nat) < 8 by decide)
  refine mkB (κ := 13) (a := 4) (b := m + 2) (lb := m) pc.1 (by omega) (Or.inr (Or.inl rfl)) rc (by omega) (fun e => by omega) (fun _ => ⟨4, rfl, by omega, fun e => by omega, fun _ => ⟨by omega, by omega⟩⟩) (fun Td τd pd => ?_)
  have rd := pd.root (e := false) (show 12 ≤ (13 : Nat) by decide)
  have go : ∀ {e r l}, Rt e T1 m σ1 r l → Rt e Td (m + 4) τd r l := fun hh => pd.old (pc.old (pb.old (pa.old hh np0) np0) (np2 (by have := hh.1; omega) (by have := hh.1; omega))) (np1 (by have := hh.1; omega))
  have j' := go hj
  have rd' : Rt false Td (m + 4) τd (m + 3) (j + 1) := by rw [hj1]; exact rd
  refine mkC (κ := 12) (a := 0) (b := j) (lb := n + 5) (x := m + 3) pd.1 (by omega) (Or.inr (Or.inl rfl)) j' rd' (by omega) (fun e => by omega) (fun e => by omega) (fun e => by omega) (fun _ => rfl) (fun Te τe pe => ?_)
  have re := pe.root (e := false) (show 12 ≤ (12 : Nat) by decide)
  have t' := pe.old (go h1) (np2 (by have := hj.1; omega) (by omega))
  refine mkC (κ := 16) (a := nI L) (b := n + 4) (lb := n + 2) (x := m + 4) pe.1 (by omega) (Or.inr (Or.inr (Or.inr (Or.inr rfl)))) t' re (by omega) (fun e => by omega) (fun e => by omega) (fun _ => ⟨L, hL, rfl⟩) (fun e => by omega) (fun Tf τf pf => ?_)
  have rf := pf.root (e := false) (show 12 ≤ (16 : Nat) by decide)
  have z' := pf.old (pe.old (go h0) (np2 (by omega) (by omega))) (np2 (by omega) (by omega))
  refine mkC (κ := 12) (a := 0) (b := n + 1) (lb := n) (x := m + 5) pf.1 (by omega) (Or.inr (Or.inl rfl)) z' rf (by omega) (fun e => by omega) (fun e => by omega) (fun e => by omega) (fun _ => rfl) (fun Tg τg pg => ?_)
  have rg := pg.root (e := false) (show 12 ≤ (12 : Nat) by decide)
  have s1 := hs.ad pa (fun _ => ge0)
  have s2 := s1.ad pb (fun _ => ge0)
  have s3 := s2.ad pc (fun _ => ge2 (by omega) (by omega))
  have s4 := s3.ad pd (fun _ => ge1 (by omega))
  have s5 := s4.ad pe (fun _ => ge2 (by omega) (by omega))
  have s6 := s5.ad pf (fun _ => ge2 (by omega) (by omega))
  have s7 := s6.ad pg (fun _ => ge2 (by omega) (by omega))
  have eg : ∀ k, k < m + 6 → Tg k = Tf k := pg.2.1
  have ef : ∀ k, k < m + 5 → Tg k = Te k := fun k hk => (eg k (by omega)).trans (pf.2.1 k hk)
  have ee : ∀ k, k < m + 4 → Tg k = Td k := fun k hk => (ef k (by omega)).trans (pe.2.1 k hk)
  have ed : ∀ k, k < m + 3 → Tg k = Tc k := fun k hk => (ee k (by omega)).trans (pd.2.1 k hk)
  have ec : ∀ k, k < m + 2 → Tg k = Tb k := fun k hk => (ed k (by omega)).trans (pc.2.1 k hk)
  have eb : ∀ k, k < m + 1 → Tg k = Ta k := fun k hk => (ec k (by omega)).trans (pb.2.1 k hk)
  have ea : ∀ k, k < m → Tg k = T1 k := fun k hk => (eb k (by omega)).trans (pa.2.1 k hk)
  refine h Tg τg pg.1 s7 rg ea ⟨?_, ?_, ?_, ?_, ?_⟩ ⟨?_, ?_⟩ ⟨?_, ?_, ?_⟩
  · unfold kd; rw [eb m (by omega), pa.2.2.1]; show (1 : Nat) ≠ 17; decide
  · unfold kd; rw [ec (m + 1) (by omega), pb.2.2.1]; show (0 : Nat) ≠ 17; decide
  · unfold kd; rw [ed (m + 2) (by omega), pc.2.2.1]; show (3 : Nat) ≠ 17; decide
  · unfold kd; rw [ee (m + 3) (by omega), pd.2.2.1]; show (13 : Nat) ≠ 17; decide
  · unfold kd; rw [pg.2.2.1]; show (12 : Nat) ≠ 17; decide
  · unfold kd; rw [ef (m + 4) (by omega), pe.2.2.1]
  · unfold pB; rw [ef (m + 4) (by omega), pe.2.2.1, hq]
  · unfold kd; rw [eg (m + 5) (by omega), pf.2.2.1]
  · unfold pC; rw [eg (m + 5) (by omega), pf.2.2.1]
  · unfold av; rw [eg (m + 5) (by omega), pf.2.2.1]
end QE
