section QF
variable {T T' T1 T2 : TT} {n d m : Nat} {σ τ σ1 σ2 : FS} {k : Nat} {Φ : Int32 → FS → Prop} {c : Int32} {ga : SG} {B : Nat → Prop} {D : Nat}
theorem Ad.dr {r : (Nat × Int32) × (Option Nat × Option Nat × Option Nat) × Nat} {v : Int32} (h : Ad T n d c (sF σ 88 2 v) r T' τ) : Ad T n d c σ r T' τ := by
  obtain ⟨a1, a2, a3, a4, a5⟩ := h
  exact ⟨a1, a2, a3, a4, fun j hj hn => by rw [a5 j hj hn, q_n (by omega)]⟩
theorem w14 : ∀ w : Nat, w < 4 → ¬ (1 + nI w < -999) ∧ ¬ (999 < 1 + nI w) := by decide
theorem loop_ok {a1 : Int32} (hga : ga.2.1 < 2 ^ 31) (hG : Gn T n d c σ) (hn : n + 26 ≤ 110) (hd : d + 25 < 2 ^ 20) (h : ∀ T' n' d' τ, Pc false T n c σ (fun m => m ≤ n + 26) (d + 25) T' n' d' τ → Φ (nI (n' - 1)) τ) : wp_X9_loop ga σ a1 Φ := by
  unfold wp_X9_loop
  refine draw_ok (m := 3) (d := d) hga (by omega) (by omega) hG.2.2.2.2.1 (by omega) (fun v hv => ?_)
  have G1 := hG.draw (by omega)
  refine mk0 (κ := 0) (a := 0) G1 (by omega) (Or.inl rfl) (fun _ => by decide) (fun e => by omega) (fun e => by omega) (fun Ta τa pa => ?_)
  have ra := pa.root (e := true) (show (0 : Nat) < 8 by decide)
  refine mkB (κ := 13) (a := 4) (b := n) (lb := n) pa.1 (by omega) (Or.inr (Or.inl rfl)) ra rfl (fun e => by omega) (fun _ => ⟨4, rfl, by omega, fun e => by omega, fun _ => ⟨by omega, by omega⟩⟩) (fun Tb τb pb => ?_)
  have rb := pb.root (e := false) (show 12 ≤ (13 : Nat) by decide)
  refine mk0 (κ := 1) (a := 4) pb.1 (by omega) (Or.inr (Or.inl rfl)) (fun e => by omega) (fun _ => ⟨4, rfl, by omega, by omega⟩) (fun e => by omega) (fun Tc τc pc => ?_)
  have rc := pc.root (e := true) (show (1 : Nat) < 8 by decide)
  have rb2 := pc.old rb np0
  refine draw_ok (m := 4) (d := d + 1) hga (by omega) (by omega) pc.1.2.2.2.2.1 (by omega) (fun w hw => ?_)
  have G2 := pc.1.draw (by omega)
  refine mk0 (κ := 0) (a := 1 + nI w) G2 (by omega) (Or.inl rfl) (fun _ => w14 w hw) (fun e => by omega) (fun e => by omega) (fun Td τd pd' => ?_)
  have pd := pd'.dr
  have rd := pd.root (e := true) (show (0 : Nat) < 8 by decide)
  have rb3 := pd.old rb2 np0
  have rc2 := pd.old rc np0
  refine mkC (κ := 7) (a := 0) (b := n + 2) (lb := n + 2) (x := n + 3) pd.1 (by omega) (Or.inl ⟨by omega, by omega⟩) rc2 rd (by omega) (fun e => by omega) (fun e => by omega) (fun e => by omega) (fun _ => rfl) (fun Te τe pe => ?_)
  have re := pe.root (e := true) (show (7 : Nat) < 8 by decide)
  have rb4 := pe.old rb3 (np2 (by omega) (by omega))
  have sp : Sp T n σ Te (n + 5) τe := ((((Sp.rf.ad pa.dr (fun _ => ge0)).ad pb (fun _ => ge1 (Nat.le_refl n))).ad pc (fun _ => ge0)).ad pd (fun _ => ge0)).ad pe (fun _ => ge2 (by omega) (by omega))
  -- the first five nodes are none of 17
  have e5 : ∀ k, n ≤ k → k < n + 5 → kd Te k ≠ 17 := by
    have h1 : ∀ k, n ≤ k → k < n + 1 → kd Ta k ≠ 17 := no17 (T := T) (m := n) (fun k a b => absurd b (by omega)) pa.2.1 (by unfold kd; rw [pa.2.2.1]; show (0 : Nat) ≠ 17; decide)
    have h2 := no17 h1 pb.2.1 (by unfold kd; rw [pb.2.2.1]; show (13 : Nat) ≠ 17; decide)
    have h3 := no17 h2 pc.2.1 (by unfold kd; rw [pc.2.2.1]; show (1 : Nat) ≠ 17; decide)
    have h4 := no17 h3 pd.2.1 (by unfold kd; rw [pd.2.2.1]; show (0 : Nat) ≠ 17; decide)
    exact no17 h4 pe.2.1 (by unfold kd; rw [pe.2.2.1]; show (7 : Nat) ≠ 17; decide)
  refine s0_ok hga Te (n + 5) (d + 2) c _ _ pe.1 (by omega) (by omega) (fun Tp m dp τp p => ?_)
  have pB' : m ≤ n + 5 + 8 ∨ m ≤ 0 := p.2.2.2.1
  have p3 := p.2.2.1
  have pD := p.2.2.2.2.1
  refine draw_ok (m := 3) (d := dp) hga (by omega) (by omega) p.gn.2.2.2.2.1 (by omega) (fun z hz => ?_)
  have Gp := p.gn.draw (by omega)
  have sp2 : Sp T n σ Tp m (sF τp 88 2 (nI (dp + 1))) := (sp.pc p).dr
  have z1 : Rt false Tp m (sF τp 88 2 (nI (dp + 1))) (n + 1) n := (p.old rb4).dr
  have t1 : Rt true Tp m (sF τp 88 2 (nI (dp + 1))) (n + 4) (n + 2) := (p.old re).dr
  have i1 : Rt false Tp m (sF τp 88 2 (nI (dp + 1))) (m - 1) (n + 5) := p.rt.dr
  by_cases hz0 : z = 0
  · rw [hz0]
    refine br_t rfl (x1_ok hga Tp m (dp + 1) c _ _ Gp (by omega) (by omega) (fun Tq q dq τq pq => ?_))
    have qB : q ≤ m + 3 := pq.2.2.2.1
    have q3 := pq.2.2.1
    have qD := pq.2.2.2.2.1
    refine mk0 (κ := 17) (a := nI v) pq.gn (by omega) (Or.inr (Or.inr rfl)) (fun e => by omega) (fun e => by omega) (fun _ => ⟨v, by omega, rfl⟩) (fun Tr τr pr => ?_)
    have rr := pr.root (e := false) (show 12 ≤ (17 : Nat) by decide)
    have rq := pr.old pq.rt np0
    have rr' : Rt false Tr (q + 1) τr q (q - 1 + 1) := by rw [show q - 1 + 1 = q by omega]; exact rr
    refine mkC (κ := 15) (a := -1) (b := q - 1) (lb := m) (x := q) pr.1 (by omega) (Or.inr (Or.inr (Or.inr (Or.inl rfl)))) rq rr' rfl (fun e => by omega) (fun _ => rfl) (fun e => by omega) (fun e => by omega) (fun Ts τs ps => ?_)
    have rs := ps.root (e := false) (show 12 ≤ (15 : Nat) by decide)
    have i2 := ps.old (pr.old (pq.old i1) np0) (np2 (by omega) (by omega))
    have rs' : Rt false Ts (q + 2) τs (q + 1) (m - 1 + 1) := by rw [show m - 1 + 1 = m by omega]; exact rs
    refine mkC (κ := 12) (a := 0) (b := m - 1) (lb := n + 5) (x := q + 1) ps.1 (by omega) (Or.inr (Or.inl rfl)) i2 rs' rfl (fun e => by omega) (fun e => by omega) (fun e => by omega) (fun _ => rfl) (fun Tt τt pt' => ?_)
    have rt := pt'.root (e := false) (show 12 ≤ (12 : Nat) by decide)
    have z2 := pt'.old (ps.old (pr.old (pq.old z1) np0) (np2 (by omega) (by omega))) (np2 (by omega) (by omega))
    have t2 := pt'.old (ps.old (pr.old (pq.old t1) np0) (np2 (by omega) (by omega))) (np2 (by omega) (by omega))
    have sp3 : Sp T n σ Tt (q + 3) τt := (((sp2.pc pq).ad pr (fun _ => ge0)).ad ps (fun _ => ge2 (by omega) (by omega))).ad pt' (fun _ => ge2 (by omega) (by omega))
    refine tailP (n := n) (j := q + 2) (q0 := q + 2) (L := v) (by omega) pt'.1 (by omega) z2 t2 rt rfl rfl (by omega) sp3 (fun Tz τz Gz sz rz ez nz n12 n16 => ?_)
    have et : ∀ k, k < q + 3 → Tz k = Tt k := ez
    have es : ∀ k, k < q + 2 → Tz k = Ts k := fun k hk => (et k (by omega)).trans (pt'.2.1 k hk)
    have er : ∀ k, k < q + 1 → Tz k = Tr k := fun k hk => (es k (by omega)).trans (ps.2.1 k hk)
    have eq : ∀ k, k < q → Tz k = Tq k := fun k hk => (er k (by omega)).trans (pr.2.1 k hk)
    have ep : ∀ k, k < m → Tz k = Tp k := fun k hk => (eq k (by omega)).trans (pq.2.1 k hk)
    have ee : ∀ k, k < n + 5 → Tz k = Te k := fun k hk => (ep k (by omega)).trans (p.2.1 k hk)
    refine h Tz (q + 10) dq τz ⟨Gz, sz.1, by omega, by show q + 10 ≤ n + 26; omega, by omega, rz, sz.2.2, ?_, fun e => (by cases e)⟩
    intro k k1 k2 k17
    by_cases a1 : k < n + 5
    · exact absurd (by unfold kd at k17 ⊢; rw [← ee k a1]; exact k17) (e5 k k1 a1)
    by_cases a2 : k < m
    · have := (p.lb.ext ep) k (by omega) a2 k17
      exact ⟨by omega, this.2⟩
    by_cases a3 : k < q
    · exact absurd (by unfold kd at k17 ⊢; rw [← eq k a3]; exact k17) (pq.2.2.2.2.2.2.2.2 rfl k (by omega) a3)
    by_cases a4 : k = q
    · rw [a4]
      refine ⟨by omega, ⟨?_, ?_⟩, ⟨?_, ?_⟩, ⟨?_, ?_⟩, ⟨?_, ?_⟩, ?_⟩
      · unfold kd; rw [es (q + 1) (by omega), ps.2.2.1]
      · unfold pC; rw [es (q + 1) (by omega), ps.2.2.1]
      · unfold kd; rw [et (q + 2) (by omega), pt'.2.2.1]
      · unfold pC; rw [et (q + 2) (by omega), pt'.2.2.1]
      · exact n12.1
      · exact n12.2
      · exact n16.1
      · exact n16.2.1
      · rw [show q + 8 = q + 3 + 5 by omega, n16.2.2]
        unfold av; rw [er q (by omega), pr.2.2.1]
    exfalso
    by_cases a5 : k = q + 1
    · rw [a5] at k17; unfold kd at k17; rw [es (q + 1) (by omega), ps.2.2.1] at k17; exact absurd k17 (show ¬ (15 : Nat) = 17 by decide)
    by_cases a6 : k = q + 2
    · rw [a6] at k17; unfold kd at k17; rw [et (q + 2) (by omega), pt'.2.2.1] at k17; exact absurd k17 (show ¬ (12 : Nat) = 17 by decide)
    by_cases b0 : k = q + 3
    · rw [b0] at k17; exact nz.1 k17
    by_cases b1 : k = q + 3 + 1
    · rw [b1] at k17; exact nz.2.1 k17
    by_cases b2 : k = q + 3 + 2
    · rw [b2] at k17; exact nz.2.2.1 k17
    by_cases b3 : k = q + 3 + 3
    · rw [b3] at k17; exact nz.2.2.2.1 k17
    by_cases b4 : k = q + 3 + 4
    · rw [b4, n12.1] at k17; omega
    by_cases b5 : k = q + 3 + 5
    · rw [b5, n16.1] at k17; omega
    · have b6 : k = q + 3 + 6 := by omega
      rw [b6] at k17; exact nz.2.2.2.2 k17
  · refine br_f (nI_ne (b := 0) hz0 (by omega) (by omega)) ?_
    refine tailP (n := n) (j := m - 1) (q0 := m - 1) (L := v) (by omega) Gp (by omega) z1 t1 i1 (by omega) rfl (by omega) sp2 (fun Tz τz Gz sz rz ez nz n12 n16 => ?_)
    have ee : ∀ k, k < n + 5 → Tz k = Te k := fun k hk => (ez k (by omega)).trans (p.2.1 k hk)
    have := h Tz (m + 7) (dp + 1) τz ⟨Gz, sz.1, by omega, by show m + 7 ≤ n + 26; omega, by omega, rz, sz.2.2, ?_, fun e => (by cases e)⟩
    · exact this
    intro k k1 k2 k17
    by_cases a1 : k < n + 5
    · exact absurd (by unfold kd at k17 ⊢; rw [← ee k a1]; exact k17) (e5 k k1 a1)
    by_cases a2 : k < m
    · have := (p.lb.ext ez) k (by omega) a2 k17
      exact ⟨by omega, this.2⟩
    exfalso
    by_cases b0 : k = m
    · rw [b0] at k17; exact nz.1 k17
    by_cases b1 : k = m + 1
    · rw [b1] at k17; exact nz.2.1 k17
    by_cases b2 : k = m + 2
    · rw [b2] at k17; exact nz.2.2.1 k17
    by_cases b3 : k = m + 3
    · rw [b3] at k17; exact nz.2.2.2.1 k17
    by_cases b4 : k = m + 4
    · rw [b4, n12.1] at k17; omega
    by_cases b5 : k = m + 5
    · rw [b5, n16.1] at k17; omega
    · have b6 : k = m + 6 := by omega
      rw [b6] at k17; exact nz.2.2.2.2 k17
end QF
section QG1
variable {T T' T1 T2 : TT} {n d m : Nat} {σ τ σ1 σ2 : FS} {k : Nat} {Φ : Int32 → FS → Prop} {c : Int32} {ga : SG} {B : Nat → Prop} {D : Nat}
def gS (ga : SG) (dp : Int32) (inner : FS → (Int32 → FS → Prop) → Prop) (σ : FS) (Φ : Int32 → FS → Prop) : Prop :=
  (((σ.1 88 3) ≤ 55 → wp_X9_draw ga σ 7 (fun (x2 : Int32) (σ1 : FS) => ((x2 = 0 → wp_X9_draw ga σ1 2 (fun (x4 : Int32) (σ3 : FS) => wp_X9_expression_2 ga σ3 (fun (x6 : Int32) (σ5 : FS) => wp_X9_add ga σ5 13 x4 x6 0 (fun (x8 : Int32) (σ7 : FS) => Φ x8 σ7)))) ∧ (¬ (x2 = 0) → ((x2 = 1 → wp_X9_expression_2 ga σ1 (fun (x10 : Int32) (σ9 : FS) => wp_X9_add ga σ9 19 0 x10 0 (fun (x12 : Int32) (σ11 : FS) => Φ x12 σ11))) ∧ (¬ (x2 = 1) → ((x2 = 2 → wp_X9_draw ga σ1 4 (fun (x14 : Int32) (σ13 : FS) => ((x14 = 0 → wp_X9_expression_1 ga σ13 (fun (x24 : Int32) (σ23 : FS) => wp_X9_expression_1 ga σ23 (fun (x26 : Int32) (σ25 : FS) => wp_X9_add ga σ25 14 2 x24 x26 (fun (x28 : Int32) (σ27 : FS) => Φ x28 σ27)))) ∧ (¬ (x14 = 0) → wp_X9_draw ga σ13 4 (fun (x16 : Int32) (σ15 : FS) => wp_X9_add ga σ15 0 x16 0 0 (fun (x18 : Int32) (σ17 : FS) => wp_X9_expression_1 ga σ17 (fun (x20 : Int32) (σ19 : FS) => wp_X9_add ga σ19 14 2 x18 x20 (fun (x22 : Int32) (σ21 : FS) => Φ x22 σ21)))))))) ∧ (¬ (x2 = 2) → ((x2 = 3 → wp_X9_expression_1 ga σ1 (fun (x30 : Int32) (σ29 : FS) => inner σ29 (fun (x32 : Int32) (σ31 : FS) => wp_X9_draw ga σ31 2 (fun (x34 : Int32) (σ33 : FS) => ((x34 = 0 → wp_X9_add ga σ33 15 (-1) x30 x32 (fun (x40 : Int32) (σ39 : FS) => Φ x40 σ39)) ∧ (¬ (x34 = 0) → inner σ33 (fun (x36 : Int32) (σ35 : FS) => wp_X9_add ga σ35 15 x36 x30 x32 (fun (x38 : Int32) (σ37 : FS) => Φ x38 σ37)))))))) ∧ (¬ (x2 = 3) → ((x2 = 4 → wp_X9_loop ga σ1 dp (fun (x42 : Int32) (σ41 : FS) => Φ x42 σ41)) ∧ (¬ (x2 = 4) → inner σ1 (fun (x44 : Int32) (σ43 : FS) => inner σ43 (fun (x46 : Int32) (σ45 : FS) => wp_X9_add ga σ45 12 0 x44 x46 (fun (x48 : Int32) (σ47 : FS) => Φ x48 σ47))))))))))))))) ∧ (¬ ((σ.1 88 3) ≤ 55) → wp_X9_draw ga σ 3 (fun (x50 : Int32) (σ49 : FS) => ((x50 = 0 → wp_X9_draw ga σ49 2 (fun (x52 : Int32) (σ51 : FS) => wp_X9_expression_2 ga σ51 (fun (x54 : Int32) (σ53 : FS) => wp_X9_add ga σ53 13 x52 x54 0 (fun (x56 : Int32) (σ55 : FS) => Φ x56 σ55)))) ∧ (¬ (x50 = 0) → ((x50 = 1 → wp_X9_expression_2 ga σ49 (fun (x58 : Int32) (σ57 : FS) => wp_X9_add ga σ57 19 0 x58 0 (fun (x60 : Int32) (σ59 : FS) => Φ x60 σ59))) ∧ (¬ (x50 = 1) → ((x50 = 2 → wp_X9_draw ga σ49 4 (fun (x62 : Int32) (σ61 : FS) => ((x62 = 0 → wp_X9_expression_1 ga σ61 (fun (x72 : Int32) (σ71 : FS) => wp_X9_expression_1 ga σ71 (fun (x74 : Int32) (σ73 : FS) => wp_X9_add ga σ73 14 2 x72 x74 (fun (x76 : Int32) (σ75 : FS) => Φ x76 σ75)))) ∧ (¬ (x62 = 0) → wp_X9_draw ga σ61 4 (fun (x64 : Int32) (σ63 : FS) => wp_X9_add ga σ63 0 x64 0 0 (fun (x66 : Int32) (σ65 : FS) => wp_X9_expression_1 ga σ65 (fun (x68 : Int32) (σ67 : FS) => wp_X9_add ga σ67 14 2 x66 x68 (fun (x70 : Int32) (σ69 : FS) => Φ x70 σ69)))))))) ∧ (¬ (x50 = 2) → ((x50 = 3 → wp_X9_expression_1 ga σ49 (fun (x78 : Int32) (σ77 : FS) => inner σ77 (fun (x80 : Int32) (σ79 : FS) => wp_X9_draw ga σ79 2 (fun (x82 : Int32) (σ81 : FS) => ((x82 = 0 → wp_X9_add ga σ81 15 (-1) x78 x80 (fun (x88 : Int32) (σ87 : FS) => Φ x88 σ87)) ∧ (¬ (x82 = 0) → inner σ81 (fun (x84 : Int32) (σ83 : FS) => wp_X9_add ga σ83 15 x84 x78 x80 (fun (x86 : Int32) (σ85 : FS) => Φ x86 σ85)))))))) ∧ (¬ (x50 = 3) → ((x50 = 4 → wp_X9_loop ga σ49 dp (fun (x90 : Int32) (σ89 : FS) => Φ x90 σ89)) ∧ (¬ (x50 = 4) → inner σ49 (fun (x92 : Int32) (σ91 : FS) => inner σ91 (fun (x94 : Int32) (σ93 : FS) => wp_X9_add ga σ93 12 0 x92 x94 (fun (x96 : Int32) (σ95 : FS) => Φ x96 σ95))))))))))))))))
theorem gS_ok {inner : FS → (Int32 → FS → Prop) → Prop} {u U D : Nat} {dp : Int32} (hga : ga.2.1 < 2 ^ 31) (hD : 16 ≤ D) (hu : u ≤ 90) (h1 : 81 ≤ U) (h2 : u + 9 ≤ U) (hi : CS ga inner u D) : CS ga (gS ga dp inner) U (2 * D + 8) := by
  intro T n d c σ Φ hG hn hd h
  unfold gS
  have G1 := hG.draw (by omega)
  have hh : ∀ T' n' d' τ, Pc false T n c (sF σ 88 2 (nI (d + 1))) (fun m => m ≤ n + 8 ∨ m ≤ U) (d + (2 * D + 8)) T' n' d' τ → Φ (nI (n' - 1)) τ := fun T' n' d' τ p => h T' n' d' τ p.dr
  have S := setP hga G1 hn (by omega) (fun m hm => Or.inl hm) (by omega) hh
  have P := printP hga G1 hn (by omega) (fun m hm => Or.inl hm) (by omega) hh
  have R := storeP hga G1 hn (by omega) (fun m hm => Or.inl hm) (by omega) hh
  rw [hG.2.2.1]
  refine ⟨fun h55 => ?_, fun _ => ?_⟩
  · have n55 : n ≤ 55 := (nI_leI (b := 55) (by omega) (by omega)).mp h55
    refine draw_ok (m := 7) (d := d) hga (by omega) (by omega) hG.2.2.2.2.1 (by omega) (fun v hv => ?_)
    by_cases v0 : v = 0
    · rw [v0]; exact br_t rfl S
    refine br_f (nI_ne (b := 0) v0 (by omega) (by omega)) ?_
    by_cases v1 : v = 1
    · rw [v1]; exact br_t rfl P
    refine br_f (nI_ne (b := 1) v1 (by omega) (by omega)) ?_
    by_cases v2 : v = 2
    · rw [v2]; exact br_t rfl R
    refine br_f (nI_ne (b := 2) v2 (by omega) (by omega)) ?_
    by_cases v3 : v = 3
    · rw [v3]
      refine br_t rfl (x1_ok hga T n (d + 1) c _ _ G1 (by omega) (by omega) (fun T1 n1 d1 τ1 p => ?_))
      have pb : n1 ≤ n + 3 := p.2.2.2.1
      have p3 := p.2.2.1
      have pd := p.2.2.2.2.1
      refine hi T1 n1 d1 c _ _ p.gn (by omega) (by omega) (fun T2 n2 d2 τ2 q => ?_)
      have qb : n2 ≤ n1 + 8 ∨ n2 ≤ u := q.2.2.2.1
      have q3 := q.2.2.1
      have qd := q.2.2.2.2.1
      refine draw_ok (m := 2) (d := d2) hga (by omega) (by omega) q.gn.2.2.2.2.1 (by omega) (fun w hw => ?_)
      have G2 := q.gn.draw (by omega)
      by_cases w0 : w = 0
      · rw [w0]
        exact br_t rfl (endC (κ := 15) (D := d2 + 1) (B := fun m => m ≤ n + 8 ∨ m ≤ U) (D' := d + (2 * D + 8)) (Or.inr (Or.inr rfl)) p.dr q rfl rfl (by omega) (fun e => by omega) (fun _ => rfl) (fun e => by omega) G2 (q_n (by omega)) (Or.inr (by show n2 + 1 ≤ U; omega)) (by omega) h)
      · refine br_f (nI_ne (b := 0) w0 (by omega) (by omega)) (hi T2 n2 (d2 + 1) c _ _ G2 (by omega) (by omega) (fun T3 n3 d3 τ3 r => ?_))
        have rb : n3 ≤ n2 + 8 ∨ n3 ≤ u := r.2.2.2.1
        have r3 := r.2.2.1
        have rd := r.2.2.2.2.1
        refine mkI (b := n1 - 1) (lb := n) (x := n2 - 1) (y := n3 - 1) r.gn (by omega) (r.old (q.old p.rt).dr) ?_ ?_ (by omega) (fun T' τ' a => ?_)
        · rw [show n1 - 1 + 1 = n1 by omega]; exact r.old q.rt.dr
        · rw [show n2 - 1 + 1 = n2 by omega]; exact r.rt
        · have hs : Sp T n σ T3 n3 τ3 := (((Sp.rf.pc p.dr).pc q).dr).pc r
          have := h T' (n3 + 1) d3 τ' (fin1 hs a (fun z hz => ?_) ((((p.lb.ext q.2.1).join q.lb (by omega)).ext r.2.1).join r.lb (by omega)) (fun e => (by cases e)) (show (15 : Nat) ≠ 17 by decide) (show 12 ≤ (15 : Nat) by decide) rfl (Or.inr (by show n3 + 1 ≤ U; omega)) (by omega))
          · exact this
          · rcases hz with hz | hz | hz
            · cases hz; omega
            · cases hz; omega
            · cases hz; omega
    refine br_f (nI_ne (b := 3) v3 (by omega) (by omega)) ?_
    by_cases v4 : v = 4
    · rw [v4]
      exact br_t rfl (loop_ok hga G1 (by omega) (by omega) (fun T' n' d' τ p => h T' n' d' τ (p.dr.mono (fun hb => Or.inr (by have : n' ≤ n + 26 := hb; omega)) (by omega))))
    · refine br_f (nI_ne (b := 4) v4 (by omega) (by omega)) (hi T n (d + 1) c _ _ G1 (by omega) (by omega) (fun T1 n1 d1 τ1 p => ?_))
      have pb : n1 ≤ n + 8 ∨ n1 ≤ u := p.2.2.2.1
      have p3 := p.2.2.1
      have pd := p.2.2.2.2.1
      refine hi T1 n1 d1 c _ _ p.gn (by omega) (by omega) (fun T2 n2 d2 τ2 q => ?_)
      have qb : n2 ≤ n1 + 8 ∨ n2 ≤ u := q.2.2.2.1
      have q3 := q.2.2.1
      have qd := q.2.2.2.2.1
      exact endC (κ := 12) (D := d2) (B := fun m => m ≤ n + 8 ∨ m ≤ U) (D' := d + (2 * D + 8)) (Or.inl rfl) p.dr q rfl rfl (by omega) (fun e => by omega) (fun e => by omega) (fun _ => rfl) q.gn rfl (Or.inr (by show n2 + 1 ≤ U; omega)) (by omega) h
  · refine draw_ok (m := 3) (d := d) hga (by omega) (by omega) hG.2.2.2.2.1 (by omega) (fun v hv => ?_)
    rcases (show v = 0 ∨ v = 1 ∨ v = 2 by omega) with rfl | rfl | rfl
    · exact br_t rfl S
    · exact br_f (by decide) (br_t rfl P)
    · exact br_f (by decide) (br_f (by decide) (br_t rfl R))
theorem s1_ok (hga : ga.2.1 < 2 ^ 31) : CS ga (wp_X9_statement_1 ga) 81 40 := by
  have := gS_ok (dp := 1) (u := 0) (U := 81) (inner := wp_X9_statement_0 ga) hga (by omega) (by omega) (by omega) (by omega) (s0_ok hga)
  intro T n d c σ Φ hG hn hd h
  unfold wp_X9_statement_1
  exact this T n d c σ Φ hG hn hd h
theorem s2_ok (hga : ga.2.1 < 2 ^ 31) : CS ga (wp_X9_statement_2 ga) 90 88 := by
  have := gS_ok (dp := 2) (u := 81) (U := 90) (inner := wp_X9_statement_1 ga) hga (by omega) (by omega) (by omega) (by omega) (s1_ok hga)
  intro T n d c σ Φ hG hn hd h
  unfold wp_X9_statement_2
  exact this T n d c σ Φ hG hn hd h
theorem s3_ok (hga : ga.2.1 < 2 ^ 31) : CS ga (wp_X9_statement_3 ga) 99 184 := by
  have := gS_ok (dp := 3) (u := 90) (U := 99) (inner := wp_X9_statement_2 ga) hga (by omega) (by omega) (by omega) (by omega) (s2_ok hga)
  intro T n d c σ Φ hG hn hd h
  unfold wp_X9_statement_3
  exact this T n d c σ Φ hG hn hd h
end QG1
