section PV
variable {T : TT} {N top : Nat} {σ σ0 τ : FS} {k t a : Nat} {Φ : Int32 → FS → Prop} {Ψ : FS → Prop} {c cl : Int32} {most : Nat}
theorem cut0 {b N w : Nat} (hW : ∃ n, n < 2 ^ 30 ∧ tb b w n σ) (h : ∀ τ, Fr (fun a => a == b) σ τ → tb b w 0 τ → Ψ τ) : wp_X7_cut b N σ 0 Ψ := by
  obtain ⟨n, hn, hT⟩ := hW
  rw [i0]
  exact cut_ok hT (Nat.zero_le n) (by omega) h
def S65 (a : Nat) : Bool := decide (65 ≤ a ∧ a ≤ 75)
theorem S65_f {a : Nat} (h : ¬ (65 ≤ a ∧ a ≤ 75)) : S65 a = false := decide_eq_false h
theorem S65_t {a : Nat} (h : 65 ≤ a ∧ a ≤ 75) : S65 a = true := decide_eq_true h
theorem wt_fr {b w : Nat} {S : Nat → Bool} (h : ∃ n, n < 2 ^ 30 ∧ tb b w n σ) (hF : Fr S σ τ) (hs : S b = false) : ∃ n, n < 2 ^ 30 ∧ tb b w n τ := by
  obtain ⟨n, hn, hT⟩ := h
  exact ⟨n, hn, tb_fr hT hF hs⟩
theorem clear_ok' (hW : WT σ) (h : ∀ τ, Fr S65 σ τ → (tb 66 2 0 τ ∧ tb 68 2 0 τ ∧ tb 70 3 0 τ ∧ tb 72 5 0 τ ∧ tb 74 5 0 τ) → (τ.1 65 13 = -1 ∧ τ.1 65 14 = 0 ∧ τ.1 65 15 = 0 ∧ τ.1 65 16 = 0) → Ψ τ) : wp_X3_clear σ Ψ := by
  obtain ⟨w1, w2, w3, w4, w5⟩ := hW
  unfold wp_X3_clear
  refine cut0 w1 (fun τ1 F1 T1 => ?_)
  refine cut0 (wt_fr w2 F1 rfl) (fun τ2 F2 T2 => ?_)
  refine cut0 (wt_fr (wt_fr w3 F1 rfl) F2 rfl) (fun τ3 F3 T3 => ?_)
  refine cut0 (wt_fr (wt_fr (wt_fr w4 F1 rfl) F2 rfl) F3 rfl) (fun τ4 F4 T4 => ?_)
  refine cut0 (wt_fr (wt_fr (wt_fr (wt_fr w5 F1 rfl) F2 rfl) F3 rfl) F4 rfl) (fun τ5 F5 T5 => ?_)
  refine nm_e (nm_e (nm_e (nm_e (h _ ?_ ⟨?_, ?_, ?_, ?_, ?_⟩ ⟨?_, ?_, ?_, ?_⟩))))
  · have m : ∀ b, 65 ≤ b → b ≤ 75 → ∀ a, S65 a = false → (a == b) = false := fun b b1 b2 a ha => beq_false_of_ne (by have := of_decide_eq_false ha; omega)
    exact ((((((((F1.mono (m 66 (by omega) (by omega))).tr (F2.mono (m 68 (by omega) (by omega)))).tr (F3.mono (m 70 (by omega) (by omega)))).tr (F4.mono (m 72 (by omega) (by omega)))).tr (F5.mono (m 74 (by omega) (by omega)))).put rfl).put rfl).put rfl).put rfl
  · have := tb_fr (tb_fr (tb_fr (tb_fr T1 F2 rfl) F3 rfl) F4 rfl) F5 rfl
    exact ⟨by rw [q_n (by omega), q_n (by omega), q_n (by omega), q_n (by omega)]; exact this.1, by rw [q_n (by omega), q_n (by omega), q_n (by omega), q_n (by omega)]; exact this.2⟩
  · have := tb_fr (tb_fr (tb_fr T2 F3 rfl) F4 rfl) F5 rfl
    exact ⟨by rw [q_n (by omega), q_n (by omega), q_n (by omega), q_n (by omega)]; exact this.1, by rw [q_n (by omega), q_n (by omega), q_n (by omega), q_n (by omega)]; exact this.2⟩
  · have := tb_fr (tb_fr T3 F4 rfl) F5 rfl
    exact ⟨by rw [q_n (by omega), q_n (by omega), q_n (by omega), q_n (by omega)]; exact this.1, by rw [q_n (by omega), q_n (by omega), q_n (by omega), q_n (by omega)]; exact this.2⟩
  · have := tb_fr T4 F5 rfl
    exact ⟨by rw [q_n (by omega), q_n (by omega), q_n (by omega), q_n (by omega)]; exact this.1, by rw [q_n (by omega), q_n (by omega), q_n (by omega), q_n (by omega)]; exact this.2⟩
  · exact ⟨by rw [q_n (by omega), q_n (by omega), q_n (by omega), q_n (by omega)]; exact T5.1, by rw [q_n (by omega), q_n (by omega), q_n (by omega), q_n (by omega)]; exact T5.2⟩
  · rw [q_o (by omega), q_o (by omega), q_o (by omega), q_s]
  · rw [q_o (by omega), q_o (by omega), q_s]
  · rw [q_o (by omega), q_s]
  · rw [q_s]
theorem start_ok (h : ∀ τ, Fr (fun a => a == t) σ τ → (τ.1 t 0 = 0 ∧ τ.1 t 1 = -1 ∧ τ.1 t 2 = -1 ∧ τ.1 t 3 = 0 ∧ τ.1 t 4 = 0 ∧ τ.1 t 5 = 0 ∧ τ.1 t 6 = 0 ∧ τ.1 t 7 = 0 ∧ τ.1 t 8 = 0 ∧ τ.1 t 9 = 0) → Ψ τ) : wp_X6_start t σ Ψ := by
  unfold wp_X6_start
  refine nm_e (nm_e (nm_e (nm_e (nm_e (nm_e (nm_e (nm_e (nm_e (nm_e (nm_e ?_))))))))))
  have pp : ∀ (ρ : FS) (i : Nat) (v : Int32), Fr (fun a => a == t) σ ρ → Fr (fun a => a == t) σ (sF ρ t i v) := fun ρ i v hρ => Fr.put (S := fun a => a == t) (k := t) hρ (beq_self_eq_true t)
  refine h _ (Fr.long (pp _ _ _ (pp _ _ _ (pp _ _ _ (pp _ _ _ (pp _ _ _ (pp _ _ _ (pp _ _ _ (pp _ _ _ (pp _ _ _ (pp _ _ _ Fr.rf))))))))))) ?_
  show (sF (sF (sF (sF (sF (sF (sF (sF (sF (sF σ t 0 0) t 1 (-1)) t 2 (-1)) t 3 0) t 4 0) t 5 0) t 6 0) t 7 0) t 8 0) t 9 0).1 t 0 = 0 ∧ (sF (sF (sF (sF (sF (sF (sF (sF (sF (sF σ t 0 0) t 1 (-1)) t 2 (-1)) t 3 0) t 4 0) t 5 0) t 6 0) t 7 0) t 8 0) t 9 0).1 t 1 = -1 ∧ (sF (sF (sF (sF (sF (sF (sF (sF (sF (sF σ t 0 0) t 1 (-1)) t 2 (-1)) t 3 0) t 4 0) t 5 0) t 6 0) t 7 0) t 8 0) t 9 0).1 t 2 = -1 ∧ (sF (sF (sF (sF (sF (sF (sF (sF (sF (sF σ t 0 0) t 1 (-1)) t 2 (-1)) t 3 0) t 4 0) t 5 0) t 6 0) t 7 0) t 8 0) t 9 0).1 t 3 = 0 ∧ (sF (sF (sF (sF (sF (sF (sF (sF (sF (sF σ t 0 0) t 1 (-1)) t 2 (-1)) t 3 0) t 4 0) t 5 0) t 6 0) t 7 0) t 8 0) t 9 0).1 t 4 = 0 ∧ (sF (sF (sF (sF (sF (sF (sF (sF (sF (sF σ t 0 0) t 1 (-1)) t 2 (-1)) t 3 0) t 4 0) t 5 0) t 6 0) t 7 0) t 8 0) t 9 0).1 t 5 = 0 ∧ (sF (sF (sF (sF (sF (sF (sF (sF (sF (sF σ t 0 0) t 1 (-1)) t 2 (-1)) t 3 0) t 4 0) t 5 0) t 6 0) t 7 0) t 8 0) t 9 0).1 t 6 = 0 ∧ (sF (sF (sF (sF (sF (sF (sF (sF (sF (sF σ t 0 0) t 1 (-1)) t 2 (-1)) t 3 0) t 4 0) t 5 0) t 6 0) t 7 0) t 8 0) t 9 0).1 t 7 = 0 ∧ (sF (sF (sF (sF (sF (sF (sF (sF (sF (sF σ t 0 0) t 1 (-1)) t 2 (-1)) t 3 0) t 4 0) t 5 0) t 6 0) t 7 0) t 8 0) t 9 0).1 t 8 = 0 ∧ (sF (sF (sF (sF (sF (sF (sF (sF (sF (sF σ t 0 0) t 1 (-1)) t 2 (-1)) t 3 0) t 4 0) t 5 0) t 6 0) t 7 0) t 8 0) t 9 0).1 t 9 = 0
  simp only [q_e]
  exact ⟨rfl, rfl, rfl, rfl, rfl, rfl, rfl, rfl, rfl, rfl⟩
theorem tput2 {b N w cnt q r : Nat} {v : Int32} (hT : tb b w cnt σ) (h1 : r < cnt) (h2 : q < w) (hN : r * w + q < N) (hN1 : N < 2 ^ 31) (hc : cnt < 2 ^ 31) (hw : w < 2 ^ 31) (h : ∀ τ, Fr (fun a => a == b + 1) σ τ → tb b w cnt τ → (∀ j, j ≠ r * w + q → τ.1 (b + 1) j = σ.1 (b + 1) j) → τ.1 (b + 1) (r * w + q) = v → Ψ τ) : wp_X7_put b N σ (nI r) (nI q) v Ψ :=
  tput_ok hT h1 h2 hN hN1 hc hw (h _ (Fr.put (S := fun a => a == b + 1) (k := b + 1) Fr.rf (beq_self_eq_true _)) ⟨by rw [q_n (by omega)]; exact hT.1, by rw [q_n (by omega)]; exact hT.2⟩ (fun j hj => q_o hj) q_s)
theorem keepReturn_ok {b0 l0 : Int32} (h72 : tb 72 5 0 σ) (h13 : σ.1 65 13 = -1) (h74 : σ.1 74 2 = 0) (h : ∀ τ, Fr (fun a => a == 72 || a == 73) σ τ → tb 72 5 1 τ → τ.1 73 0 = b0 → τ.1 73 1 = -1 → τ.1 73 2 = l0 → τ.1 73 4 = 0 → Ψ τ) : wp_X3_keepReturn σ b0 l0 Ψ := by
  unfold wp_X3_keepReturn
  refine add_ok (N := 320) h72 (by omega) (by omega) (by omega) (by omega) (fun τ F T1 _ _ => ?_)
  have p1 : wp_X7_put 72 320 τ (nI 0) (nI 0) b0 (fun (σ3 : FS) => wp_X7_put 72 320 σ3 (nI 0) (nI 1) (σ3.1 65 13) (fun (σ4 : FS) => wp_X7_put 72 320 σ4 (nI 0) (nI 2) l0 (fun (σ5 : FS) => wp_X7_put 72 320 σ5 (nI 0) (nI 3) (σ5.1 65 15) (fun (σ6 : FS) => wp_X7_put 72 320 σ6 (nI 0) (nI 4) (σ6.1 74 2) (fun (σ7 : FS) => Ψ σ7))))) := by
    refine tput2 T1 (by omega) (by omega) (by omega) (by omega) (by omega) (by omega) (fun τ1 F1 U1 o1 e1 => ?_)
    refine tput2 U1 (by omega) (by omega) (by omega) (by omega) (by omega) (by omega) (fun τ2 F2 U2 o2 e2 => ?_)
    refine tput2 U2 (by omega) (by omega) (by omega) (by omega) (by omega) (by omega) (fun τ3 F3 U3 o3 e3 => ?_)
    refine tput2 U3 (by omega) (by omega) (by omega) (by omega) (by omega) (by omega) (fun τ4 F4 U4 o4 e4 => ?_)
    refine tput2 U4 (by omega) (by omega) (by omega) (by omega) (by omega) (by omega) (fun τ5 F5 U5 o5 e5 => ?_)
    have mm : ∀ a, (a == 72 || a == 73) = false → (a == 72 + 1) = false := fun a ha => (Bool.or_eq_false_iff.mp ha).2
    have x1 : ∀ a, a ≠ 72 → a ≠ 73 → τ1.1 a = σ.1 a := fun a p q => by rw [F1.1 a (beq_false_of_ne q), F.1 a (f2 p q)]
    have x4 : ∀ a, a ≠ 72 → a ≠ 73 → τ4.1 a = σ.1 a := fun a p q => by rw [F4.1 a (beq_false_of_ne q), F3.1 a (beq_false_of_ne q), F2.1 a (beq_false_of_ne q)]; exact x1 a p q
    refine h τ5 (((((F.tr (F1.mono mm)).tr (F2.mono mm)).tr (F3.mono mm)).tr (F4.mono mm)).tr (F5.mono mm)) U5 ?_ ?_ ?_ ?_
    · rw [show τ5.1 73 0 = τ4.1 73 0 from o5 0 (by omega), show τ4.1 73 0 = τ3.1 73 0 from o4 0 (by omega), show τ3.1 73 0 = τ2.1 73 0 from o3 0 (by omega), show τ2.1 73 0 = τ1.1 73 0 from o2 0 (by omega)]; exact e1
    · rw [show τ5.1 73 1 = τ4.1 73 1 from o5 1 (by omega), show τ4.1 73 1 = τ3.1 73 1 from o4 1 (by omega), show τ3.1 73 1 = τ2.1 73 1 from o3 1 (by omega), show τ2.1 73 1 = τ1.1 65 13 from e2, x1 65 (by omega) (by omega)]; exact h13
    · rw [show τ5.1 73 2 = τ4.1 73 2 from o5 2 (by omega), show τ4.1 73 2 = τ3.1 73 2 from o4 2 (by omega)]; exact e3
    · rw [show τ5.1 73 4 = τ4.1 74 2 from e5, x4 74 (by omega) (by omega)]; exact h74
  exact p1
/-- i rows of the memory are laid -/
def MI (σ : FS) (i : Nat) (τ : FS) : Prop := Fr (fun a => a == 66 || a == 67) σ τ ∧ tb 66 2 i τ ∧ ∀ j, j < i → τ.1 67 (2 * j) = fu (fun _ => 0) 2 4 j ∧ τ.1 67 (2 * j + 1) = wd j
theorem addM {i : Nat} (hi : i < 8) (hM : MI σ i τ) (h2 : i ≠ 2) (h : ∀ ρ, MI σ (i + 1) ρ → Φ (nI i) ρ) : wp_X7_add 66 128 τ Φ := by
  obtain ⟨F, hT, hj⟩ := hM
  refine add_ok (N := 128) hT (by omega) (by omega) (by omega) (by omega) (fun ρ F1 T1 e1 e2 => h ρ ⟨F.tr F1, T1, fun j hj' => ?_⟩)
  by_cases e : j = i
  · rw [e, show ρ.1 67 (2 * i) = 0 from e2 _ (by omega) (by omega), show ρ.1 67 (2 * i + 1) = 0 from e2 _ (by omega) (by omega), fu_o h2]
    exact ⟨rfl, by unfold wd; rw [if_neg h2]⟩
  · rw [show ρ.1 67 (2 * j) = τ.1 67 (2 * j) from e1 _ (by omega), show ρ.1 67 (2 * j + 1) = τ.1 67 (2 * j + 1) from e1 _ (by omega)]
    exact hj j (by omega)
theorem s10 (i : Nat) : (0 : Int32) * 10 + nI i = nI i := by rw [show (0 : Int32) * 10 = 0 by decide, Int32.zero_add]
theorem lay1 {i e f : Nat} {K : FS → Int32 → Int32 → Prop} (hD : Dcl c σ) (hi : i < 4) (h2 : i ≠ 2) (hM : MI σ i τ) (h : ∀ ρ, MI σ (i + 1) ρ → wp_X3_layPlaces_49 0 0 4 0 0 Ψ K f ρ (nI (i + 1)) (nI e)) : wp_X3_layPlaces_49 0 0 4 0 0 Ψ K (f + 1) τ (nI i) (nI e) := by
  unfold wp_X3_layPlaces_49
  refine br_f (nI_ge (b := 4) hi (by omega)) (addM (by omega) hM h2 (fun ρ hρ => ?_))
  rw [s10, q_I (by omega), hρ.1.1 11 rfl]
  refine ⟨q_in (by omega) (by omega), nm_e (br_t (nI_pos' (by omega)) ?_)⟩
  have e6 : σ.1 11 i = 6 := by
    rcases (show i = 0 ∨ i = 1 ∨ i = 3 by omega) with q | q | q <;> rw [q]
    · exact hD.2.2.2.2.1.1
    · exact hD.2.2.2.2.1.2.1
    · exact hD.2.2.2.2.1.2.2.2
  rw [e6, nI_1]
  exact br_f (by decide) (br_f (by decide) (h ρ hρ))
theorem layPlaces_ok (hD : Dcl c σ) (h66 : tb 66 2 0 σ) (h68 : tb 68 2 0 σ) (h : ∀ τ, Fr (fun a => decide (66 ≤ a ∧ a ≤ 68)) σ τ → Q3 (fu (fun _ => 0) 2 4) τ → tb 68 2 0 τ → Ψ τ) : wp_X3_layPlaces σ 0 Ψ := by
  unfold wp_X3_layPlaces
  rw [h66.2, h68.2]
  refine nm_e ⟨z10, nm_e ⟨z10, nm_e (nm_e (nm_e ?_))⟩⟩
  rw [g0, g0, hD.1.2.2.2.2.2, hD.1.2.2.2.1]
  rw [show (nI 0 : Int32) = 0 from rfl, show (0 : Int32) - 0 = 0 by decide, show (0 : Int32) + 4 = nI 4 by decide, show FUEL = 1999995 + 1 + 1 + 1 + 1 + 1 from rfl]
  have s0 : wp_X3_layPlaces_49 0 0 4 0 0 Ψ (fun (σ20 : FS) (x21 : Int32) (x22 : Int32) => wp_X7_cut 68 128 σ20 0 (fun (σ23 : FS) => ∀ x24 : Int32, x24 = (σ23.1 66 2) → wp_X3_layPlaces_237 0 0 4 x22 0 0 Ψ (fun (σ27 : FS) (_ : Int32) => Ψ σ27) (1999995 + 1 + 1 + 1 + 1 + 1) σ23 x24)) (1999995 + 1 + 1 + 1 + 1 + 1) σ (nI 0) (nI 4) := by
    refine lay1 hD (by omega) (by omega) ⟨Fr.rf, h66, fun j hj => absurd hj (Nat.not_lt_zero j)⟩ (fun τ1 M1 => lay1 hD (by omega) (by omega) M1 (fun τ2 M2 => ?_))
    -- the array
    unfold wp_X3_layPlaces_49
    obtain ⟨F2, T2, j2⟩ := M2
    refine br_f (by decide) (add_ok (N := 128) T2 (by omega) (by omega) (by omega) (by omega) (fun τ3 F3 T3 e1 e2 => ?_))
    have F3' := F2.tr F3
    rw [s10, q_I (by omega), q_I (by omega), F3'.1 11 rfl, F3'.1 12 rfl, show σ.1 11 (1 + 1) = 7 from hD.2.2.2.2.1.2.2.1, show σ.1 12 (1 + 1) = 4 from hD.2.2.2.2.2]
    refine ⟨q_in (by omega) (by omega), nm_e (br_t (by decide) (br_t rfl ⟨q_in (by omega) (by omega), nm_e ?_⟩))⟩
    have p1 : wp_X7_put 66 128 τ3 (nI 2) (nI 0) (nI 4) (fun (σ2 : FS) => wp_X7_put 66 128 σ2 (nI 2) (nI 1) 4 (fun (σ3 : FS) => ∀ x8 : Int32, x8 = (nI 4) + 4 → wp_X3_layPlaces_49 0 0 4 0 0 Ψ (fun (σ20 : FS) (x21 : Int32) (x22 : Int32) => wp_X7_cut 68 128 σ20 0 (fun (σ23 : FS) => ∀ x24 : Int32, x24 = (σ23.1 66 2) → wp_X3_layPlaces_237 0 0 4 x22 0 0 Ψ (fun (σ27 : FS) (_ : Int32) => Ψ σ27) (1999995 + 1 + 1 + 1 + 1 + 1) σ23 x24)) (1999995 + 1 + 1) σ3 (nI (1 + 1) + 1) x8)) := by
      refine tput2 T3 (by omega) (by omega) (by omega) (by omega) (by omega) (by omega) (fun τ4 F4 T4 o4 e4 => ?_)
      refine tput2 T4 (by omega) (by omega) (by omega) (by omega) (by omega) (by omega) (fun τ5 F5 T5 o5 e5 => nm_e ?_)
      have M3 : MI σ 3 τ5 := ⟨(F3'.tr (F4.mono (fun a ha => (Bool.or_eq_false_iff.mp ha).2))).tr (F5.mono (fun a ha => (Bool.or_eq_false_iff.mp ha).2)), T5, fun j hj => by
        by_cases e : j = 2
        · rw [e, fu_s]
          exact ⟨(o5 (2 * 2) (by omega)).trans e4, e5⟩
        · have a1 : τ5.1 67 (2 * j) = τ2.1 67 (2 * j) := ((o5 (2 * j) (by omega)).trans (o4 (2 * j) (by omega))).trans (e1 (2 * j) (by omega))
          have a2 : τ5.1 67 (2 * j + 1) = τ2.1 67 (2 * j + 1) := ((o5 (2 * j + 1) (by omega)).trans (o4 (2 * j + 1) (by omega))).trans (e1 (2 * j + 1) (by omega))
          rw [a1, a2]
          exact j2 j (by omega)⟩
      rw [nI_1, show nI 4 + 4 = nI 8 by decide]
      refine lay1 hD (by omega) (by omega) M3 (fun τ6 M6 => ?_)
      unfold wp_X3_layPlaces_49
      refine br_t (by decide) (cut0 ⟨0, by omega, tb_fr h68 M6.1 rfl⟩ (fun τ7 F7 T7 => nm_e ?_))
      have M7 : MI σ 4 τ6 := M6
      rw [F7.1 66 rfl, M6.2.1.2]
      have key : ∀ d i f τ', i + d = 8 → d < f → (Fr (fun a => decide (66 ≤ a ∧ a ≤ 68)) σ τ' ∧ tb 68 2 0 τ' ∧ tb 66 2 i τ' ∧ ∀ j, j < i → τ'.1 67 (2 * j) = fu (fun _ => 0) 2 4 j ∧ τ'.1 67 (2 * j + 1) = wd j) → 4 ≤ i → wp_X3_layPlaces_237 0 0 4 (nI 8) 0 0 Ψ (fun (σ27 : FS) (_ : Int32) => Ψ σ27) f τ' (nI i) := by
        intro d
        induction d with
        | zero =>
          intro i f τ' h1 h2 ⟨G, U, V, W⟩ _
          have : i = 8 := by omega
          subst this
          cases f with
          | zero => omega
          | succ f =>
            unfold wp_X3_layPlaces_237
            exact br_t (by decide) (h τ' G ⟨V, W⟩ U)
        | succ d ih =>
          intro i f τ' h1 h2 ⟨G, U, V, W⟩ h4
          cases f with
          | zero => omega
          | succ f =>
            unfold wp_X3_layPlaces_237
            refine br_f (nI_ge (by omega) (by omega)) (addM (σ := τ') (by omega) ⟨Fr.rf, V, W⟩ (by omega) (fun ρ hρ => ?_))
            rw [nI_1]
            exact ih (i + 1) f ρ (by omega) (by omega) ⟨G.tr (hρ.1.mono (fun a ha => f2 (by have := of_decide_eq_false ha; omega) (by have := of_decide_eq_false ha; omega))), tb_fr U hρ.1 rfl, hρ.2.1, hρ.2.2⟩ (by omega)
      refine key 4 4 _ τ7 rfl (by omega) ⟨?_, T7, tb_fr M6.2.1 F7 rfl, fun j hj => by rw [F7.1 67 rfl]; exact M6.2.2 j hj⟩ (Nat.le_refl 4)
      exact (M6.1.mono (fun a ha => f2 (by have := of_decide_eq_false ha; omega) (by have := of_decide_eq_false ha; omega))).tr (F7.mono (fun a ha => beq_false_of_ne (by have := of_decide_eq_false ha; omega)))
    exact p1
  exact s0
end PV
