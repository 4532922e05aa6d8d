section PZ
variable {T : TT} {N top : Nat} {σ σ0 τ : FS} {k : Nat} {Φ : Int64 → FS → Prop} {c cl : Int32} {most : Nat} {fl : Bool}
/-- a checksum goes on by n numbers -/
def acc (v : Nat → Int32) (l : Int64) : Nat → Int64
  | 0 => l
  | n + 1 => acc v l n * 31 + (v n).toInt64
/-- a loop that sums up what is asked -/
theorem walkL {P : FS → Prop} {W : Nat → FS → Int32 → Int64 → Prop} {v : Nat → Int32} {N : Nat} {l0 : Int64} (hs : ∀ i f τ l, i < N → P τ → (∀ τ', P τ' → W f τ' (nI (i + 1)) (l * 31 + (v i).toInt64)) → W (f + 1) τ (nI i) l) (he : ∀ f τ, P τ → W (f + 1) τ (nI N) (acc v l0 N)) :
    ∀ d i f τ, i + d = N → d < f → P τ → W f τ (nI i) (acc v l0 i) := by
  intro d
  induction d with
  | zero =>
    intro i f τ h1 h2 h3
    have : i = N := by omega
    subst this
    cases f with
    | zero => omega
    | succ f => exact he f τ h3
  | succ d ih =>
    intro i f τ h1 h2 h3
    cases f with
    | zero => omega
    | succ f => exact hs i f τ _ (by omega) h3 (fun τ' h => ih (i + 1) f τ' (by omega) (by omega) h)
/-- the world in the midst of a checksum -/
def PD (T : TT) (c : Int32) (N top : Nat) (σ τ : FS) : Prop := Gs T c N top τ ∧ Fr SO σ τ
theorem PD.go {ρ : FS} (h : PD T c N top σ τ) (hF : Fr SO τ ρ) (hG : Gs T c N top ρ) : PD T c N top σ ρ := ⟨hG, h.2.tr hF⟩
variable {K : FS → Int32 → Int64 → Prop} {l : Int64} {Ψ : Int64 → FS → Prop}
theorem dig10 (h0 : PD T c N top σ τ) (h : ∀ τ x, PD T c N top σ τ → K τ x (acc (vMany T N top) l 11)) : wp_X8_digest_10 Ψ K FUEL τ 0 l := by
  have := walkL (P := PD T c N top σ) (W := fun f τ i l => wp_X8_digest_10 Ψ K f τ i l) (v := vMany T N top) (N := 11) (l0 := l) ?_ ?_ 11 0 FUEL τ rfl (FUEL_le (by omega)) h0
  · exact this
  · intro i f τ l hi hP go
    unfold wp_X8_digest_10
    refine br_f (nI_nlt (a := 10) (b := i) (by omega) (by omega)) (many_ok hP.1 (by omega) (fun ρ F G => nm_e ?_))
    rw [nI_1]
    exact go ρ (hP.go F G)
  · intro f τ hP
    show wp_X8_digest_10 Ψ K (f + 1) τ (nI 11) _
    unfold wp_X8_digest_10
    exact br_t (by decide) (h τ _ hP)
theorem dig51 (h0 : PD T c N top σ τ) (h : ∀ τ x, PD T c N top σ τ → K τ x (acc (vProc T top) l 8)) : wp_X8_digest_51 0 Ψ K FUEL τ 0 l := by
  have := walkL (P := PD T c N top σ) (W := fun f τ i l => wp_X8_digest_51 0 Ψ K f τ i l) (v := vProc T top) (N := 8) (l0 := l) ?_ ?_ 8 0 FUEL τ rfl (FUEL_le (by omega)) h0
  · exact this
  · intro i f τ l hi hP go
    unfold wp_X8_digest_51
    refine br_f (nI_nlt (a := 7) (b := i) (by omega) (by omega)) (proc_ok hP.1 (by omega) (fun ρ F G => nm_e ?_))
    rw [nI_1]
    exact go ρ (hP.go F G)
  · intro f τ hP
    show wp_X8_digest_51 0 Ψ K (f + 1) τ (nI 8) _
    unfold wp_X8_digest_51
    exact br_t (by decide) (h τ _ hP)
theorem dig82 (h0 : PD T c N top σ τ) (h : ∀ τ x, PD T c N top σ τ → K τ x (acc (fun _ => 0) l 8)) : wp_X8_digest_82 0 Ψ K FUEL τ 0 l := by
  have := walkL (P := PD T c N top σ) (W := fun f τ i l => wp_X8_digest_82 0 Ψ K f τ i l) (v := fun _ => 0) (N := 8) (l0 := l) ?_ ?_ 8 0 FUEL τ rfl (FUEL_le (by omega)) h0
  · exact this
  · intro i f τ l hi hP go
    unfold wp_X8_digest_82
    refine br_f (nI_nlt (a := 7) (b := i) (by omega) (by omega)) (hidden_ok hP.1 (by omega) (nm_e ?_))
    rw [nI_1]
    exact go τ hP
  · intro f τ hP
    show wp_X8_digest_82 0 Ψ K (f + 1) τ (nI 8) _
    unfold wp_X8_digest_82
    exact br_t (by decide) (h τ _ hP)
theorem dig120 (h0 : PD T c N top σ τ) (h : ∀ τ x, PD T c N top σ τ → K τ x (acc (fun a => vCode T c top (a / 4) (a % 4)) l ((ln T true top + 2) * 4))) : wp_X8_digest_120 0 (nI (ln T true top + 2)) Ψ K FUEL τ 0 l := by
  have L := L_le (fl := true) h0.1.1.tr
  have := walkL (P := PD T c N top σ) (W := fun f τ i l => wp_X8_digest_120 0 (nI (ln T true top + 2)) Ψ K f τ i l) (v := fun a => vCode T c top (a / 4) (a % 4)) (N := (ln T true top + 2) * 4) (l0 := l) ?_ ?_ ((ln T true top + 2) * 4) 0 FUEL τ (by omega) (FUEL_le (by omega)) h0
  · exact this
  · intro i f τ l hi hP go
    unfold wp_X8_digest_120
    rw [show (4 : Int32) = nI 4 by decide, nI_mul]
    refine br_f (nI_ge hi (by omega)) ?_
    rw [nI_mod (by omega) (by omega), nI_div (by omega) (by omega)]
    refine code_ok hP.1 (by omega) (by omega) (fun ρ F G => nm_e ?_)
    rw [nI_1]
    exact go ρ (hP.go F G)
  · intro f τ hP
    show wp_X8_digest_120 0 (nI (ln T true top + 2)) Ψ K (f + 1) τ (nI _) _
    unfold wp_X8_digest_120
    rw [show (4 : Int32) = nI 4 by decide, nI_mul]
    exact br_t (nI_le (Nat.le_refl _) (by omega)) (h τ _ hP)
def d37 (T : TT) (c : Int32) (top : Nat) (l : Int64) : Int64 := acc (fun a => vCode T c top (a / 4) (a % 4)) (acc (fun _ => 0) (acc (vProc T top) l 8) 8) ((ln T true top + 2) * 4)
theorem dig37 (h0 : PD T c N top σ τ) (h : ∀ τ x, PD T c N top σ τ → K τ x (d37 T c top l)) : wp_X8_digest_37 Ψ K FUEL τ 0 l := by
  rw [show FUEL = 1999998 + 1 + 1 from rfl]
  unfold wp_X8_digest_37
  rw [h0.1.1.2.1.1.1]
  refine br_f (by decide) (dig51 (T := T) (c := c) (N := N) (top := top) (σ := σ) h0 (fun τ1 x1 P1 => dig82 (T := T) (c := c) (N := N) (top := top) (σ := σ) P1 (fun τ2 x2 P2 => codeLength_ok P2.1 (fun τ3 F3 G3 _ => dig120 (T := T) (c := c) (N := N) (top := top) (σ := σ) (P2.go F3 G3) (fun τ4 x4 P4 => ?_)))))
  unfold wp_X8_digest_37
  rw [P4.1.1.2.1.1.1]
  exact br_t (by decide) (h τ4 _ P4)
theorem dig164 (h0 : PD T c N top σ τ) (h : ∀ τ x, PD T c N top σ τ → K τ x (acc (fun a => vNode T top (a / 4) (4 + a % 4)) l (N * 4))) : wp_X8_digest_164 Ψ K FUEL τ 0 l := by
  have hN := h0.1.1.1.2.1
  have := walkL (P := PD T c N top σ) (W := fun f τ i l => wp_X8_digest_164 Ψ K f τ i l) (v := fun a => vNode T top (a / 4) (4 + a % 4)) (N := N * 4) (l0 := l) ?_ ?_ (N * 4) 0 FUEL τ (by omega) (FUEL_le (by omega)) h0
  · exact this
  · intro i f τ l hi hP go
    unfold wp_X8_digest_164
    rw [hP.1.1.1.1, show (4 : Int32) = nI 4 by decide, nI_mul]
    refine br_f (nI_ge hi (by omega)) ?_
    rw [nI_mod (by omega) (by omega), nI_div (by omega) (by omega), nI_add]
    refine ofNode_ok hP.1 (by omega) (by omega) (by omega) (nm_e ?_)
    rw [nI_1]
    exact go τ hP
  · intro f τ hP
    show wp_X8_digest_164 Ψ K (f + 1) τ (nI _) _
    unfold wp_X8_digest_164
    rw [hP.1.1.1.1, show (4 : Int32) = nI 4 by decide, nI_mul]
    exact br_t (nI_le (Nat.le_refl _) (by omega)) (h τ _ hP)
theorem dig205 (h0 : PD T c N top σ τ) (h : ∀ x, K τ x l) : wp_X8_digest_205 Ψ K FUEL τ 0 l := by
  rw [FUEL_s]
  unfold wp_X8_digest_205
  rw [h0.1.2.2.2.2.1]
  exact br_t (by decide) (h _)
theorem SOr (hF : Fr SO σ τ) : ∀ k, vRun τ k = vRun σ k := fun k => by unfold vRun; rw [hF.1 0 rfl, hF.1 80 rfl]
theorem SOp (hF : Fr SO σ τ) : ∀ a k, vPr τ a k = vPr σ a k := fun a k => by unfold vPr; rw [hF.1 81 rfl, hF.1 82 rfl, hF.1 83 rfl]
theorem dig244 (h0 : PD T c N top σ τ) (h : ∀ τ x, PD T c N top σ τ → K τ x (acc (vRun σ) l 11)) : wp_X8_digest_244 Ψ K FUEL τ 0 l := by
  have := walkL (P := PD T c N top σ) (W := fun f τ i l => wp_X8_digest_244 Ψ K f τ i l) (v := vRun σ) (N := 11) (l0 := l) ?_ ?_ 11 0 FUEL τ rfl (FUEL_le (by omega)) h0
  · exact this
  · intro i f τ l hi hP go
    unfold wp_X8_digest_244
    refine br_f (nI_nlt (a := 10) (b := i) (by omega) (by omega)) (ofRun_ok (by omega) (nm_e ?_))
    rw [nI_1, SOr hP.2]
    exact go τ hP
  · intro f τ hP
    show wp_X8_digest_244 Ψ K (f + 1) τ (nI 11) _
    unfold wp_X8_digest_244
    exact br_t (by decide) (h τ _ hP)
theorem dig271 {nu : Nat} (h4 : σ.1 80 4 = nI nu) (hn : nu < 2 ^ 31) (h0 : PD T c N top σ τ) (h : ∀ τ x, PD T c N top σ τ → K τ x (acc (fun a => vPr σ (a / 3) (a % 3)) l (min nu 50 * 3))) : wp_X8_digest_271 Ψ K FUEL τ 0 l := by
  have := walkL (P := PD T c N top σ) (W := fun f τ i l => wp_X8_digest_271 Ψ K f τ i l) (v := fun a => vPr σ (a / 3) (a % 3)) (N := min nu 50 * 3) (l0 := l) ?_ ?_ (min nu 50 * 3) 0 FUEL τ (by omega) (FUEL_le (by omega)) h0
  · exact this
  · intro i f τ l hi hP go
    have h4' : τ.1 80 4 = nI nu := by rw [hP.2.1 80 rfl]; exact h4
    unfold wp_X8_digest_271
    refine kept_ok h4' hn ?_
    rw [show (3 : Int32) = nI 3 by decide, nI_mul]
    refine br_f (nI_ge hi (by omega)) ?_
    rw [nI_mod (by omega) (by omega), nI_div (by omega) (by omega)]
    refine printed_ok h4' hn (by omega) (by omega) (nm_e ?_)
    rw [nI_1, SOp hP.2]
    exact go τ hP
  · intro f τ hP
    have h4' : τ.1 80 4 = nI nu := by rw [hP.2.1 80 rfl]; exact h4
    show wp_X8_digest_271 Ψ K (f + 1) τ (nI _) _
    unfold wp_X8_digest_271
    refine kept_ok h4' hn ?_
    rw [show (3 : Int32) = nI 3 by decide, nI_mul]
    exact br_t (nI_le (Nat.le_refl _) (by omega)) (h τ _ hP)
theorem dig405 {m : MS} (ho : ∀ k, k ≤ 9 → τ.1 84 k = ansF cl m k) (h : ∀ x, K τ x (acc (ansF cl m) l 10)) : wp_X8_digest_405 Ψ K FUEL τ 0 l := by
  have := walkL (P := fun ρ => ρ = τ) (W := fun f τ i l => wp_X8_digest_405 Ψ K f τ i l) (v := ansF cl m) (N := 10) (l0 := l) ?_ ?_ 10 0 FUEL τ rfl (FUEL_le (by omega)) rfl
  · exact this
  · intro i f ρ l hi hP go
    rw [hP]
    unfold wp_X8_digest_405
    refine br_f (nI_nlt (a := 9) (b := i) (by omega) (by omega)) (answer_ok (by omega) (nm_e ?_))
    rw [nI_1, ho i (by omega)]
    exact go τ rfl
  · intro f ρ hP
    rw [hP]
    show wp_X8_digest_405 Ψ K (f + 1) τ (nI 10) _
    unfold wp_X8_digest_405
    exact br_t (by decide) (h _)
/-- the checksum -/
def dG (T : TT) (c : Int32) (N top : Nat) (r : Nat → Int32) (pr : Nat → Nat → Int32) (kp : Nat) : Int64 :=
  acc (ansF (clOf 7) (fin T c top 200)) (((acc (fun a => pr (a / 3) (a % 3)) (acc r (acc (fun a => vNode T top (a / 4) (4 + a % 4)) (d37 T c top (acc (vMany T N top) 58126 11)) (N * 4)) 11) (kp * 3) * 31 + (nI (ln T false top + 2)).toInt64) * 31 + (clOf 0).toInt64) * 31 + (1 : Int32).toInt64) 10
theorem digest_ok {nu : Nat} (hG : Gs T c N top σ) (h4 : σ.1 80 4 = nI nu) (hn : nu < 2 ^ 31) (h : ∀ τ, Fr SO σ τ → Gs T c N top τ → Ψ (dG T c N top (vRun σ) (vPr σ) (min nu 50)) τ) : wp_X8_digest σ Ψ := by
  unfold wp_X8_digest
  refine refresh_no hG.2.2.2.1.1 ?_
  refine dig10 (T := T) (c := c) (N := N) (top := top) (σ := σ) ⟨hG, Fr.rf⟩ (fun τ1 x1 P1 => ?_)
  refine dig37 (T := T) (c := c) (N := N) (top := top) (σ := σ) P1 (fun τ2 x2 P2 => ?_)
  refine dig164 (T := T) (c := c) (N := N) (top := top) (σ := σ) P2 (fun τ3 x3 P3 => ?_)
  refine dig205 (T := T) (c := c) (N := N) (top := top) (σ := σ) P3 (fun x4 => ?_)
  refine dig244 (T := T) (c := c) (N := N) (top := top) (σ := σ) P3 (fun τ5 x5 P5 => ?_)
  refine dig271 (T := T) (c := c) (N := N) (top := top) (σ := σ) h4 hn P5 (fun τ6 x6 P6 => ?_)
  refine br_t P6.1.2.2.2.2.1 (whole_ok (fl := false) P6.1 f0 (by decide) (fun τ7 F7 G7 => nm_e ?_))
  have P7 := P6.go F7 G7
  rw [G7.2.2.2.1.2.2.1]
  refine run84 G7 (by omega) (fun τ8 F8 G8 O8 => ?_)
  have P8 := P7.go F8 G8
  rw [out_ans O8 (k := 6) (by omega), out_ans O8 (k := 7) (by omega)]
  refine nm_e (nm_e ?_)
  rw [G8.2.2.2.1.2.1, show (200 : Int32) = nI 200 by decide]
  refine run84 G8 (by omega) (fun τ9 F9 G9 O9 => ?_)
  have P9 := P8.go F9 G9
  exact dig405 (cl := clOf 7) (m := fin T c top 200) (fun k hk => out_ans O9 hk) (fun _ => h τ9 P9.2 P9.1)
end PZ
