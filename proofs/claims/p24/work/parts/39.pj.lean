section PJ
variable {T : TT} {N top : Nat} {σ τ : FS} {k b : Nat} {Φ : Int32 → FS → Prop} {Ψ : FS → Prop} {c : Int32} {inn lp : Nat → Bool} {fl : Bool}
def lq (T : TT) (c : Int32) (k : Nat) : QQ :=
  if kd T k = 0 then (1, av T k, 0, nI k)
  else if kd T k = 1 ∧ nm T k = 3 then (1, c, 0, nI k)
  else if kd T k = 1 then (2, 0, tgN c (nm T k), nI k)
  else if kd T k = 2 then (3, 0, tgN c (nm T k), nI k)
  else if kd T k < 8 then (nI (kd T k + 1), 0, 0, nI k)
  else if kd T k = 13 then (19, 0, tgN c (nm T k), nI k)
  else if kd T k = 14 then (20, 0, tgN c (nm T k), nI k)
  else if kd T k = 17 then (25, 0, av T k, nI k)
  else (26, 0, 0, nI k)
abbrev sT (T : TT) (fl : Bool) (top k : Nat) : Nat := (SS T fl top k).1
/-- the last place of a node, the first of its c, how long that is, the first of its b -/
def eT (T : TT) (fl : Bool) (top k : Nat) : Nat := sT T fl top k + ln T fl k - 1
def sC' (T : TT) (fl : Bool) (top k : Nat) : Nat := oF (pC T k) 0 (fun p => sT T fl top p)
def lC (T : TT) (fl : Bool) (k : Nat) : Nat := oF (pC T k) 0 (ln T fl)
def sB (T : TT) (fl : Bool) (top k : Nat) : Nat := oF (pB T k) 0 (fun p => sT T fl top p)
/-- what a node writes -/
def wq (T : TT) (c : Int32) (fl : Bool) (top k a : Nat) : Option QQ :=
  if (SS T fl top k).2 then none
  else if pu T fl k then (if a = eT T fl top k then some (1, (fw T k).2, 0, nI k) else none)
  else if kd T k = 12 then none
  else if kd T k = 15 then
    (if (pA T k).isSome = true ∧ a = sC' T fl top k + lC T fl k then some (22, nI (sT T fl top k + ln T fl k), 0, nI k)
     else if a = sC' T fl top k - 1 then some (21, nI (sC' T fl top k + lC T fl k + (if (pA T k).isSome then 1 else 0)), 0, nI k) else none)
  else if kd T k = 16 then
    (if a = eT T fl top k then some (24, 0, 0, nI k)
     else if a = eT T fl top k - 1 then some (22, nI (sB T fl top k), 0, nI k)
     else if a = sC' T fl top k - 1 then some (21, nI (eT T fl top k), 0, nI k)
     else if a = sT T fl top k then some (23, av T k, 0, nI k) else none)
  else if a = eT T fl top k then some (lq T c k) else none
def ov (o : Option QQ) (d : QQ) : QQ := match o with | none => d | some q => q
/-- the world in the midst of writing -/
def Wr (T : TT) (c : Int32) (fl : Bool) (N top b : Nat) (σ : FS) : Prop := Ok T c N top σ ∧ σ.1 (b + 1) 0 = 0 ∧ (∀ j, j ≤ top → σ.1 (b + 9) j = nI (sT T fl top j) ∧ σ.1 (b + 12) j = fB (SS T fl top j).2 ∧ σ.1 (b + 10) j = nI (ln T fl j))
theorem Wr.fr {S : Nat → Bool} (h : Wr T c fl N top b σ) (hF : Fr S σ τ) (hs : ∀ a, 1 ≤ a → a < 34 → S a = false) (h1 : S (b + 1) = false) (h9 : S (b + 9) = false) (h10 : S (b + 10) = false) (h12 : S (b + 12) = false) : Wr T c fl N top b τ := by
  obtain ⟨a, e, d⟩ := h
  refine ⟨a.fr hF hs, by rw [hF.1 _ h1]; exact e, fun j hj => ?_⟩
  rw [hF.1 _ h9, hF.1 _ h10, hF.1 _ h12]
  exact d j hj
theorem modeOfPart_0 (hO : Ok T c N top σ) (hk : k ≤ top) (h : Φ 0 σ) : wp_X4_modeOfPart σ (nI k) Φ := by
  have hN := hO.1.2.1
  have htN := hO.2.2.2.1
  unfold wp_X4_modeOfPart
  refine ⟨q_in (by omega) (by omega), nm_e ?_⟩
  rw [q_I (by omega)]
  by_cases e : k = top
  · rw [e, hO.2.2.2.2.2.2.2]
    exact br_t rfl h
  · obtain ⟨w, hw, hp⟩ := has_wh hO.tr (show k < top by omega)
    have P := hO.1.2.2.2 w (by omega)
    rw [hO.2.2.2.2.2.2.1 w k (by omega) hp]
    refine br_f (q_m1 (by omega)) ⟨q_in (by omega) (by omega), ?_⟩
    rw [q_I (by omega), P.1.1]
    exact br_f (kd_ne (v := 9) P.2.lt (by omega) (okK_ne P.2.1 rfl)) h
theorem putNamed_ok {a : Nat} {o : Int32} (hk : k < 110) (ha : a < 460) (h23 : σ.1 23 k = 0) (h : Ψ (pt b σ a o 0 (σ.1 25 k) (nI k))) : wp_X0_putNamed b σ (nI a) o (nI k) Ψ := by
  unfold wp_X0_putNamed
  refine ⟨q_in hk (by omega), q_in hk (by omega), ?_⟩
  rw [q_I (by omega), q_I (by omega), h23]
  exact put_ok ha h
theorem sz (x : Int32) : x - 0 = x := Int32.sub_zero x
theorem ln_pos (hP : PL T) (hw : WF T k) (h12 : kd T k ≠ 12) : 1 ≤ ln T fl k := by
  rw [ln_eq hP]
  unfold lnF
  split
  · omega
  · have : 1 ≤ own T k := by
      unfold own
      rw [if_neg h12]
      by_cases h15 : kd T k = 15
      · rw [if_pos h15]; cases (pA T k).isSome <;> decide
      · rw [if_neg h15]
        by_cases h16 : kd T k = 16
        · rw [if_pos h16]; omega
        · rw [if_neg h16]; omega
    omega
theorem hB_of {κ : Nat} (hw : WF T k) (hκ : kd T k = κ) (h : hBk κ = true) : ∃ p, pB T k = some p := by
  have := hw.2.1
  rw [hκ, h] at this
  exact Option.isSome_iff_exists.mp this
theorem hC_of {κ : Nat} (hw : WF T k) (hκ : kd T k = κ) (h : hCk κ = true) : ∃ p, pC T k = some p := by
  have := hw.2.2.1
  rw [hκ, h] at this
  exact Option.isSome_iff_exists.mp this
theorem iT_k (hk : k ≤ top) : iT top k = true := decide_eq_true hk
/-- what is meant by the name of a node -/
theorem nameOf (hO : Ok T c N top σ) (hk : k ≤ top) (hn : nmK (kd T k) = true) : σ.1 24 k = isN (nm T k) ∧ σ.1 23 k = 0 ∧ σ.1 25 k = tgN c (nm T k) := by
  have htN := hO.2.2.2.1
  obtain ⟨x1, x2, x3, x4⟩ := (hO.2.2.1.1 k (by omega)).2.1
  have e : nd T (iT top) k = true := by unfold nd; rw [iT_k hk, hn]; rfl
  unfold oW at x2
  unfold iS at x3
  unfold tG at x4
  rw [if_pos e] at x2 x3 x4
  exact ⟨x3, x2, x4⟩
theorem isN_9 {a : Nat} (h : a < 5) : isN a = 9 ↔ a = 3 := by
  rcases (show a = 0 ∨ a = 1 ∨ a = 2 ∨ a = 3 ∨ a = 4 by omega) with rfl | rfl | rfl | rfl | rfl <;> decide
theorem write_ok {pv : Int32} (hb : 39 ≤ b) (hW : Wr T c fl N top b σ) (hk : k ≤ top) (h3 : σ.1 b 3 = pv) (hf : fp pv fl)
    (h : ∀ τ, Fr (S36 b) σ τ → (∀ a, Aq b τ a = ov (wq T c fl top k a) (Aq b σ a)) → Ψ τ) : wp_X0_write b σ (nI k) Ψ := by
  obtain ⟨hO, h1, hj⟩ := hW
  have hN := hO.1.2.1
  have htN := hO.2.2.2.1
  have tr := hO.tr
  have hin := q_in (show k < 110 by omega) (show 110 < 2 ^ 31 by omega)
  obtain ⟨h9, h12, h10⟩ := hj k hk
  have M := hO.2.2.1.1 k (by omega)
  have P := hO.1.2.2.2 k (by omega)
  have hm := P.1
  have hw := P.2
  have r := rng (fl := fl) tr k hk
  have L := L_le (fl := fl) tr
  unfold wp_X0_write
  refine ⟨hin, hin, nm_e ⟨hin, ?_⟩⟩
  rw [q_I (k := b + 12) (by omega), h12]
  cases hs : (SS T fl top k).2 with
  | true =>
    exact br_f (by decide) (h σ Fr.rf (fun a => by unfold wq; rw [hs, if_pos rfl]; rfl))
  | false =>
    have r1 : sT T fl top k + ln T fl k ≤ ln T fl top := r.1 hs
    refine br_t rfl (isPushed_ok (T := T) (by omega) M.2.2.1.1 h3 hf ?_)
    rw [q_I (k := b + 9) (by omega), q_I (k := b + 10) (by omega), h9, h10, nI_add]
    cases hp : pu T fl k with
    | true =>
      have l1 := pu_ln tr.1 hp
      refine br_f (by decide) ⟨hin, ?_⟩
      have e27 : σ.1 27 k = (fw T k).2 := M.2.2.1.2 (by unfold kn; unfold pu at hp; rw [Bool.and_eq_true] at hp; rw [hp.2, Bool.or_true])
      rw [nI_m1 (by omega), q_I (by omega), e27]
      refine put_ok (by omega) (h _ pt_fr (fun a => ?_))
      rw [Aq_pt]
      unfold wq
      rw [hs, hp, if_neg Bool.false_ne_true, if_pos rfl]
      unfold eT
      by_cases ha : a = sT T fl top k + ln T fl k - 1
      · rw [if_pos ha, if_pos ha]; rfl
      · rw [if_neg ha, if_neg ha]; rfl
    | false =>
      refine br_t rfl ⟨hin, nm_e ?_⟩
      rw [q_I (k := 14) (by omega), hm.1]
      have W : ∀ a, wq T c fl top k a = if kd T k = 12 then none else if kd T k = 15 then
          (if (pA T k).isSome = true ∧ a = sC' T fl top k + lC T fl k then some (22, nI (sT T fl top k + ln T fl k), 0, nI k)
           else if a = sC' T fl top k - 1 then some (21, nI (sC' T fl top k + lC T fl k + (if (pA T k).isSome then 1 else 0)), 0, nI k) else none)
        else if kd T k = 16 then
          (if a = eT T fl top k then some (24, 0, 0, nI k)
           else if a = eT T fl top k - 1 then some (22, nI (sB T fl top k), 0, nI k)
           else if a = sC' T fl top k - 1 then some (21, nI (eT T fl top k), 0, nI k)
           else if a = sT T fl top k then some (23, av T k, 0, nI k) else none)
        else if a = eT T fl top k then some (lq T c k) else none := fun a => by
        show (if (SS T fl top k).2 then none else _) = _
        rw [hs, if_neg Bool.false_ne_true, hp, if_neg Bool.false_ne_true]
      -- one instruction alone
      have one : kd T k ≠ 12 → kd T k ≠ 15 → kd T k ≠ 16 → Ψ (pt b σ (eT T fl top k) (lq T c k).1 (lq T c k).2.1 (lq T c k).2.2.1 (lq T c k).2.2.2) := fun n12 n15 n16 => by
        refine h _ pt_fr (fun a => ?_)
        rw [Aq_pt, W, if_neg n12, if_neg n15, if_neg n16]
        by_cases ha : a = eT T fl top k
        · rw [if_pos ha, if_pos ha]; rfl
        · rw [if_neg ha, if_neg ha]; rfl
      have ee : kd T k ≠ 12 → nI (sT T fl top k + ln T fl k) - 1 = nI (eT T fl top k) ∧ eT T fl top k < 460 ∧ 1 ≤ sT T fl top k + ln T fl k := fun n12 => by
        have := ln_pos (fl := fl) tr.1 hw n12
        exact ⟨nI_m1 (by omega), by unfold eT; omega, by omega⟩
      by_cases h7 : kd T k ≤ 7
      · -- expressions
        obtain ⟨e1, e2, -⟩ := ee (by omega)
        have o1 := one (by omega) (by omega) (by omega)
        unfold lq at o1
        refine br_f (nI_nlt (a := 7) (b := kd T k) h7 (by omega)) ?_
        rw [e1]
        unfold wp_X0_writeExpression
        refine modeOfPart_0 hO hk (br_f (by decide) ?_)
        by_cases k0 : kd T k = 0
        · rw [if_pos k0] at o1
          refine br_t (by rw [k0]; rfl) ⟨hin, ?_⟩
          rw [q_I (by omega), hm.2.1]
          exact put_ok e2 o1
        rw [if_neg k0] at o1
        refine br_f (kd_ne (v := 0) hw.lt (by omega) k0) ?_
        by_cases k1 : kd T k = 1
        · have nn := nameOf hO hk (by rw [k1]; rfl)
          have h5 := (hw.2.2.2.2.2.1 (by rw [k1]; rfl)).2.1
          refine br_t (by rw [k1]; rfl) ⟨hin, ?_⟩
          rw [q_I (by omega), nn.1]
          by_cases k3 : nm T k = 3
          · rw [if_pos ⟨k1, k3⟩] at o1
            refine br_t ((isN_9 h5).mpr k3) ⟨hin, ?_⟩
            rw [q_I (by omega), nn.2.2, k3]
            exact put_ok e2 o1
          · rw [if_neg (fun q => k3 q.2), if_pos k1] at o1
            refine br_f (fun q => k3 ((isN_9 h5).mp q)) (br_t (by rw [k1]; rfl) (putNamed_ok (by omega) e2 nn.2.1 ?_))
            rw [nn.2.2]; exact o1
        rw [if_neg (fun q => k1 q.1), if_neg k1] at o1
        refine br_f (kd_ne (v := 1) hw.lt (by omega) k1) (br_f (kd_ne (v := 1) hw.lt (by omega) k1) ?_)
        by_cases k2 : kd T k = 2
        · have nn := nameOf hO hk (by rw [k2]; rfl)
          rw [if_pos k2] at o1
          refine br_t (by rw [k2]; rfl) (putNamed_ok (by omega) e2 nn.2.1 ?_)
          rw [nn.2.2]; exact o1
        · rw [if_neg k2, if_pos (by omega)] at o1
          refine br_f (kd_ne (v := 2) hw.lt (by omega) k2) ?_
          rw [nI_1]
          exact put_ok e2 o1
      · have h8 : kd T k ≠ 8 := okK_ne hw.1 rfl
        have h9' : kd T k ≠ 9 := okK_ne hw.1 rfl
        have h10' : kd T k ≠ 10 := okK_ne hw.1 rfl
        have h11 : kd T k ≠ 11 := okK_ne hw.1 rfl
        have h18 : kd T k ≠ 18 := okK_ne hw.1 rfl
        have h20 : kd T k ≠ 20 := okK_ne hw.1 rfl
        have h21 : kd T k ≠ 21 := okK_ne hw.1 rfl
        have hlt := hw.lt
        refine br_t (nI_lt (a := 7) (by omega) (by omega)) (br_t (nI_lt (a := 11) (by omega) (by omega)) ?_)
        unfold wp_X0_writeStatement
        by_cases k13 : kd T k = 13
        · obtain ⟨e1, e2, -⟩ := ee (by omega)
          have o1 := one (by omega) (by omega) (by omega)
          have nn := nameOf hO hk (by rw [k13]; rfl)
          unfold lq at o1
          rw [if_neg (by omega), if_neg (by omega), if_neg (by omega), if_neg (by omega), if_neg (by omega), if_pos k13] at o1
          rw [e1]
          refine br_t (by rw [k13]; rfl) (putNamed_ok (by omega) e2 nn.2.1 ?_)
          rw [nn.2.2]; exact o1
        refine br_f (kd_ne (v := 13) hw.lt (by omega) k13) ?_
        by_cases k14 : kd T k = 14
        · obtain ⟨e1, e2, -⟩ := ee (by omega)
          have o1 := one (by omega) (by omega) (by omega)
          have nn := nameOf hO hk (by rw [k14]; rfl)
          unfold lq at o1
          rw [if_neg (by omega), if_neg (by omega), if_neg (by omega), if_neg (by omega), if_neg (by omega), if_neg k13, if_pos k14] at o1
          rw [e1]
          refine br_t (by rw [k14]; rfl) (putNamed_ok (by omega) e2 nn.2.1 ?_)
          rw [nn.2.2]; exact o1
        refine br_f (kd_ne (v := 14) hw.lt (by omega) k14) ?_
        have pt' : ∀ p, part T k p → p ≤ top ∧ p < 110 := fun p hp => by have := tr.1 k p hp; omega
        by_cases k15 : kd T k = 15
        · obtain ⟨p, ep⟩ := hC_of hw k15 rfl
          obtain ⟨hp1, hp2⟩ := pt' p (Or.inr (Or.inl ep))
          obtain ⟨j9, j12, j10⟩ := hj p hp1
          have sp := SS_part (fl := fl) tr hk (Or.inr (Or.inl ep))
          rw [hp, hs] at sp
          have np := (part_ne (T := T) (k := k) tr.1 (fun i hi => tr.2.1 i (by omega)) (j := p))
          have hoff : off T fl k p = ahd T k + oF (pB T k) 0 (ln T fl) + btw T k := by
            unfold off
            rw [if_neg (fun q => (np.1 q).1 ep), if_pos ep]
          have hbt : btw T k = 1 := by unfold btw; rw [if_pos (Or.inl k15)]
          have hs1 : 1 ≤ sT T fl top p := by
            show 1 ≤ (SS T fl top p).1
            rw [sp]
            show 1 ≤ sT T fl top k + off T fl k p
            omega
          have rp : sT T fl top p + ln T fl p ≤ ln T fl top := (rng (fl := fl) tr p hp1).1 (by rw [sp]; rfl)
          refine br_t (by rw [k15]; rfl) ?_
          unfold wp_X0_writeIf
          have e17 : σ.1 17 k = nI p := by rw [hm.2.2.2, ep]; rfl
          rw [q_I (k := 21) (by omega), M.1, iT_k hk, if_pos rfl, g0, h1, q_I (k := 17) (by omega), e17]
          refine ⟨hin, z10, nm_e ⟨hin, q_in hp2 (by omega), hin, q_in hp2 (by omega), nm_e ⟨hin, ?_⟩⟩⟩
          rw [q_I (k := 15) (by omega), hm.2.1, hw.2.2.2.2.2.2 k15, q_I (k := b + 9) (by omega), q_I (k := b + 10) (by omega), j9, j10, nI_add]
          have eC : sC' T fl top k = sT T fl top p := by unfold sC'; rw [ep]; rfl
          have eL : lC T fl k = ln T fl p := by unfold lC; rw [ep]; rfl
          cases eA : pA T k with
          | none =>
            refine br_t rfl ⟨hin, q_in hp2 (by omega), ?_⟩
            rw [sz, Int32.add_zero, nI_m1 (by omega)]
            refine put_ok (by omega) (h _ pt_fr (fun a => ?_))
            rw [Aq_pt, W, if_neg (show ¬ kd T k = 12 by omega), if_pos k15, eA, eC, eL, if_neg (show ¬ ((none : Option Nat).isSome = true ∧ a = sT T fl top p + ln T fl p) from fun q => by cases q.1)]
            by_cases ha : a = sT T fl top p - 1
            · rw [if_pos ha, if_pos ha]; rfl
            · rw [if_neg ha, if_neg ha]; rfl
          | some q =>
            have hq := (pt' q (Or.inr (Or.inr eA))).2
            refine br_f (q_m1 (by omega)) ⟨hin, q_in hp2 (by omega), ?_⟩
            rw [sz, nI_1, nI_m1 (by omega)]
            refine put_ok (by omega) ⟨hin, hin, ?_⟩
            have F := pt_fr (b := b) (σ := σ) (a := sT T fl top p - 1) (o := 21) (x := nI (sT T fl top p + ln T fl p + 1)) (y := 0) (n := nI k)
            rw [q_I (by omega), q_I (by omega), F.1 _ (S36_f (by omega)), F.1 _ (S36_f (by omega)), h9, h10, nI_add, sz]
            refine put_ok (by omega) (h _ (F.tr pt_fr) (fun a => ?_))
            rw [Aq_pt, Aq_pt, W, if_neg (show ¬ kd T k = 12 by omega), if_pos k15, eA, eC, eL]
            by_cases ha : a = sT T fl top p + ln T fl p
            · rw [if_pos ha, if_pos ⟨rfl, ha⟩]; rfl
            · rw [if_neg ha, if_neg (show ¬ ((some q).isSome = true ∧ a = sT T fl top p + ln T fl p) from fun z => ha z.2)]
              by_cases ha : a = sT T fl top p - 1
              · rw [if_pos ha, if_pos ha]; rfl
              · rw [if_neg ha, if_neg ha]; rfl
        refine br_f (kd_ne (v := 15) hw.lt (by omega) k15) ?_
        by_cases k16 : kd T k = 16
        · obtain ⟨p, ep⟩ := hC_of hw k16 rfl
          obtain ⟨q, eq⟩ := hB_of hw k16 rfl
          obtain ⟨hp1, hp2⟩ := pt' p (Or.inr (Or.inl ep))
          obtain ⟨hq1, hq2⟩ := pt' q (Or.inl eq)
          obtain ⟨j9, j12, j10⟩ := hj p hp1
          obtain ⟨i9, i12, i10⟩ := hj q hq1
          have sp := SS_part (fl := fl) tr hk (Or.inr (Or.inl ep))
          rw [hp, hs] at sp
          have np := (part_ne (T := T) (k := k) tr.1 (fun i hi => tr.2.1 i (by omega)) (j := p))
          have hoff : off T fl k p = ahd T k + oF (pB T k) 0 (ln T fl) + btw T k := by
            unfold off
            rw [if_neg (fun q => (np.1 q).1 ep), if_pos ep]
          have hbt : btw T k = 1 := by unfold btw; rw [if_pos (Or.inr k16)]
          have hs1 : 1 ≤ sT T fl top p := by
            show 1 ≤ (SS T fl top p).1
            rw [sp]
            show 1 ≤ sT T fl top k + off T fl k p
            omega
          have rp : sT T fl top p + ln T fl p ≤ ln T fl top := (rng (fl := fl) tr p hp1).1 (by rw [sp]; rfl)
          have l4 : 4 ≤ ln T fl k := by
            rw [ln_eq tr.1]; unfold lnF; rw [hp, if_neg Bool.false_ne_true]
            have : own T k = 4 := by unfold own; rw [if_neg (by omega), if_neg k15, if_pos k16]
            omega
          obtain ⟨e1, e2, -⟩ := ee (by omega)
          have eC : sC' T fl top k = sT T fl top p := by unfold sC'; rw [ep]; rfl
          have eB : sB T fl top k = sT T fl top q := by unfold sB; rw [eq]; rfl
          have e17 : σ.1 17 k = nI p := by rw [hm.2.2.2, ep]; rfl
          have e16 : σ.1 16 k = nI q := by rw [hm.2.2.1, eq]; rfl
          refine br_t (by rw [k16]; rfl) ?_
          unfold wp_X0_writeLoop
          rw [e1, q_I (k := 21) (by omega), M.1, iT_k hk, if_pos rfl, g0, h1, q_I (k := b + 9) (by omega), h9, q_I (k := 15) (by omega), hm.2.1]
          refine ⟨hin, z10, nm_e ⟨hin, hin, put_ok (by omega) ⟨hin, ?_⟩⟩⟩
          have F1 := pt_fr (b := b) (σ := σ) (a := sT T fl top k) (o := 23) (x := av T k) (y := 0) (n := nI k)
          rw [q_I (k := 17) (by omega), F1.1 17 (S36_f (by omega)), e17, q_I (k := b + 9) (by omega), F1.1 (b + 9) (S36_f (by omega)), j9, sz, nI_m1 (by omega)]
          refine ⟨q_in hp2 (by omega), put_ok (by omega) ⟨hin, ?_⟩⟩
          have F2 := F1.tr (pt_fr (b := b) (a := sT T fl top p - 1) (o := 21) (x := nI (eT T fl top k)) (y := 0) (n := nI k))
          rw [q_I (k := 16) (by omega), F2.1 16 (S36_f (by omega)), e16, q_I (k := b + 9) (by omega), F2.1 (b + 9) (S36_f (by omega)), i9, sz, nI_m1 (by unfold eT; omega)]
          refine ⟨q_in hq2 (by omega), put_ok (by omega) (put_ok e2 (h _ (F2.tr (pt_fr.tr pt_fr)) (fun a => ?_)))⟩
          rw [Aq_pt, Aq_pt, Aq_pt, Aq_pt, W, if_neg (show ¬ kd T k = 12 by omega), if_neg k15, if_pos k16, eC, eB]
          by_cases ha : a = eT T fl top k
          · rw [if_pos ha, if_pos ha]; rfl
          · rw [if_neg ha, if_neg ha]
            by_cases ha : a = eT T fl top k - 1
            · rw [if_pos ha, if_pos ha]; rfl
            · rw [if_neg ha, if_neg ha]
              by_cases ha : a = sT T fl top p - 1
              · rw [if_pos ha, if_pos ha]; rfl
              · rw [if_neg ha, if_neg ha]
                by_cases ha : a = sT T fl top k
                · rw [if_pos ha, if_pos ha]; rfl
                · rw [if_neg ha, if_neg ha]; rfl
        refine br_f (kd_ne (v := 16) hw.lt (by omega) k16) ?_
        by_cases k17 : kd T k = 17
        · obtain ⟨e1, e2, -⟩ := ee (by omega)
          have o1 := one (by omega) (by omega) (by omega)
          unfold lq at o1
          rw [if_neg (by omega), if_neg (by omega), if_neg (by omega), if_neg (by omega), if_neg (by omega), if_neg k13, if_neg k14, if_pos k17] at o1
          refine br_t (by rw [k17]; rfl) ⟨hin, hin, ?_⟩
          have e30 : σ.1 30 k = 0 := by
            rw [M.2.2.2.2.2]; unfold lv; rw [if_pos ⟨k17, iT_k hk, rfl⟩]
          rw [e1, q_I (by omega), q_I (by omega), e30, hm.2.1]
          exact put_ok e2 o1
        refine br_f (kd_ne (v := 17) hw.lt (by omega) k17) (br_f (kd_ne (v := 18) hw.lt (by omega) h18) ?_)
        by_cases k19 : kd T k = 19
        · obtain ⟨e1, e2, -⟩ := ee (by omega)
          have o1 := one (by omega) (by omega) (by omega)
          unfold lq at o1
          rw [if_neg (by omega), if_neg (by omega), if_neg (by omega), if_neg (by omega), if_neg (by omega), if_neg k13, if_neg k14, if_neg k17] at o1
          rw [e1]
          exact br_t (by rw [k19]; rfl) (put_ok e2 o1)
        refine br_f (kd_ne (v := 19) hw.lt (by omega) k19) (br_f (kd_ne (v := 20) hw.lt (by omega) h20) (br_f (kd_ne (v := 21) hw.lt (by omega) h21) ?_))
        have k12 : kd T k = 12 := by omega
        refine h σ Fr.rf (fun a => ?_)
        rw [W, if_pos k12]; rfl
end PJ
