section LZ
variable {ga : SG}
set_option maxHeartbeats 4000000 in
theorem law_ok {d : Nat} (hga : ga.2.1 < 2 ^ 31) (hd : d ≤ 100) : wp_law ga (z0 (nI d)) := by
  unfold wp_law
  refine declare_ok hga (by omega) (fun c τ0 G0 => br_f (by decide) ?_)
  refine s3_ok hga T0 0 (d + 1) c τ0 _ G0 (by omega) (by omega) (fun T' n' d' τ p => ?_)
  have hn0 := p.2.2.1
  have hb : n' ≤ 0 + 8 ∨ n' ≤ 99 := p.2.2.2.1
  have hd' : d' ≤ d + 1 + 184 := p.2.2.2.2.1
  obtain ⟨top, rfl⟩ : ∃ top, n' = top + 1 := ⟨n' - 1, by omega⟩
  rw [Nat.add_sub_cancel]
  obtain ⟨S, B, h9, h13, h3, h2⟩ := enter p
  have hx : (Tx T' top) (top + 1) = rcd 17 9 none none none (top + 1) := tx_n
  obtain ⟨T, eT⟩ : ∃ T, T = Tx T' top := ⟨_, rfl⟩
  rw [← eT] at S hx
  clear p eT
  refine many3_n S B rfl h9 (fun τ1 K1 S1 B1 z1 M1 q1 => nm_e ?_)
  rw [mrg_fr K1.1 S0_88]
  refine br_t rfl (many2_n z1 M1 (nm_e ?_))
  rw [mrg_self]
  have e3 : τ1.1 88 3 = nI (top + 1) := by rw [K1.1.1 88 (S0_f (by omega))]; exact h3
  refine br_t e3.symm (body_ok (t := top) S1 B1 (by omega) S1.2.2.2.2.1.2.1 S1.2.2.2.2.2.2.1 (fun e => by cases e) (fun q e => by cases e) (fun τ2 K2 S2 B2 w2 => nm_e ?_))
  rw [mrg_fr K2.1 S0_88]
  refine br_t rfl (many3_t S2 B2 w2 (fun τ3 K3 S3 B3 G3 => nm_e ?_))
  rw [mrg_fr K3.1 S0_88]
  refine br_t rfl (many_ok (k := 2) G3 (by omega) (fun τ4 F4 G4 => nm_e ?_))
  rw [mrg_fr F4 SO_88]
  refine br_t (show nI (cN (iT top) (top + 1)) = 0 by rw [cN_1]; rfl) (run_ok G4 (fun τ5 F5 G5 an5 q5 e13 => nm_e ?_))
  rw [mrg_fr F5 S80_88]
  refine nm_e ?_
  have c3 : ∀ j, j ≠ 9 → τ3.1 0 j = τ.1 0 j := fun j hj => by rw [K3.2 j hj, K2.2 j hj, K1.2 j hj]
  have e5 : τ5.1 0 13 = 1 := by rw [e13, F4.1 0 rfl, c3 13 (by omega), h13]; rfl
  have d88 : ∀ j, τ5.1 88 j = τ.1 88 j := fun j => by
    rw [F5.1 88 rfl, F4.1 88 rfl, K3.1.1 88 rfl, K2.1.1 88 rfl, K1.1.1 88 rfl]
  obtain ⟨m, em⟩ : ∃ m, m = fin T c top 1000 := ⟨_, rfl⟩
  have fs := fin_st (T := T) (c := c) (top := top) (most := 1000)
  have nu6 : gnu m ≤ 1000000 := by rw [em]; exact fs.2.2
  rw [← em] at an5 q5
  -- told
  obtain ⟨s5, es5⟩ : ∃ z, z = sC τ5 90 0 := ⟨_, rfl⟩
  have f5' : Fr (fun a => a == 90) τ5 s5 := by rw [es5]; exact Fr.rf.fill rfl
  rw [← es5]
  refine l109 (fun τ6 F6 t6 => ?_)
  have F56 := f5'.tr F6
  have G6 : Gs T c (top + 1) top τ6 := G5.f F56 (fun a ha => beq_false_of_ne (by omega))
  have t6' : ∀ j, j < 10 → τ6.1 90 j = ansF (clOf 7) m j := fun j hj => by rw [t6 j hj, f5'.1 80 rfl, an5 j (by omega)]
  refine nm_e (nm_e ?_)
  have e4 : g τ6 90 4 = nI (gnu m) := by
    rw [show (4 : Int32) = nI 4 by decide, q_I (by omega), t6' 4 (by omega)]; rfl
  rw [e4, mi_ok (by omega), show (3 : Int32) = nI 3 by decide, nI_mul]
  refine ⟨3 * min (gnu m) 50, by omega, rfl, nm_e ?_⟩
  obtain ⟨pn, ep⟩ : ∃ pn, pn = 3 * min (gnu m) 50 := ⟨_, rfl⟩
  rw [← ep]
  obtain ⟨s6, es6⟩ : ∃ z, z = sC τ6 91 0 := ⟨_, rfl⟩
  have f6' : Fr (fun a => a == 91) τ6 s6 := by rw [es6]; exact Fr.rf.fill rfl
  rw [← es6]
  have a6 : ∀ a, a ≠ 90 → a ≠ 91 → s6.1 a = τ5.1 a := fun a h1 h2 => by rw [f6'.1 a (beq_false_of_ne h2), F56.1 a (beq_false_of_ne h1)]
  have h4 : s6.1 80 4 = nI (gnu m) := by rw [a6 80 (by omega) (by omega), an5 4 (by omega)]; rfl
  refine l155 (nu := gnu m) h4 (by omega) ep (fun σ F7 t7 => ?_)
  have F67 := f6'.tr F7
  have a7 : ∀ a, a ≠ 90 → a ≠ 91 → σ.1 a = τ5.1 a := fun a h1 h2 => by rw [F7.1 a (beq_false_of_ne h2), a6 a h1 h2]
  have G7 : Gs T c (top + 1) top σ := G6.f F67 (fun a ha => beq_false_of_ne (by omega))
  have q6 : Q5m 80 m s6 := by
    unfold Q5m Q5 at q5 ⊢
    rw [a6 80 (by omega) (by omega), a6 81 (by omega) (by omega), a6 82 (by omega) (by omega), a6 83 (by omega) (by omega)]; exact q5
  have h4' : σ.1 80 4 = nI (gnu m) := by rw [a7 80 (by omega) (by omega), an5 4 (by omega)]; rfl
  have tl : ∀ j, j < 10 → σ.1 90 j = ansF (clOf 7) m j := fun j hj => by rw [F67.1 90 rfl]; exact t6' j hj
  have Td : Told T c top pn σ := by
    refine ⟨fun j hj => by rw [← em]; exact tl j hj, by rw [← em]; exact ep, fun i hi => ?_⟩
    rw [← em] at hi ⊢
    rw [t7 (3 * i + 1) (by omega), show (3 * i + 1) / 3 = i by omega, show (3 * i + 1) % 3 = 1 by omega, vPr_q q6 (by omega) (by omega)]
    rfl
  have P7 : Ph T c top d' σ σ := ⟨G7, Fr.rf, by rw [a7 88 (by omega) (by omega), d88]; exact h3, by rw [a7 88 (by omega) (by omega), d88]; exact h2⟩
  refine digest_ok G7 h4' (by omega) (fun τ8 F8 G8 => nm_e ?_)
  rw [mrg_fr F8 SO_88]
  have P8 := P7.go F8 G8
  rw [em]
  refine l195 hga Td P8 (by omega) (fun d2 τ9 hd2 P9 => ?_)
  have S9 : ∀ a, SM a = false → τ9.1 a = σ.1 a := P9.2.1.1
  refine digest_ok (nu := gnu m) P9.1 (by rw [S9 80 rfl]; exact h4') (by omega) (fun τ10 F10 G10 => nm_e ?_)
  rw [mrg_fr F10 SO_88]
  have P10 := P9.go F10 G10
  have S10 : ∀ a, SM a = false → τ10.1 a = σ.1 a := P10.2.1.1
  have ev : vRun τ9 = vRun σ := by funext k; unfold vRun; rw [S9 0 rfl, S9 80 rfl]
  have ew : vPr τ9 = vPr σ := by funext a k; unfold vPr; rw [S9 81 rfl, S9 82 rfl, S9 83 rfl]
  refine ⟨by rw [ev, ew, ← em], run_ok G10 (fun τ11 F11 G11 an11 q11 e11 => nm_e ?_)⟩
  rw [mrg_fr F11 S80_88]
  rw [← em] at an11 q11 ⊢
  have h11 : τ11.1 0 13 = 2 := by rw [e11, S10 0 rfl, a7 0 (by omega) (by omega), e5]; rfl
  have k11 : ∀ a, a = 90 ∨ a = 91 ∨ a = 88 ∨ a = 7 ∨ a = 18 ∨ a = 19 → τ11.1 a = τ10.1 a := fun a ha => F11.1 a (S80_f (by omega))
  have t11 : ∀ j, j < 10 → τ11.1 90 j = ansF (clOf 7) m j := fun j hj => by rw [k11 90 (by omega), S10 90 rfl]; exact tl j hj
  refine br_t rfl (l495 (fun j hj => by rw [t11 j hj, an11 j (by omega)]) ?_)
  refine l527 (nu := gnu m) (by rw [an11 4 (by omega)]; rfl) (by omega) ep (fun j hj => ?_) ?_
  · rw [k11 91 (by omega), S10 91 rfl, t7 j hj, vPr_q q11 (by omega) (by omega), vPr_q q6 (by omega) (by omega)]
  refine many_ok (k := 5) G11 (by omega) (fun τ12 F12 G12 => nm_e ?_)
  rw [mrg_fr F12 SO_88]
  have k12 : ∀ a, a = 90 ∨ a = 91 ∨ a = 88 ∨ a = 7 ∨ a = 18 ∨ a = 19 → τ12.1 a = τ11.1 a := fun a ha => F12.1 a (SO_f (by omega))
  have h88 : τ12.1 88 3 = nI (top + 1) := by rw [k12 88 (by omega), k11 88 (by omega)]; exact P10.2.2.1
  refine l576 G12 h88 ?_
  have z3 : ∀ a, a = 7 ∨ a = 18 ∨ a = 19 → τ12.1 a = τ3.1 a := fun a ha => by
    rw [k12 a (by omega), k11 a (by omega), S10 a (SM_f (by omega)), a7 a (by omega) (by omega), F5.1 a (S80_f (by omega)), F4.1 a (SO_f (by omega))]
  have S12 := sit_gs S3 G12 (z3 18 (by omega))
  have B12 := bd_e B3 (z3 7 (by omega)) (z3 19 (by omega))
  refine brk_ok S12 B12 h88 (by omega) hx (fun τ13 S13 B13 w13 e0 e76 e883 e882 e89 => nm_e ?_)
  rw [mrm_eq (fun a ha => e89 a (by omega))]
  have h18 : τ13.1 18 (top + 1) = -1 := by
    rcases S13.2.2.2.2.2.2.2 with q | q
    · omega
    · exact q.2
  refine br_t rfl (br_f (nI_ne (b := 1000) (by omega) (by omega) (by omega)) (body_ok (t := top + 1) S13 B13 (by omega) (by rw [S13.2.2.2.2.1.2.2.2]; omega) h18 (fun e => by cases e) (fun q e => by cases e; omega) (fun τ14 K14 S14 B14 w14 => nm_e ?_)))
  rw [mrg_fr K14.1 S0_88]
  refine br_t rfl (many2_o S14 B14 w14 (fun τ15 K15 L15 => nm_e ?_))
  rw [mrg_fr K15.1 S0_88]
  have h15 : τ15.1 88 3 = nI (top + 2) := by rw [K15.1.1 88 rfl, K14.1.1 88 rfl]; exact e883
  refine br_t (by rw [h15, nI_m1 (by omega)]; rfl) (many5_o L15 (nm_e ?_))
  rw [mrg_self]
  refine br_t rfl (many3_o L15 (nm_e ?_))
  rw [mrg_self]
  refine br_t rfl (fault_o L15 (nm_e ?_))
  rw [mrg_self]
  refine br_t rfl (many10_o L15 (nm_e ?_))
  rw [mrg_self]
  refine br_t rfl (ofRun_ok (k := 3) (by omega) (nm_e ?_))
  rw [mrg_self]
  have e80 : τ15.1 80 = τ12.1 80 := by rw [K15.1.1 80 rfl, K14.1.1 80 rfl, e76 80 (by omega) (by omega)]
  have e90 : τ15.1 90 = τ12.1 90 := by rw [K15.1.1 90 rfl, K14.1.1 90 rfl, e89 90 (by omega)]
  have an15 : vRun τ15 3 = g τ15 90 3 := by
    rw [show (3 : Int32) = nI 3 by decide, q_I (by omega)]
    unfold vRun
    rw [if_neg (by omega), e80, e90, k12 90 (by omega), t11 3 (by omega), F12.1 80 rfl, an11 3 (by omega)]
  refine br_t an15 (l722 L15 ?_)
  refine body_ok (t := top) L15.1 L15.2.1 (by omega) L15.1.2.2.2.2.1.2.1 L15.1.2.2.2.2.2.2.1 (fun e => by cases e) (fun q e => by cases e; omega) (fun τ16 K16 S16 B16 w16 => nm_e ?_)
  rw [mrg_fr K16.1 S0_88]
  refine br_t rfl (many5_t S16 B16 w16 (fun τ17 K17 S17 B17 G17 => nm_e ?_))
  rw [mrg_fr K17.1 S0_88]
  refine br_t (by rw [cF_2]; rfl) (run_ok G17 (fun τ18 F18 G18 an18 q18 e18 => nm_e ?_))
  rw [mrg_fr F18 S80_88]
  rw [← em]
  refine br_t rfl (ofRun_ok (k := 10) (by omega) (nm_e ?_))
  have l13 : vRun τ18 10 = 3 := by
    unfold vRun
    rw [if_pos rfl, e18, K17.2 13 (by omega), K16.2 13 (by omega), K15.2 13 (by omega), K14.2 13 (by omega), e0 13 (by omega), F12.1 0 rfl, h11]; rfl
  exact br_t l13 trivial
end LZ
