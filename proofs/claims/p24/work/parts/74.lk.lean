theorem dL_law_2 : decode cL_law 2 = .ok (.iload_n 1, 1) := by decide +kernel
theorem dL_law_3 : decode cL_law 3 = .ok (.iconst 3, 1) := by decide +kernel
theorem dL_law_4 : decode cL_law 4 = .ok (.if_icmp .ge 805, 3) := by decide +kernel
theorem dL_law_7 : decode cL_law 7 = .ok (.new 9, 3) := by decide +kernel
theorem dL_law_10 : decode cL_law 10 = .ok (.dup, 1) := by decide +kernel
theorem dL_law_11 : decode cL_law 11 = .ok (.aload_n 0, 1) := by decide +kernel
theorem dL_law_12 : decode cL_law 12 = .ok (.bipush 31, 2) := by decide +kernel
theorem dL_law_14 : decode cL_law 14 = .ok (.iload_n 1, 1) := by decide +kernel
theorem dL_law_15 : decode cL_law 15 = .ok (.imul, 1) := by decide +kernel
theorem dL_law_16 : decode cL_law 16 = .ok (.bipush 7, 2) := by decide +kernel
theorem dL_law_18 : decode cL_law 18 = .ok (.iadd, 1) := by decide +kernel
theorem dL_law_19 : decode cL_law 19 = .ok (.invokespecial 11, 3) := by decide +kernel
theorem dL_law_803 : decode cL_law 803 = .ok (.iinc 1 1, 3) := by decide +kernel
theorem dL_law_806 : decode cL_law 806 = .ok (.goto (-804), 3) := by decide +kernel
theorem dL_law_0 : decode cL_law 0 = .ok (.iconst 0, 1) := by decide +kernel
theorem dL_law_1 : decode cL_law 1 = .ok (.istore_n 1, 1) := by decide +kernel
theorem dL_law_809 : decode cL_law 809 = .ok (.iconst 1, 1) := by decide +kernel
theorem dL_law_810 : decode cL_law 810 = .ok (.ireturn, 1) := by decide +kernel
section LK
theorem lawK {s : State} {args : Array Value} (hts : ∀ w ∈ lw_tbl, w.before args s = true) (hov : va_Nw (Cond.arrayOver (.array .int)) s) : ∃ (D : va_G) (cI cZ cJ : ClassId), va_K D vwCl (tyL cI cZ cJ) s := by
  obtain ⟨c0, i0, k0⟩ := u_known (C := RX0) (T := TX0) (N := 17) (n := 17) hts (fun w h => uG_tbl (inX0 w h)) (hts _ (uG_tbl kw_2_65))
  obtain ⟨c1, i1, k1⟩ := u_known (C := RX1) (T := TX1) (N := 12) (n := 12) hts (fun w h => uG_tbl (inX1 w h)) (hts _ (uG_tbl kw_3_206))
  obtain ⟨c2, i2, k2⟩ := u_known (C := RX2) (T := TX2) (N := 9) (n := 9) hts (fun w h => uG_tbl (inX2 w h)) (hts _ (uG_tbl kw_1_236))
  obtain ⟨c3, i3, k3⟩ := u_known (C := RX3) (T := TX3) (N := 17) (n := 17) hts (fun w h => uG_tbl (inX3 w h)) (hts _ (uG_tbl kw_2_210))
  obtain ⟨c4, i4, k4⟩ := u_known (C := RX4) (T := TX4) (N := 19) (n := 19) hts (fun w h => uG_tbl (inX4 w h)) (hts _ (uG_tbl kw_1_134))
  obtain ⟨c5, i5, k5⟩ := u_known (C := RX5) (T := TX5) (N := 7) (n := 7) hts (fun w h => uG_tbl (inX5 w h)) (hts _ (uG_tbl kw_4_32))
  obtain ⟨c6, i6, k6⟩ := u_known (C := RX6) (T := TX6) (N := 14) (n := 14) hts (fun w h => uG_tbl (inX6 w h)) (hts _ (uG_tbl kw_5_66))
  obtain ⟨c7, i7, k7⟩ := u_known (C := RX7) (T := TX7) (N := 3) (n := 3) hts (fun w h => uG_tbl (inX7 w h)) (hts _ (uG_tbl kw_3_12))
  obtain ⟨c8, i8, k8⟩ := u_known (C := RX8) (T := TX8) (N := 14) (n := 14) hts (fun w h => uG_tbl (inX8 w h)) (hts _ (uG_tbl kw_1_28))
  obtain ⟨c9, i9, k9⟩ := u_known (C := RX9) (T := TX9) (N := 14) (n := 14) hts (fun w h => uG_tbl (inX9 w h)) (hts _ (uG_tbl kw_3_195))
  obtain ⟨a0, q0, p0, f0, g0, h0⟩ := Cond.arrayClass_spec (hts _ (uG_tbl kw_3_130))
  obtain ⟨a1, q1, p1, f1, g1, h1⟩ := Cond.arrayClass_spec (hts _ (uG_tbl kw_4_172))
  obtain ⟨comp, a2, kA, o1, o2, o3, o4, o5⟩ := arrayOverA_spec hov
  refine ⟨(fun k => [c0, c1, c2, c3, c4, c5, c6, c7, c8, c9].getD k c0, fun k => [i0, i1, i2, i3, i4, i5, i6, i7, i8, i9].getD k i0), a0, a1, a2, ?_, ?_⟩
  · intro k q hq
    match k, hq with
    | 0, hq => cases hq; exact k0
    | 1, hq => cases hq; exact k1
    | 2, hq => cases hq; exact k2
    | 3, hq => cases hq; exact k3
    | 4, hq => cases hq; exact k4
    | 5, hq => cases hq; exact k5
    | 6, hq => cases hq; exact k6
    | 7, hq => cases hq; exact k7
    | 8, hq => cases hq; exact k8
    | 9, hq => cases hq; exact k9
    | k + 10, hq => simp [vwCl] at hq
  · intro k q hq
    match k, hq with
    | 0, hq => cases hq; exact ⟨fun n z => ⟨fun k h => (by cases h), q0, g0, p0, h0⟩, f0⟩
    | 1, hq => cases hq; exact ⟨fun n z => ⟨fun k h => (by cases h), q1, g1, p1, h1⟩, f1⟩
    | 2, hq => cases hq; exact ⟨fun n z => ⟨fun k h => (by cases h), kA, o3, comp, o4⟩, o5⟩
    | k + 3, hq => simp [tyL] at hq
set_option maxHeartbeats 8000000 in
set_option maxRecDepth 100000 in
theorem lawB {s : State} {args : Array Value} {b L : Nat} {xs : Nat → Int32} (hts : ∀ w ∈ lw_tbl, w.before args s = true) (hgv : (Jvm.Cond.and given_1 narrow_1).before args s = true) (hX : va_X b L xs s s.heap) (hbl : b < s.heap.size) : ∃ ra : Nat → Nat, amb ra (b, (L, xs)) (fun q => s.heap.size ≤ q) s s.heap := by
  obtain ⟨scr, h1, h2, h3, h4, h5⟩ := hX
  have hq := flat_of_before _ hgv
  have hA : ∀ a : Nat, a < s.heap.size → ¬ (fun q : Nat => s.heap.size ≤ q) a := fun a h => Nat.not_le.mpr h
  obtain ⟨t0, e0, T0⟩ := va_Tof (tm := (Term.static "StaticLink$Nodes" "ROLE_A" "[I")) (ty := .int) (N := 22) (f := fun j => .int (tROLE_A j)) (by decide) (hq (.arrayOf (Term.static "StaticLink$Nodes" "ROLE_A" "[I") .int) (by decide +kernel)) (va_eqt (hq (.eq (.length (Term.static "StaticLink$Nodes" "ROLE_A" "[I")) (.int 22)) (by decide +kernel))) (fun j hj => by
    match j, hj with
    | 0, _ => exact va_eqt (hq (.eq (.elem (Term.static "StaticLink$Nodes" "ROLE_A" "[I") (.int 0)) (.int 1)) (by decide +kernel))
    | 1, _ => exact va_eqt (hq (.eq (.elem (Term.static "StaticLink$Nodes" "ROLE_A" "[I") (.int 1)) (.int 2)) (by decide +kernel))
    | 2, _ => exact va_eqt (hq (.eq (.elem (Term.static "StaticLink$Nodes" "ROLE_A" "[I") (.int 2)) (.int 2)) (by decide +kernel))
    | 3, _ => exact va_eqt (hq (.eq (.elem (Term.static "StaticLink$Nodes" "ROLE_A" "[I") (.int 3)) (.int 0)) (by decide +kernel))
    | 4, _ => exact va_eqt (hq (.eq (.elem (Term.static "StaticLink$Nodes" "ROLE_A" "[I") (.int 4)) (.int 0)) (by decide +kernel))
    | 5, _ => exact va_eqt (hq (.eq (.elem (Term.static "StaticLink$Nodes" "ROLE_A" "[I") (.int 5)) (.int 0)) (by decide +kernel))
    | 6, _ => exact va_eqt (hq (.eq (.elem (Term.static "StaticLink$Nodes" "ROLE_A" "[I") (.int 6)) (.int 0)) (by decide +kernel))
    | 7, _ => exact va_eqt (hq (.eq (.elem (Term.static "StaticLink$Nodes" "ROLE_A" "[I") (.int 7)) (.int 0)) (by decide +kernel))
    | 8, _ => exact va_eqt (hq (.eq (.elem (Term.static "StaticLink$Nodes" "ROLE_A" "[I") (.int 8)) (.int 2)) (by decide +kernel))
    | 9, _ => exact va_eqt (hq (.eq (.elem (Term.static "StaticLink$Nodes" "ROLE_A" "[I") (.int 9)) (.int 0)) (by decide +kernel))
    | 10, _ => exact va_eqt (hq (.eq (.elem (Term.static "StaticLink$Nodes" "ROLE_A" "[I") (.int 10)) (.int 2)) (by decide +kernel))
    | 11, _ => exact va_eqt (hq (.eq (.elem (Term.static "StaticLink$Nodes" "ROLE_A" "[I") (.int 11)) (.int 2)) (by decide +kernel))
    | 12, _ => exact va_eqt (hq (.eq (.elem (Term.static "StaticLink$Nodes" "ROLE_A" "[I") (.int 12)) (.int 0)) (by decide +kernel))
    | 13, _ => exact va_eqt (hq (.eq (.elem (Term.static "StaticLink$Nodes" "ROLE_A" "[I") (.int 13)) (.int 2)) (by decide +kernel))
    | 14, _ => exact va_eqt (hq (.eq (.elem (Term.static "StaticLink$Nodes" "ROLE_A" "[I") (.int 14)) (.int 2)) (by decide +kernel))
    | 15, _ => exact va_eqt (hq (.eq (.elem (Term.static "StaticLink$Nodes" "ROLE_A" "[I") (.int 15)) (.int 6)) (by decide +kernel))
    | 16, _ => exact va_eqt (hq (.eq (.elem (Term.static "StaticLink$Nodes" "ROLE_A" "[I") (.int 16)) (.int 3)) (by decide +kernel))
    | 17, _ => exact va_eqt (hq (.eq (.elem (Term.static "StaticLink$Nodes" "ROLE_A" "[I") (.int 17)) (.int 3)) (by decide +kernel))
    | 18, _ => exact va_eqt (hq (.eq (.elem (Term.static "StaticLink$Nodes" "ROLE_A" "[I") (.int 18)) (.int 0)) (by decide +kernel))
    | 19, _ => exact va_eqt (hq (.eq (.elem (Term.static "StaticLink$Nodes" "ROLE_A" "[I") (.int 19)) (.int 0)) (by decide +kernel))
    | 20, _ => exact va_eqt (hq (.eq (.elem (Term.static "StaticLink$Nodes" "ROLE_A" "[I") (.int 20)) (.int 0)) (by decide +kernel))
    | 21, _ => exact va_eqt (hq (.eq (.elem (Term.static "StaticLink$Nodes" "ROLE_A" "[I") (.int 21)) (.int 2)) (by decide +kernel))
    | j + 22, hj => omega) hA
  obtain ⟨t1, e1, T1⟩ := va_Tof (tm := (Term.static "StaticLink$Nodes" "ROLE_B" "[I")) (ty := .int) (N := 22) (f := fun j => .int (tROLE_B j)) (by decide) (hq (.arrayOf (Term.static "StaticLink$Nodes" "ROLE_B" "[I") .int) (by decide +kernel)) (va_eqt (hq (.eq (.length (Term.static "StaticLink$Nodes" "ROLE_B" "[I")) (.int 22)) (by decide +kernel))) (fun j hj => by
    match j, hj with
    | 0, _ => exact va_eqt (hq (.eq (.elem (Term.static "StaticLink$Nodes" "ROLE_B" "[I") (.int 0)) (.int 0)) (by decide +kernel))
    | 1, _ => exact va_eqt (hq (.eq (.elem (Term.static "StaticLink$Nodes" "ROLE_B" "[I") (.int 1)) (.int 0)) (by decide +kernel))
    | 2, _ => exact va_eqt (hq (.eq (.elem (Term.static "StaticLink$Nodes" "ROLE_B" "[I") (.int 2)) (.int 4)) (by decide +kernel))
    | 3, _ => exact va_eqt (hq (.eq (.elem (Term.static "StaticLink$Nodes" "ROLE_B" "[I") (.int 3)) (.int 4)) (by decide +kernel))
    | 4, _ => exact va_eqt (hq (.eq (.elem (Term.static "StaticLink$Nodes" "ROLE_B" "[I") (.int 4)) (.int 4)) (by decide +kernel))
    | 5, _ => exact va_eqt (hq (.eq (.elem (Term.static "StaticLink$Nodes" "ROLE_B" "[I") (.int 5)) (.int 4)) (by decide +kernel))
    | 6, _ => exact va_eqt (hq (.eq (.elem (Term.static "StaticLink$Nodes" "ROLE_B" "[I") (.int 6)) (.int 4)) (by decide +kernel))
    | 7, _ => exact va_eqt (hq (.eq (.elem (Term.static "StaticLink$Nodes" "ROLE_B" "[I") (.int 7)) (.int 4)) (by decide +kernel))
    | 8, _ => exact va_eqt (hq (.eq (.elem (Term.static "StaticLink$Nodes" "ROLE_B" "[I") (.int 8)) (.int 7)) (by decide +kernel))
    | 9, _ => exact va_eqt (hq (.eq (.elem (Term.static "StaticLink$Nodes" "ROLE_B" "[I") (.int 9)) (.int 8)) (by decide +kernel))
    | 10, _ => exact va_eqt (hq (.eq (.elem (Term.static "StaticLink$Nodes" "ROLE_B" "[I") (.int 10)) (.int 0)) (by decide +kernel))
    | 11, _ => exact va_eqt (hq (.eq (.elem (Term.static "StaticLink$Nodes" "ROLE_B" "[I") (.int 11)) (.int 0)) (by decide +kernel))
    | 12, _ => exact va_eqt (hq (.eq (.elem (Term.static "StaticLink$Nodes" "ROLE_B" "[I") (.int 12)) (.int 5)) (by decide +kernel))
    | 13, _ => exact va_eqt (hq (.eq (.elem (Term.static "StaticLink$Nodes" "ROLE_B" "[I") (.int 13)) (.int 4)) (by decide +kernel))
    | 14, _ => exact va_eqt (hq (.eq (.elem (Term.static "StaticLink$Nodes" "ROLE_B" "[I") (.int 14)) (.int 4)) (by decide +kernel))
    | 15, _ => exact va_eqt (hq (.eq (.elem (Term.static "StaticLink$Nodes" "ROLE_B" "[I") (.int 15)) (.int 4)) (by decide +kernel))
    | 16, _ => exact va_eqt (hq (.eq (.elem (Term.static "StaticLink$Nodes" "ROLE_B" "[I") (.int 16)) (.int 4)) (by decide +kernel))
    | 17, _ => exact va_eqt (hq (.eq (.elem (Term.static "StaticLink$Nodes" "ROLE_B" "[I") (.int 17)) (.int 0)) (by decide +kernel))
    | 18, _ => exact va_eqt (hq (.eq (.elem (Term.static "StaticLink$Nodes" "ROLE_B" "[I") (.int 18)) (.int 4)) (by decide +kernel))
    | 19, _ => exact va_eqt (hq (.eq (.elem (Term.static "StaticLink$Nodes" "ROLE_B" "[I") (.int 19)) (.int 4)) (by decide +kernel))
    | 20, _ => exact va_eqt (hq (.eq (.elem (Term.static "StaticLink$Nodes" "ROLE_B" "[I") (.int 20)) (.int 9)) (by decide +kernel))
    | 21, _ => exact va_eqt (hq (.eq (.elem (Term.static "StaticLink$Nodes" "ROLE_B" "[I") (.int 21)) (.int 10)) (by decide +kernel))
    | j + 22, hj => omega) hA
  obtain ⟨t2, e2, T2⟩ := va_Tof (tm := (Term.static "StaticLink$Nodes" "ROLE_C" "[I")) (ty := .int) (N := 22) (f := fun j => .int (tROLE_C j)) (by decide) (hq (.arrayOf (Term.static "StaticLink$Nodes" "ROLE_C" "[I") .int) (by decide +kernel)) (va_eqt (hq (.eq (.length (Term.static "StaticLink$Nodes" "ROLE_C" "[I")) (.int 22)) (by decide +kernel))) (fun j hj => by
    match j, hj with
    | 0, _ => exact va_eqt (hq (.eq (.elem (Term.static "StaticLink$Nodes" "ROLE_C" "[I") (.int 0)) (.int 0)) (by decide +kernel))
    | 1, _ => exact va_eqt (hq (.eq (.elem (Term.static "StaticLink$Nodes" "ROLE_C" "[I") (.int 1)) (.int 0)) (by decide +kernel))
    | 2, _ => exact va_eqt (hq (.eq (.elem (Term.static "StaticLink$Nodes" "ROLE_C" "[I") (.int 2)) (.int 0)) (by decide +kernel))
    | 3, _ => exact va_eqt (hq (.eq (.elem (Term.static "StaticLink$Nodes" "ROLE_C" "[I") (.int 3)) (.int 4)) (by decide +kernel))
    | 4, _ => exact va_eqt (hq (.eq (.elem (Term.static "StaticLink$Nodes" "ROLE_C" "[I") (.int 4)) (.int 4)) (by decide +kernel))
    | 5, _ => exact va_eqt (hq (.eq (.elem (Term.static "StaticLink$Nodes" "ROLE_C" "[I") (.int 5)) (.int 4)) (by decide +kernel))
    | 6, _ => exact va_eqt (hq (.eq (.elem (Term.static "StaticLink$Nodes" "ROLE_C" "[I") (.int 6)) (.int 4)) (by decide +kernel))
    | 7, _ => exact va_eqt (hq (.eq (.elem (Term.static "StaticLink$Nodes" "ROLE_C" "[I") (.int 7)) (.int 4)) (by decide +kernel))
    | 8, _ => exact va_eqt (hq (.eq (.elem (Term.static "StaticLink$Nodes" "ROLE_C" "[I") (.int 8)) (.int 0)) (by decide +kernel))
    | 9, _ => exact va_eqt (hq (.eq (.elem (Term.static "StaticLink$Nodes" "ROLE_C" "[I") (.int 9)) (.int 7)) (by decide +kernel))
    | 10, _ => exact va_eqt (hq (.eq (.elem (Term.static "StaticLink$Nodes" "ROLE_C" "[I") (.int 10)) (.int 0)) (by decide +kernel))
    | 11, _ => exact va_eqt (hq (.eq (.elem (Term.static "StaticLink$Nodes" "ROLE_C" "[I") (.int 11)) (.int 0)) (by decide +kernel))
    | 12, _ => exact va_eqt (hq (.eq (.elem (Term.static "StaticLink$Nodes" "ROLE_C" "[I") (.int 12)) (.int 5)) (by decide +kernel))
    | 13, _ => exact va_eqt (hq (.eq (.elem (Term.static "StaticLink$Nodes" "ROLE_C" "[I") (.int 13)) (.int 0)) (by decide +kernel))
    | 14, _ => exact va_eqt (hq (.eq (.elem (Term.static "StaticLink$Nodes" "ROLE_C" "[I") (.int 14)) (.int 4)) (by decide +kernel))
    | 15, _ => exact va_eqt (hq (.eq (.elem (Term.static "StaticLink$Nodes" "ROLE_C" "[I") (.int 15)) (.int 5)) (by decide +kernel))
    | 16, _ => exact va_eqt (hq (.eq (.elem (Term.static "StaticLink$Nodes" "ROLE_C" "[I") (.int 16)) (.int 5)) (by decide +kernel))
    | 17, _ => exact va_eqt (hq (.eq (.elem (Term.static "StaticLink$Nodes" "ROLE_C" "[I") (.int 17)) (.int 0)) (by decide +kernel))
    | 18, _ => exact va_eqt (hq (.eq (.elem (Term.static "StaticLink$Nodes" "ROLE_C" "[I") (.int 18)) (.int 0)) (by decide +kernel))
    | 19, _ => exact va_eqt (hq (.eq (.elem (Term.static "StaticLink$Nodes" "ROLE_C" "[I") (.int 19)) (.int 0)) (by decide +kernel))
    | 20, _ => exact va_eqt (hq (.eq (.elem (Term.static "StaticLink$Nodes" "ROLE_C" "[I") (.int 20)) (.int 0)) (by decide +kernel))
    | 21, _ => exact va_eqt (hq (.eq (.elem (Term.static "StaticLink$Nodes" "ROLE_C" "[I") (.int 21)) (.int 0)) (by decide +kernel))
    | j + 22, hj => omega) hA
  have hov : (Cond.arrayOver (.array .int)).before args s = true := (hts _ (List.mem_append_right _ (tb_5 (List.mem_of_getElem? (i := 227) (by decide +kernel)))))
  have hov2 : va_Nw (Cond.arrayOver (.array .int)) s := by
    first
    | exact hov
    | (show Cond.before _ _ _ = true; simpa [Cond.before, Cond.holds, Cond.value] using hov)
  exact ⟨uL [t0, t1, t2], ⟨⟨va_Nw.of rfl (hts _ (List.mem_append_right _ (tb_4 (List.mem_of_getElem? (i := 33) (by decide +kernel))))), va_Nw.of rfl (hts _ (List.mem_append_right _ (tb_5 (List.mem_of_getElem? (i := 67) (by decide +kernel))))), va_Nw.of rfl (hts _ (List.mem_append_right _ (tb_5 (List.mem_of_getElem? (i := 182) (by decide +kernel))))), va_Nw.of rfl (hts _ (List.mem_append_right _ (tb_6 (List.mem_of_getElem? (i := 33) (by decide +kernel))))), va_Nw.of rfl (hts _ (List.mem_append_right _ (tb_6 (List.mem_of_getElem? (i := 37) (by decide +kernel))))), va_Nw.of rfl (hts _ (List.mem_append_right _ (tb_6 (List.mem_of_getElem? (i := 85) (by decide +kernel)))))⟩, ⟨⟨va_Zref (hts _ (List.mem_append_right _ (tb_1 (List.mem_of_getElem? (i := 145) (by decide +kernel))))) (hts _ (uG_tbl kw_1_5)) e0 hA, T0⟩, ⟨va_Zref (hts _ (List.mem_append_right _ (tb_2 (List.mem_of_getElem? (i := 45) (by decide +kernel))))) (hts _ (uG_tbl kw_1_5)) e1 hA, T1⟩, ⟨va_Zref (hts _ (List.mem_append_right _ (tb_2 (List.mem_of_getElem? (i := 39) (by decide +kernel))))) (hts _ (uG_tbl kw_1_5)) e2 hA, T2⟩⟩, ⟨scr, h1, h2, h3, Nat.le_of_eq h4.symm, (by rw [h4]), h5, Nat.not_le.mpr hbl⟩, hov2⟩⟩
set_option maxHeartbeats 8000000 in
set_option maxRecDepth 100000 in
/-- one time of the outer loop -/
theorem law_turn (l : Launch) (D : va_G) (cI cZ cJ : ClassId) {p : Program} {e : Env} {s : State} {m : MethodId} {below : List Frame} {meth : Method} {c : Code} {b L : Nat} {xs : Nat → Int32} (S : CallFix p m c cL_law 16 s #[Value.ref b] uG RL) (hK : va_K D vwCl (tyL cI cZ cJ) s) (ra : Nat → Nat) (hB : amb ra (b, (L, xs)) (fun q : Nat => s.heap.size ≤ q) s s.heap) (hL : L ≤ 260) (k : Nat) (hk : k < 3)
    (next : ∀ (H : Heap) (locs : List Loc) (ls : Array Slot), lv_has ls 16 [(1, .int (nI (k + 1))), (0, .ref b)] → va_S (fun q : Nat => s.heap.size ≤ q) s.heap H locs → W p l e room_1 s m #[Value.ref b] below meth c H locs (243 * (k + 1)) (12026 * (k + 1)) (lw_Z below #[Value.ref b] s) (F0 m 2 ls [])) (H : Heap) (locs : List Loc) (ls : Array Slot) (hl : lv_has ls 16 [(1, .int (nI k)), (0, .ref b)]) (hS : va_S (fun q : Nat => s.heap.size ≤ q) s.heap H locs) : W p l e room_1 s m #[Value.ref b] below meth c H locs (243 * k) (12026 * k) (lw_Z below #[Value.ref b] s) (F0 m 2 ls []) := by
  have hx := S.1
  have hb := S.2.1
  have hA : ∀ q : Nat, s.heap.size ≤ q → (fun q : Nat => s.heap.size ≤ q) q := fun _ h => h
  have hP : va_P D vwCl [] H := fun k q h => by simp at h
  have hD : va_D (fun q : Nat => s.heap.size ≤ q) [] := ⟨fun i j p q h => by simp at h, fun k q h => by simp at h⟩
  refine lv_iload_n hx hb dL_law_2 rfl (lv_at hl 0 rfl) ?_
  refine lv_iconst (v := 3) hx hb dL_law_3 (by decide) ?_
  refine lv_icmp_ge (tgt := 809) hx hb dL_law_4 (by decide) (fun c => absurd c (nI_ge (b := 3) hk (by omega))) (fun _ => ?_)
  refine xnew (ci := 9) (fs := dF9) S inX9 tyX9 tyX9_ok kw_3_194 kw_3_195 kw_1_1 hK hP hD hS hA rfl dF9_ok (by show _ ≤ 600104; omega) (by show _ ≤ 7301314; omega) dL_law_7 (fun g H hP hD hS => ?_)
  have hP : va_P D vwCl [(g, .inr (9, dF9))] H := hP
  have hD : va_D (fun q : Nat => s.heap.size ≤ q) [(g, .inr (9, dF9))] := hD
  refine lv_dup hx hb dL_law_10 rfl ?_
  refine lv_aload_n hx hb dL_law_11 rfl (lv_at hl 1 rfl) ?_
  refine lv_bipush (v := 31) hx hb dL_law_12 (by decide) ?_
  refine lv_iload_n hx hb dL_law_14 rfl (lv_at hl 0 rfl) ?_
  refine ximul (v := nI (31 * k)) S dL_law_15 (by rw [show (31 : Int32) = nI 31 by decide, nI_mul]) ?_
  refine lv_bipush (v := 7) hx hb dL_law_16 (by decide) ?_
  refine xiadd (v := nI (31 * k + 7)) S dL_law_18 (by rw [show (7 : Int32) = nI 7 by decide, nI_add]) ?_
  refine aI (As := [.ref b, .int (nI (31 * k + 7))]) (k := 0) S (c_X9_init l D cI cZ cJ g (nI (31 * k + 7)) ra (b, (L, xs)) H.size) mc_X9_init kw_3_196 rfl rfl ⟨Nat.le_of_ble_eq_true rfl, Nat.le_of_ble_eq_true rfl⟩ hP hD hK hS hA hB rfl hl.1 (Nat.le_of_ble_eq_true rfl) ⟨(by show _ ≤ 600104; omega), (by show _ ≤ 7301314; omega)⟩ dL_law_19 (fun U H locs hz hP hD hS => ?_)
  have hP : va_P D vwCl (mW (U 0) (fun j => if j = 87 then g else if j < 87 then U (j + 1) else U j) cI cZ cJ 75 (b, (L, xs)) (z0 (nI (31 * k + 7))) ++ [(U 89, .inl (cI, 3, .inl (fun _ => 0))), (U 90, .inl (cI, 4, .inl (fun _ => 0))), (U 91, .inl (cI, 0, .inl (fun _ => 0))), (U 92, .inl (cI, 0, .inl (fun _ => 0)))]) H := hP
  have hD : va_D (fun q : Nat => s.heap.size ≤ q) (mW (U 0) (fun j => if j = 87 then g else if j < 87 then U (j + 1) else U j) cI cZ cJ 75 (b, (L, xs)) (z0 (nI (31 * k + 7))) ++ [(U 89, .inl (cI, 3, .inl (fun _ => 0))), (U 90, .inl (cI, 4, .inl (fun _ => 0))), (U 91, .inl (cI, 0, .inl (fun _ => 0))), (U 92, .inl (cI, 0, .inl (fun _ => 0)))]) := hD
  have hP := va_Pl hP
  have hD := va_Dl hD
  refine law_body l D cI cZ cJ S hK ra (b, (L, xs)) hA hB b (nI k) (U 0) (fun j => if j = 87 then g else if j < 87 then U (j + 1) else U j) (243 * k + 1 + 93) (12026 * k + 14 + 11264) (Nat.le_of_ble_eq_true rfl) (Nat.le_of_ble_eq_true rfl) (by show _ ≤ 600104; omega) (by show _ ≤ 7301314; omega) (fun H locs ls hl hS => ?_) (z0 (nI (31 * k + 7))) (law_ok (ga := (b, (L, xs))) (show L < 2 ^ 31 by omega) (by omega)) H locs ls hl hP hD hS
  refine lv_iinc (v := nI (k + 1)) (lv' := [(1, .int (nI (k + 1))), (0, .ref b)]) hx hb dL_law_803 hl (k := 0) rfl (nI_1 k) (by decide) rfl (fun ls hl => ?_)
  refine lv_goto (tgt := 2) hx hb dL_law_806 (by decide) ?_
  refine W.widen (k := 243 * (k + 1)) (n := 12026 * (k + 1)) (by omega) (by omega) ?_
  exact next H locs ls hl hS
/-- the law from its entry -/
theorem whole5 {p : Program} {e : Env} {s : State} {m : MethodId} {below : List Frame} {meth : Method} {c : Code} (l : Launch) {b L : Nat} {xs : Nat → Int32} (hL : L ≤ 260) (C0 : lw_At p s m meth c b L xs) : W p l e room_1 s m #[Value.ref b] below meth c s.heap [] 0 0 (lw_Z below #[Value.ref b] s) (entryFrame m ([Value.ref b] : List Value).toArray 16) := by
  obtain ⟨hx, hb, hr, hml, hown, hts, hX, hbl, hlocks, hgv⟩ := id C0
  obtain ⟨ra, hB⟩ := lawB hts hgv hX hbl
  obtain ⟨D, cI, cZ, cJ, hK⟩ := lawK hts hB.g
  have S : CallFix p m c cL_law 16 s #[Value.ref b] uG RL := ⟨hx, hb, hml, hown, fun w h => hts w (uG_tbl h)⟩
  have hS : va_S (fun q : Nat => s.heap.size ≤ q) s.heap s.heap [] := va_S.rf
  have hl := lv_entry ([.ref b]) (n := 16) (Nat.le_of_ble_eq_true rfl)
  rw [lg_entry_eq]
  generalize (lg_sl ([.ref b]) ++ List.replicate (16 - (lg_sl ([.ref b])).length) Slot.unset).toArray = ls at hl ⊢
  have hl : lv_has ls 16 [(0, .ref b)] := hl
  refine lv_iconst (v := 0) hx hb dL_law_0 (by decide) ?_
  refine lv_istore_n (lv' := [(1, .int (nI 0)), (0, .ref b)]) hx hb dL_law_1 rfl hl (by decide) rfl (fun ls hl => ?_)
  refine W.widen (k := 243 * 0) (n := 12026 * 0) (by omega) (by omega) ?_
  refine law_turn l D cI cZ cJ S hK ra hB hL 0 (by omega) (fun H locs ls hl hS => ?_) _ _ _ hl hS
  refine law_turn l D cI cZ cJ S hK ra hB hL 1 (by omega) (fun H locs ls hl hS => ?_) _ _ _ hl hS
  refine law_turn l D cI cZ cJ S hK ra hB hL 2 (by omega) (fun H locs ls hl hS => ?_) _ _ _ hl hS
  refine lv_iload_n hx hb dL_law_2 rfl (lv_at hl 0 rfl) ?_
  refine lv_iconst (v := 3) hx hb dL_law_3 (by decide) ?_
  refine lv_icmp_ge (tgt := 809) hx hb dL_law_4 (by decide) (fun _ => ?_) (fun c => absurd (by decide) c)
  refine lv_iconst (v := 1) hx hb dL_law_809 (by decide) ?_
  refine va_forget (fun q hq => hS.2.2 q hq) ?_
  refine W.widen (k := 600104) (n := 7301314) (by omega) (by omega) ?_
  exact lw_ret hx hb hr hlocks dL_law_810
end LK
