section XL
theorem msh_L_procedure : mSh yL_procedure cL_procedure 5 (some .int) [(0, 10, 13, 13), (0, 10, 17, 15), (0, 10, 21, 17)] 4 := ⟨kw_5_174, kw_1_0, kw_5_175, by decide +kernel, by decide +kernel, by decide +kernel⟩
theorem msh_L_parameter : mSh yL_parameter cL_parameter 6 (some .int) [(0, 12, 15, 13), (0, 12, 19, 15), (0, 12, 23, 17)] 5 := ⟨kw_5_211, kw_1_0, kw_5_212, by decide +kernel, by decide +kernel, by decide +kernel⟩
theorem msh_L_variable : mSh yL_variable cL_variable 7 (some .int) [(0, 14, 17, 13), (0, 14, 21, 15), (0, 14, 25, 17)] 6 := ⟨kw_5_230, kw_1_0, kw_5_231, by decide +kernel, by decide +kernel, by decide +kernel⟩
theorem msh_L_ofName : mSh yL_ofName cL_ofName 6 (some .int) [(0, 12, 15, 13), (0, 12, 19, 15)] 5 := ⟨kw_6_8, kw_1_0, kw_6_9, by decide +kernel, by decide +kernel, by decide +kernel⟩
theorem msh_L_ofProcedure : mSh yL_ofProcedure cL_ofProcedure 5 (some .int) [(0, 10, 13, 13), (0, 10, 17, 15)] 4 := ⟨kw_6_17, kw_1_0, kw_6_18, by decide +kernel, by decide +kernel, by decide +kernel⟩
theorem msh_L_node : mSh yL_node cL_node 7 (some .int) [(0, 14, 17, 15), (0, 14, 21, 17)] 6 := ⟨kw_6_21, kw_1_0, kw_6_22, by decide +kernel, by decide +kernel, by decide +kernel⟩
theorem msh_L_body : mSh yL_body cL_body 5 (some .int) [(0, 10, 13, 13), (0, 10, 17, 15), (0, 10, 21, 17)] 4 := ⟨kw_6_65, kw_1_0, kw_6_66, by decide +kernel, by decide +kernel, by decide +kernel⟩
theorem msh_L_ofNode : mSh yL_ofNode cL_ofNode 5 (some .int) [(0, 10, 13, 13), (0, 10, 17, 15)] 4 := ⟨kw_6_74, kw_1_0, kw_6_75, by decide +kernel, by decide +kernel, by decide +kernel⟩
theorem msh_L_fault : mSh yL_fault cL_fault 5 (some .int) [(0, 10, 13, 13), (0, 10, 17, 15)] 4 := ⟨kw_6_78, kw_1_0, kw_6_79, by decide +kernel, by decide +kernel, by decide +kernel⟩
theorem msh_L_passes : mSh yL_passes cL_passes 4 (some .int) [(0, 9, 12, 15)] 3 := ⟨kw_6_82, kw_1_0, kw_6_83, by decide +kernel, by decide +kernel, by decide +kernel⟩
theorem msh_L_code : mSh yL_code cL_code 6 (some .int) [(0, 12, 15, 13), (0, 12, 19, 15)] 5 := ⟨kw_6_92, kw_1_0, kw_6_93, by decide +kernel, by decide +kernel, by decide +kernel⟩
theorem msh_L_limits : mSh yL_limits cL_limits 5 (some .int) [(0, 10, 13, 15)] 4 := ⟨kw_6_96, kw_1_0, kw_6_97, by decide +kernel, by decide +kernel, by decide +kernel⟩
theorem msh_L_run : mSh yL_run cL_run 3 (some .int) [(0, 8, 11, 17)] 2 := ⟨kw_6_106, kw_1_0, kw_6_107, by decide +kernel, by decide +kernel, by decide +kernel⟩
theorem msh_L_ofRun : mSh yL_ofRun cL_ofRun 4 (some .int) [(0, 9, 12, 15)] 3 := ⟨kw_6_113, kw_1_0, kw_6_114, by decide +kernel, by decide +kernel, by decide +kernel⟩
theorem msh_L_printed : mSh yL_printed cL_printed 5 (some .int) [(0, 10, 13, 13), (0, 10, 17, 15)] 4 := ⟨kw_6_117, kw_1_0, kw_6_118, by decide +kernel, by decide +kernel, by decide +kernel⟩
theorem msh_L_many : mSh yL_many cL_many 4 (some .int) [(0, 9, 12, 15)] 3 := ⟨kw_6_121, kw_1_0, kw_6_122, by decide +kernel, by decide +kernel, by decide +kernel⟩
theorem msh_L_wouldRun : mSh yL_wouldRun cL_wouldRun 6 (some .int) [(0, 12, 15, 15), (0, 12, 19, 17)] 5 := ⟨kw_6_125, kw_1_0, kw_6_126, by decide +kernel, by decide +kernel, by decide +kernel⟩
theorem msh_L_with : mSh yL_with cL_with 5 (some .int) [(0, 10, 13, 15), (0, 10, 17, 17)] 4 := ⟨kw_6_132, kw_1_0, kw_6_133, by decide +kernel, by decide +kernel, by decide +kernel⟩
theorem msh_L_hiddenBy : mSh yL_hiddenBy cL_hiddenBy 5 (some .int) [(0, 10, 13, 13), (0, 10, 17, 15)] 4 := ⟨kw_6_139, kw_1_0, kw_6_140, by decide +kernel, by decide +kernel, by decide +kernel⟩
theorem law_tail {p : Program} {l : Launch} {e : Env} {s : State} {m : MethodId} {below : List Frame} {meth : Method} {c : Code} {b : Nat} {xs : Nat → Int32} {cells slots : Nat} {ls : Array Slot} {H : Heap} {locs : List Loc} (S : CallFix p m c cL_law 9 s #[Value.ref b] uG RL) (hr : meth.sig.returnType = ret) (hlocks : meth.locks = false) (hX : va_X b 5 xs s s.heap) (hbl : b < s.heap.size) (hl : lv_has ls 9 [(4, .int 0), (0, .ref b)]) (hS : va_S (fun q => s.heap.size ≤ q) s.heap H locs) (hc : cells ≤ 600002) (hz : slots ≤ 7302232) : W p l e room_1 s m #[Value.ref b] below meth c H locs cells slots (lw_Z below #[Value.ref b] s) (F0 m 1519 ls []) := by
  have hx := S.1
  have hb := S.2.1
  have hbA : ¬ (fun q : Nat => s.heap.size ≤ q) b := Nat.not_le.mpr hbl
  refine lv_iinc (v := 5) (lv' := [(4, .int 5), (0, .ref b)]) hx hb dL_law_1519 hl (k := 0) rfl (by decide) (by decide) rfl (fun ls hl => ?_)
  refine lv_goto (tgt := 23) hx hb dL_law_1522 (by decide) ?_
  refine lv_iload hx hb dL_law_23 (lv_at hl 0 rfl) ?_
  refine lv_aload_n hx hb dL_law_25 rfl (lv_at hl 1 rfl) ?_
  refine va_slen hx hb hX hbl hbA hS dL_law_26 ?_
  refine lv_iconst (v := 5) hx hb dL_law_27 (by decide) ?_
  refine xisub (v := 0) S dL_law_28 (by decide) ?_
  refine lv_icmp_gt (tgt := 1525) hx hb dL_law_29 (by decide) (fun _ => ?_) (fun c => absurd (by decide) c)
  refine lv_iconst (v := 1) hx hb dL_law_1525 (by decide) ?_
  refine va_forget (fun q hq => hS.2.2 q hq) ?_
  refine W.widen hc hz ?_
  exact lw_ret (Drawn.sameBut.refl s.drawn lw_cs) hx hb hr hlocks dL_law_1526
theorem lawK {s : State} {args : Array Value} (hts : ∀ w ∈ lw_tbl, w.before args s = true) : ∃ (D : va_G) (cI cZ cJ : ClassId), va_K D vwCl (tyL cI cZ cJ) s := by
  obtain ⟨c0, i0, k0⟩ := u_known (C := RX0) (T := TX0) (N := 17) (n := 17) hts (fun w h => uG_tbl (inX0 w h)) (hts _ (uG_tbl kw_2_43))
  obtain ⟨c1, i1, k1⟩ := u_known (C := RX1) (T := TX1) (N := 12) (n := 12) hts (fun w h => uG_tbl (inX1 w h)) (hts _ (uG_tbl kw_1_30))
  obtain ⟨c2, i2, k2⟩ := u_known (C := RX2) (T := TX2) (N := 9) (n := 9) hts (fun w h => uG_tbl (inX2 w h)) (hts _ (uG_tbl kw_2_5))
  obtain ⟨c3, i3, k3⟩ := u_known (C := RX3) (T := TX3) (N := 17) (n := 17) hts (fun w h => uG_tbl (inX3 w h)) (hts _ (uG_tbl kw_2_118))
  obtain ⟨c4, i4, k4⟩ := u_known (C := RX4) (T := TX4) (N := 19) (n := 19) hts (fun w h => uG_tbl (inX4 w h)) (hts _ (uG_tbl kw_1_153))
  obtain ⟨c5, i5, k5⟩ := u_known (C := RX5) (T := TX5) (N := 7) (n := 7) hts (fun w h => uG_tbl (inX5 w h)) (hts _ (uG_tbl kw_1_102))
  obtain ⟨c6, i6, k6⟩ := u_known (C := RX6) (T := TX6) (N := 14) (n := 14) hts (fun w h => uG_tbl (inX6 w h)) (hts _ (uG_tbl kw_2_141))
  obtain ⟨c7, i7, k7⟩ := u_known (C := RX7) (T := TX7) (N := 3) (n := 3) hts (fun w h => uG_tbl (inX7 w h)) (hts _ (uG_tbl kw_2_124))
  obtain ⟨c8, i8, k8⟩ := u_known (C := RX8) (T := TX8) (N := 14) (n := 14) hts (fun w h => uG_tbl (inX8 w h)) (hts _ (uG_tbl kw_1_22))
  obtain ⟨c9, i9, k9⟩ := u_known (C := RX9) (T := TX9) (N := 60) (n := 60) hts (fun w h => uG_tbl (inX9 w h)) (hts _ (uG_tbl kw_6_143))
  obtain ⟨a0, q0, p0, f0, g0, h0⟩ := Cond.arrayClass_spec (hts _ (uG_tbl kw_1_100))
  obtain ⟨a1, q1, p1, f1, g1, h1⟩ := Cond.arrayClass_spec (hts _ (uG_tbl kw_2_3))
  obtain ⟨a2, q2, p2, f2, g2, h2⟩ := Cond.arrayClass_spec (hts _ (uG_tbl kw_9_58))
  refine ⟨(fun k => [c0, c1, c2, c3, c4, c5, c6, c7, c8, c9].getD k c0, fun k => [i0, i1, i2, i3, i4, i5, i6, i7, i8, i9].getD k i0), a0, a1, a2, ?_, ?_⟩
  · intro k q hq
    match k, hq with
    | 0, hq => cases hq; exact k0
    | 1, hq => cases hq; exact k1
    | 2, hq => cases hq; exact k2
    | 3, hq => cases hq; exact k3
    | 4, hq => cases hq; exact k4
    | 5, hq => cases hq; exact k5
    | 6, hq => cases hq; exact k6
    | 7, hq => cases hq; exact k7
    | 8, hq => cases hq; exact k8
    | 9, hq => cases hq; exact k9
    | k + 10, hq => simp [vwCl] at hq
  · intro k q hq
    match k, hq with
    | 0, hq => cases hq; exact ⟨fun n z => ⟨fun k h => (by cases h), q0, g0, p0, h0⟩, f0⟩
    | 1, hq => cases hq; exact ⟨fun n z => ⟨fun k h => (by cases h), q1, g1, p1, h1⟩, f1⟩
    | 2, hq => cases hq; exact ⟨fun n z => ⟨fun k h => (by cases h), q2, g2, p2, h2⟩, f2⟩
    | k + 3, hq => simp [tyL] at hq
set_option maxHeartbeats 8000000 in
set_option maxRecDepth 100000 in
theorem lawB {s : State} {args : Array Value} (hts : ∀ w ∈ lw_tbl, w.before args s = true) (hgv : (Jvm.Cond.and given_1 narrow_1).before args s = true) : ∃ (ra ga : Nat → Nat), amb ra ga (fun q => s.heap.size ≤ q) s s.heap ∧ ambC s := by
  have hq := flat_of_before _ hgv
  have hA : ∀ a : Nat, a < s.heap.size → ¬ (fun q : Nat => s.heap.size ≤ q) a := fun a h => Nat.not_le.mpr h
  obtain ⟨t0, e0, T0⟩ := va_Tof (tm := (Term.static "StaticLink$Nodes" "ROLE_A" "[I")) (ty := .int) (N := 22) (f := fun j => .int (tROLE_A j)) (by decide) (hq (.arrayOf (Term.static "StaticLink$Nodes" "ROLE_A" "[I") .int) (by decide +kernel)) (va_eqt (hq (.eq (.length (Term.static "StaticLink$Nodes" "ROLE_A" "[I")) (.int 22)) (by decide +kernel))) (fun j hj => by
    match j, hj with
    | 0, _ => exact va_eqt (hq (.eq (.elem (Term.static "StaticLink$Nodes" "ROLE_A" "[I") (.int 0)) (.int 1)) (by decide +kernel))
    | 1, _ => exact va_eqt (hq (.eq (.elem (Term.static "StaticLink$Nodes" "ROLE_A" "[I") (.int 1)) (.int 2)) (by decide +kernel))
    | 2, _ => exact va_eqt (hq (.eq (.elem (Term.static "StaticLink$Nodes" "ROLE_A" "[I") (.int 2)) (.int 2)) (by decide +kernel))
    | 3, _ => exact va_eqt (hq (.eq (.elem (Term.static "StaticLink$Nodes" "ROLE_A" "[I") (.int 3)) (.int 0)) (by decide +kernel))
    | 4, _ => exact va_eqt (hq (.eq (.elem (Term.static "StaticLink$Nodes" "ROLE_A" "[I") (.int 4)) (.int 0)) (by decide +kernel))
    | 5, _ => exact va_eqt (hq (.eq (.elem (Term.static "StaticLink$Nodes" "ROLE_A" "[I") (.int 5)) (.int 0)) (by decide +kernel))
    | 6, _ => exact va_eqt (hq (.eq (.elem (Term.static "StaticLink$Nodes" "ROLE_A" "[I") (.int 6)) (.int 0)) (by decide +kernel))
    | 7, _ => exact va_eqt (hq (.eq (.elem (Term.static "StaticLink$Nodes" "ROLE_A" "[I") (.int 7)) (.int 0)) (by decide +kernel))
    | 8, _ => exact va_eqt (hq (.eq (.elem (Term.static "StaticLink$Nodes" "ROLE_A" "[I") (.int 8)) (.int 2)) (by decide +kernel))
    | 9, _ => exact va_eqt (hq (.eq (.elem (Term.static "StaticLink$Nodes" "ROLE_A" "[I") (.int 9)) (.int 0)) (by decide +kernel))
    | 10, _ => exact va_eqt (hq (.eq (.elem (Term.static "StaticLink$Nodes" "ROLE_A" "[I") (.int 10)) (.int 2)) (by decide +kernel))
    | 11, _ => exact va_eqt (hq (.eq (.elem (Term.static "StaticLink$Nodes" "ROLE_A" "[I") (.int 11)) (.int 2)) (by decide +kernel))
    | 12, _ => exact va_eqt (hq (.eq (.elem (Term.static "StaticLink$Nodes" "ROLE_A" "[I") (.int 12)) (.int 0)) (by decide +kernel))
    | 13, _ => exact va_eqt (hq (.eq (.elem (Term.static "StaticLink$Nodes" "ROLE_A" "[I") (.int 13)) (.int 2)) (by decide +kernel))
    | 14, _ => exact va_eqt (hq (.eq (.elem (Term.static "StaticLink$Nodes" "ROLE_A" "[I") (.int 14)) (.int 2)) (by decide +kernel))
    | 15, _ => exact va_eqt (hq (.eq (.elem (Term.static "StaticLink$Nodes" "ROLE_A" "[I") (.int 15)) (.int 6)) (by decide +kernel))
    | 16, _ => exact va_eqt (hq (.eq (.elem (Term.static "StaticLink$Nodes" "ROLE_A" "[I") (.int 16)) (.int 3)) (by decide +kernel))
    | 17, _ => exact va_eqt (hq (.eq (.elem (Term.static "StaticLink$Nodes" "ROLE_A" "[I") (.int 17)) (.int 3)) (by decide +kernel))
    | 18, _ => exact va_eqt (hq (.eq (.elem (Term.static "StaticLink$Nodes" "ROLE_A" "[I") (.int 18)) (.int 0)) (by decide +kernel))
    | 19, _ => exact va_eqt (hq (.eq (.elem (Term.static "StaticLink$Nodes" "ROLE_A" "[I") (.int 19)) (.int 0)) (by decide +kernel))
    | 20, _ => exact va_eqt (hq (.eq (.elem (Term.static "StaticLink$Nodes" "ROLE_A" "[I") (.int 20)) (.int 0)) (by decide +kernel))
    | 21, _ => exact va_eqt (hq (.eq (.elem (Term.static "StaticLink$Nodes" "ROLE_A" "[I") (.int 21)) (.int 2)) (by decide +kernel))
    | j + 22, hj => omega) hA
  obtain ⟨t1, e1, T1⟩ := va_Tof (tm := (Term.static "StaticLink$Nodes" "ROLE_B" "[I")) (ty := .int) (N := 22) (f := fun j => .int (tROLE_B j)) (by decide) (hq (.arrayOf (Term.static "StaticLink$Nodes" "ROLE_B" "[I") .int) (by decide +kernel)) (va_eqt (hq (.eq (.length (Term.static "StaticLink$Nodes" "ROLE_B" "[I")) (.int 22)) (by decide +kernel))) (fun j hj => by
    match j, hj with
    | 0, _ => exact va_eqt (hq (.eq (.elem (Term.static "StaticLink$Nodes" "ROLE_B" "[I") (.int 0)) (.int 0)) (by decide +kernel))
    | 1, _ => exact va_eqt (hq (.eq (.elem (Term.static "StaticLink$Nodes" "ROLE_B" "[I") (.int 1)) (.int 0)) (by decide +kernel))
    | 2, _ => exact va_eqt (hq (.eq (.elem (Term.static "StaticLink$Nodes" "ROLE_B" "[I") (.int 2)) (.int 4)) (by decide +kernel))
    | 3, _ => exact va_eqt (hq (.eq (.elem (Term.static "StaticLink$Nodes" "ROLE_B" "[I") (.int 3)) (.int 4)) (by decide +kernel))
    | 4, _ => exact va_eqt (hq (.eq (.elem (Term.static "StaticLink$Nodes" "ROLE_B" "[I") (.int 4)) (.int 4)) (by decide +kernel))
    | 5, _ => exact va_eqt (hq (.eq (.elem (Term.static "StaticLink$Nodes" "ROLE_B" "[I") (.int 5)) (.int 4)) (by decide +kernel))
    | 6, _ => exact va_eqt (hq (.eq (.elem (Term.static "StaticLink$Nodes" "ROLE_B" "[I") (.int 6)) (.int 4)) (by decide +kernel))
    | 7, _ => exact va_eqt (hq (.eq (.elem (Term.static "StaticLink$Nodes" "ROLE_B" "[I") (.int 7)) (.int 4)) (by decide +kernel))
    | 8, _ => exact va_eqt (hq (.eq (.elem (Term.static "StaticLink$Nodes" "ROLE_B" "[I") (.int 8)) (.int 7)) (by decide +kernel))
    | 9, _ => exact va_eqt (hq (.eq (.elem (Term.static "StaticLink$Nodes" "ROLE_B" "[I") (.int 9)) (.int 8)) (by decide +kernel))
    | 10, _ => exact va_eqt (hq (.eq (.elem (Term.static "StaticLink$Nodes" "ROLE_B" "[I") (.int 10)) (.int 0)) (by decide +kernel))
    | 11, _ => exact va_eqt (hq (.eq (.elem (Term.static "StaticLink$Nodes" "ROLE_B" "[I") (.int 11)) (.int 0)) (by decide +kernel))
    | 12, _ => exact va_eqt (hq (.eq (.elem (Term.static "StaticLink$Nodes" "ROLE_B" "[I") (.int 12)) (.int 5)) (by decide +kernel))
    | 13, _ => exact va_eqt (hq (.eq (.elem (Term.static "StaticLink$Nodes" "ROLE_B" "[I") (.int 13)) (.int 4)) (by decide +kernel))
    | 14, _ => exact va_eqt (hq (.eq (.elem (Term.static "StaticLink$Nodes" "ROLE_B" "[I") (.int 14)) (.int 4)) (by decide +kernel))
    | 15, _ => exact va_eqt (hq (.eq (.elem (Term.static "StaticLink$Nodes" "ROLE_B" "[I") (.int 15)) (.int 4)) (by decide +kernel))
    | 16, _ => exact va_eqt (hq (.eq (.elem (Term.static "StaticLink$Nodes" "ROLE_B" "[I") (.int 16)) (.int 4)) (by decide +kernel))
    | 17, _ => exact va_eqt (hq (.eq (.elem (Term.static "StaticLink$Nodes" "ROLE_B" "[I") (.int 17)) (.int 0)) (by decide +kernel))
    | 18, _ => exact va_eqt (hq (.eq (.elem (Term.static "StaticLink$Nodes" "ROLE_B" "[I") (.int 18)) (.int 4)) (by decide +kernel))
    | 19, _ => exact va_eqt (hq (.eq (.elem (Term.static "StaticLink$Nodes" "ROLE_B" "[I") (.int 19)) (.int 4)) (by decide +kernel))
    | 20, _ => exact va_eqt (hq (.eq (.elem (Term.static "StaticLink$Nodes" "ROLE_B" "[I") (.int 20)) (.int 9)) (by decide +kernel))
    | 21, _ => exact va_eqt (hq (.eq (.elem (Term.static "StaticLink$Nodes" "ROLE_B" "[I") (.int 21)) (.int 10)) (by decide +kernel))
    | j + 22, hj => omega) hA
  obtain ⟨t2, e2, T2⟩ := va_Tof (tm := (Term.static "StaticLink$Nodes" "ROLE_C" "[I")) (ty := .int) (N := 22) (f := fun j => .int (tROLE_C j)) (by decide) (hq (.arrayOf (Term.static "StaticLink$Nodes" "ROLE_C" "[I") .int) (by decide +kernel)) (va_eqt (hq (.eq (.length (Term.static "StaticLink$Nodes" "ROLE_C" "[I")) (.int 22)) (by decide +kernel))) (fun j hj => by
    match j, hj with
    | 0, _ => exact va_eqt (hq (.eq (.elem (Term.static "StaticLink$Nodes" "ROLE_C" "[I") (.int 0)) (.int 0)) (by decide +kernel))
    | 1, _ => exact va_eqt (hq (.eq (.elem (Term.static "StaticLink$Nodes" "ROLE_C" "[I") (.int 1)) (.int 0)) (by decide +kernel))
    | 2, _ => exact va_eqt (hq (.eq (.elem (Term.static "StaticLink$Nodes" "ROLE_C" "[I") (.int 2)) (.int 0)) (by decide +kernel))
    | 3, _ => exact va_eqt (hq (.eq (.elem (Term.static "StaticLink$Nodes" "ROLE_C" "[I") (.int 3)) (.int 4)) (by decide +kernel))
    | 4, _ => exact va_eqt (hq (.eq (.elem (Term.static "StaticLink$Nodes" "ROLE_C" "[I") (.int 4)) (.int 4)) (by decide +kernel))
    | 5, _ => exact va_eqt (hq (.eq (.elem (Term.static "StaticLink$Nodes" "ROLE_C" "[I") (.int 5)) (.int 4)) (by decide +kernel))
    | 6, _ => exact va_eqt (hq (.eq (.elem (Term.static "StaticLink$Nodes" "ROLE_C" "[I") (.int 6)) (.int 4)) (by decide +kernel))
    | 7, _ => exact va_eqt (hq (.eq (.elem (Term.static "StaticLink$Nodes" "ROLE_C" "[I") (.int 7)) (.int 4)) (by decide +kernel))
    | 8, _ => exact va_eqt (hq (.eq (.elem (Term.static "StaticLink$Nodes" "ROLE_C" "[I") (.int 8)) (.int 0)) (by decide +kernel))
    | 9, _ => exact va_eqt (hq (.eq (.elem (Term.static "StaticLink$Nodes" "ROLE_C" "[I") (.int 9)) (.int 7)) (by decide +kernel))
    | 10, _ => exact va_eqt (hq (.eq (.elem (Term.static "StaticLink$Nodes" "ROLE_C" "[I") (.int 10)) (.int 0)) (by decide +kernel))
    | 11, _ => exact va_eqt (hq (.eq (.elem (Term.static "StaticLink$Nodes" "ROLE_C" "[I") (.int 11)) (.int 0)) (by decide +kernel))
    | 12, _ => exact va_eqt (hq (.eq (.elem (Term.static "StaticLink$Nodes" "ROLE_C" "[I") (.int 12)) (.int 5)) (by decide +kernel))
    | 13, _ => exact va_eqt (hq (.eq (.elem (Term.static "StaticLink$Nodes" "ROLE_C" "[I") (.int 13)) (.int 0)) (by decide +kernel))
    | 14, _ => exact va_eqt (hq (.eq (.elem (Term.static "StaticLink$Nodes" "ROLE_C" "[I") (.int 14)) (.int 4)) (by decide +kernel))
    | 15, _ => exact va_eqt (hq (.eq (.elem (Term.static "StaticLink$Nodes" "ROLE_C" "[I") (.int 15)) (.int 5)) (by decide +kernel))
    | 16, _ => exact va_eqt (hq (.eq (.elem (Term.static "StaticLink$Nodes" "ROLE_C" "[I") (.int 16)) (.int 5)) (by decide +kernel))
    | 17, _ => exact va_eqt (hq (.eq (.elem (Term.static "StaticLink$Nodes" "ROLE_C" "[I") (.int 17)) (.int 0)) (by decide +kernel))
    | 18, _ => exact va_eqt (hq (.eq (.elem (Term.static "StaticLink$Nodes" "ROLE_C" "[I") (.int 18)) (.int 0)) (by decide +kernel))
    | 19, _ => exact va_eqt (hq (.eq (.elem (Term.static "StaticLink$Nodes" "ROLE_C" "[I") (.int 19)) (.int 0)) (by decide +kernel))
    | 20, _ => exact va_eqt (hq (.eq (.elem (Term.static "StaticLink$Nodes" "ROLE_C" "[I") (.int 20)) (.int 0)) (by decide +kernel))
    | 21, _ => exact va_eqt (hq (.eq (.elem (Term.static "StaticLink$Nodes" "ROLE_C" "[I") (.int 21)) (.int 0)) (by decide +kernel))
    | j + 22, hj => omega) hA
  obtain ⟨a0, _, _, _, s0, -⟩ := Cond.exactly_spec (args := args) (first := s) (o := none) (s := s) (idx := []) (t := .string "StaticLink" 368) (cls := "java/lang/String") (hq (.exactly (.string "StaticLink" 368) "java/lang/String") (by decide +kernel))
  obtain ⟨a1, _, _, _, s1, -⟩ := Cond.exactly_spec (args := args) (first := s) (o := none) (s := s) (idx := []) (t := .string "StaticLink" 356) (cls := "java/lang/String") (hq (.exactly (.string "StaticLink" 356) "java/lang/String") (by decide +kernel))
  obtain ⟨a2, _, _, _, s2, -⟩ := Cond.exactly_spec (args := args) (first := s) (o := none) (s := s) (idx := []) (t := .string "StaticLink" 364) (cls := "java/lang/String") (hq (.exactly (.string "StaticLink" 364) "java/lang/String") (by decide +kernel))
  obtain ⟨a3, _, _, _, s3, -⟩ := Cond.exactly_spec (args := args) (first := s) (o := none) (s := s) (idx := []) (t := .string "StaticLink" 362) (cls := "java/lang/String") (hq (.exactly (.string "StaticLink" 362) "java/lang/String") (by decide +kernel))
  obtain ⟨a4, _, _, _, s4, -⟩ := Cond.exactly_spec (args := args) (first := s) (o := none) (s := s) (idx := []) (t := .string "StaticLink" 373) (cls := "java/lang/String") (hq (.exactly (.string "StaticLink" 373) "java/lang/String") (by decide +kernel))
  exact ⟨uL [t0, t1, t2], uL [a0, a1, a2, a3, a4], ⟨⟨va_Nw.of rfl (hts _ (List.mem_append_right _ (tb_1 (List.mem_of_getElem? (i := 103) (by decide +kernel))))), va_Nw.of rfl (hts _ (List.mem_append_right _ (tb_2 (List.mem_of_getElem? (i := 142) (by decide +kernel))))), va_Nw.of rfl (hts _ (List.mem_append_right _ (tb_3 (List.mem_of_getElem? (i := 19) (by decide +kernel))))), va_Nw.of rfl (hts _ (List.mem_append_right _ (tb_6 (List.mem_of_getElem? (i := 35) (by decide +kernel)))))⟩, ⟨⟨va_Zref (hts _ (List.mem_append_right _ (tb_3 (List.mem_of_getElem? (i := 92) (by decide +kernel))))) (hts _ (uG_tbl kw_1_4)) e0 hA, T0⟩, ⟨va_Zref (hts _ (List.mem_append_right _ (tb_3 (List.mem_of_getElem? (i := 229) (by decide +kernel))))) (hts _ (uG_tbl kw_1_4)) e1 hA, T1⟩, ⟨va_Zref (hts _ (List.mem_append_right _ (tb_3 (List.mem_of_getElem? (i := 223) (by decide +kernel))))) (hts _ (uG_tbl kw_1_4)) e2 hA, T2⟩⟩, vx_Zqof (hts _ (List.mem_append_right _ (tb_4 (List.mem_of_getElem? (i := 34) (by decide +kernel))))) (hts _ (uG_tbl kw_1_12)) (hq (.isRef (.static "java/lang/Throwable" "UNASSIGNED_STACK" "[Ljava/lang/StackTraceElement;")) (by decide +kernel)) hA, vx_Zqof (hts _ (List.mem_append_right _ (tb_4 (List.mem_of_getElem? (i := 36) (by decide +kernel))))) (hts _ (uG_tbl kw_1_12)) (hq (.isRef (.static "java/lang/Throwable" "SUPPRESSED_SENTINEL" "Ljava/util/List;")) (by decide +kernel)) hA, vk_R.of (hts _ (List.mem_append_right _ (tb_4 (List.mem_of_getElem? (i := 48) (by decide +kernel))))) s0, vk_R.of (hts _ (List.mem_append_right _ (tb_4 (List.mem_of_getElem? (i := 183) (by decide +kernel))))) s1, vk_R.of (hts _ (List.mem_append_right _ (tb_4 (List.mem_of_getElem? (i := 213) (by decide +kernel))))) s2, vk_R.of (hts _ (List.mem_append_right _ (tb_4 (List.mem_of_getElem? (i := 226) (by decide +kernel))))) s3, vk_R.of (hts _ (List.mem_append_right _ (tb_5 (List.mem_of_getElem? (i := 195) (by decide +kernel))))) s4, va_Nw.of rfl (hts _ (List.mem_append_right _ (tb_4 (List.mem_of_getElem? (i := 176) (by decide +kernel))))), va_Nw.of rfl (hts _ (List.mem_append_right _ (tb_4 (List.mem_of_getElem? (i := 9) (by decide +kernel))))), va_Nw.of rfl (hts _ (List.mem_append_right _ (tb_5 (List.mem_of_getElem? (i := 188) (by decide +kernel))))), va_Nw.of rfl (hts _ (List.mem_append_right _ (tb_4 (List.mem_of_getElem? (i := 11) (by decide +kernel))))), va_Nw.of rfl (hts _ (List.mem_append_right _ (tb_4 (List.mem_of_getElem? (i := 13) (by decide +kernel))))), va_Nw.of rfl (hts _ (List.mem_append_right _ (tb_4 (List.mem_of_getElem? (i := 15) (by decide +kernel)))))⟩, ⟨va_Nc.of (hq (.not (.castable "java/lang/IllegalArgumentException" "java/lang/IndexOutOfBoundsException")) (by decide +kernel)), va_Nc.of (hq (.not (.castable "java/lang/IllegalStateException" "java/lang/IndexOutOfBoundsException")) (by decide +kernel)), va_Nc.of (hq (.not (.castable "java/lang/IllegalStateException" "java/lang/IllegalArgumentException")) (by decide +kernel))⟩⟩
end XL
