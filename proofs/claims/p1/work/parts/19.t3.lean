set_option maxHeartbeats 8000000 in
set_option maxRecDepth 100000 in
theorem c_X8_ofProcedure_16 (l : Launch) (D : va_G) (cI cZ cJ : ClassId) (o : Nat) (u : Nat → Nat) (hst : l.stackTraces = false) (ra ga : Nat → Nat) (sz : Nat) (x1 : Int32) (hi_x1 : x1 ≤ (-1)) : vx_Met l yX8_ofProcedure (uW yX8_ofProcedure cX8_ofProcedure 3 (some .int)) ({ frames := 7, cells := 1, slots := 6, locals := 103 }) (va_Pc [.ref o, .int x1, .int 4] (aS ra ga D (tyL cI cZ cJ) (xW o u cI cZ cJ) sz)) (nQi (va_A (xW o u cI cZ cJ) sz)) (wX "java/lang/IndexOutOfBoundsException" D (xW o u cI cZ cJ) (va_A (xW o u cI cZ cJ) sz)) 1 6 (va_A (xW o u cI cZ cJ) sz) := by
  refine xStart (lv := [(0, .ref o), (1, .int x1), (2, .int 4)]) (Qc := fun A => nQi A) (XC := fun A => wX "java/lang/IndexOutOfBoundsException" D (xW o u cI cZ cJ) A) (by decide) (Nat.le_of_ble_eq_true rfl) rfl ?_
  intro p e s m args below meth c ls A H S hr hlocks hnm hl hK hP hD hS hA hB hnt
  have hx := S.1
  have hb := S.2.1
  refine lv_aload_n hx hb dX8_ofProcedure_0 rfl (lv_at hl 0 rfl) ?_
  refine lv_iload_n hx hb dX8_ofProcedure_1 rfl (lv_at hl 1 rfl) ?_
  exact tVv (As := [.int x1]) (ci := 8) S (c_X8_needProcedure_0 l D cI cZ cJ o u hst ra ga H.size x1 hi_x1) mi_X8_needProcedure kw_4_166 rfl rfl ⟨Nat.le_of_ble_eq_true rfl, Nat.le_of_ble_eq_true rfl⟩ hP hD hK hS hA hB xW_0 rfl rfl hl.1 (Nat.le_of_ble_eq_true rfl) ⟨Nat.le_of_ble_eq_true rfl, Nat.le_of_ble_eq_true rfl⟩ dX8_ofProcedure_2 hnt hlocks (Nat.le_of_ble_eq_true rfl) (Nat.le_of_ble_eq_true rfl)

set_option maxHeartbeats 8000000 in
set_option maxRecDepth 100000 in
theorem c_X8_ofProcedure_17 (l : Launch) (D : va_G) (cI cZ cJ : ClassId) (o : Nat) (u : Nat → Nat) (hst : l.stackTraces = false) (ra ga : Nat → Nat) (sz : Nat) (x1 : Int32) (lo_x1 : 1 ≤ x1) : vx_Met l yX8_ofProcedure (uW yX8_ofProcedure cX8_ofProcedure 3 (some .int)) ({ frames := 7, cells := 1, slots := 6, locals := 103 }) (va_Pc [.ref o, .int x1, .int 4] (aS ra ga D (tyL cI cZ cJ) (xW o u cI cZ cJ) sz)) (nQi (va_A (xW o u cI cZ cJ) sz)) (wX "java/lang/IndexOutOfBoundsException" D (xW o u cI cZ cJ) (va_A (xW o u cI cZ cJ) sz)) 1 6 (va_A (xW o u cI cZ cJ) sz) := by
  refine xStart (lv := [(0, .ref o), (1, .int x1), (2, .int 4)]) (Qc := fun A => nQi A) (XC := fun A => wX "java/lang/IndexOutOfBoundsException" D (xW o u cI cZ cJ) A) (by decide) (Nat.le_of_ble_eq_true rfl) rfl ?_
  intro p e s m args below meth c ls A H S hr hlocks hnm hl hK hP hD hS hA hB hnt
  have hx := S.1
  have hb := S.2.1
  refine lv_aload_n hx hb dX8_ofProcedure_0 rfl (lv_at hl 0 rfl) ?_
  refine lv_iload_n hx hb dX8_ofProcedure_1 rfl (lv_at hl 1 rfl) ?_
  exact tVv (As := [.int x1]) (ci := 8) S (c_X8_needProcedure_1 l D cI cZ cJ o u hst ra ga H.size x1 lo_x1) mi_X8_needProcedure kw_4_166 rfl rfl ⟨Nat.le_of_ble_eq_true rfl, Nat.le_of_ble_eq_true rfl⟩ hP hD hK hS hA hB xW_0 rfl rfl hl.1 (Nat.le_of_ble_eq_true rfl) ⟨Nat.le_of_ble_eq_true rfl, Nat.le_of_ble_eq_true rfl⟩ dX8_ofProcedure_2 hnt hlocks (Nat.le_of_ble_eq_true rfl) (Nat.le_of_ble_eq_true rfl)

set_option maxHeartbeats 8000000 in
set_option maxRecDepth 100000 in
theorem c_X8_ofProcedure_18 (l : Launch) (D : va_G) (cI cZ cJ : ClassId) (o : Nat) (u : Nat → Nat) (ra ga : Nat → Nat) (sz : Nat) : Met l yX8_ofProcedure (uW yX8_ofProcedure cX8_ofProcedure 3 (some .int)) ({ frames := 4, cells := 0, slots := 0, locals := 85 }) (va_Pc [.ref o, .int 0, .int 4] (aS ra ga D (tyL cI cZ cJ) (xW o u cI cZ cJ) sz)) (wQi (0) D (((((((xW o u cI cZ cJ).set 0 (o, .inr (8, ((xF u).set 9 (.int 0))))).set 32 ((u 31), .inl (cZ, 10, .inl (upd (upd (upd (upd (upd (upd (upd (upd (upd (upd (fun _ => 0) (0 : Int32).toNatClampNeg 0) (1 : Int32).toNatClampNeg 0) (2 : Int32).toNatClampNeg 0) (3 : Int32).toNatClampNeg 0) (4 : Int32).toNatClampNeg 0) (5 : Int32).toNatClampNeg 0) (6 : Int32).toNatClampNeg 0) (7 : Int32).toNatClampNeg 0) (8 : Int32).toNatClampNeg 0) (9 : Int32).toNatClampNeg 0)))).set 34 ((u 33), .inr (2, ([.ref (u 0), .ref (u 12), .ref (u 19), .int 0, .ref (u 34), .ref (u 35), .ref (u 36), .ref (u 37), .int 0].set 3 (.int 1))))).set 35 ((u 34), .inl (cI, 120, .inl (upd (fun _ => 0) (0 : Int32).toNatClampNeg 10)))).set 36 ((u 35), .inl (cI, 120, .inl (upd (fun _ => 0) (0 : Int32).toNatClampNeg 0)))).set 37 ((u 36), .inl (cI, 120, .inl (upd (fun _ => 0) (0 : Int32).toNatClampNeg (-1))))) (va_A (xW o u cI cZ cJ) sz)) 0 0 (va_A (xW o u cI cZ cJ) sz) := by
  refine aStart (lv := [(0, .ref o), (1, .int 0), (2, .int 4)]) (Qc := fun A => wQi (0) D (((((((xW o u cI cZ cJ).set 0 (o, .inr (8, ((xF u).set 9 (.int 0))))).set 32 ((u 31), .inl (cZ, 10, .inl (upd (upd (upd (upd (upd (upd (upd (upd (upd (upd (fun _ => 0) (0 : Int32).toNatClampNeg 0) (1 : Int32).toNatClampNeg 0) (2 : Int32).toNatClampNeg 0) (3 : Int32).toNatClampNeg 0) (4 : Int32).toNatClampNeg 0) (5 : Int32).toNatClampNeg 0) (6 : Int32).toNatClampNeg 0) (7 : Int32).toNatClampNeg 0) (8 : Int32).toNatClampNeg 0) (9 : Int32).toNatClampNeg 0)))).set 34 ((u 33), .inr (2, ([.ref (u 0), .ref (u 12), .ref (u 19), .int 0, .ref (u 34), .ref (u 35), .ref (u 36), .ref (u 37), .int 0].set 3 (.int 1))))).set 35 ((u 34), .inl (cI, 120, .inl (upd (fun _ => 0) (0 : Int32).toNatClampNeg 10)))).set 36 ((u 35), .inl (cI, 120, .inl (upd (fun _ => 0) (0 : Int32).toNatClampNeg 0)))).set 37 ((u 36), .inl (cI, 120, .inl (upd (fun _ => 0) (0 : Int32).toNatClampNeg (-1))))) A) (by decide) (Nat.le_of_ble_eq_true rfl) rfl ?_
  intro p e s m args below meth c ls A H S hr hlocks hnm hl hK hP hD hS hA hB
  have hx := S.1
  have hb := S.2.1
  refine lv_aload_n hx hb dX8_ofProcedure_0 rfl (lv_at hl 0 rfl) ?_
  refine lv_iload_n hx hb dX8_ofProcedure_1 rfl (lv_at hl 1 rfl) ?_
  refine aVv (As := [.int 0]) (ci := 8) S (c_X8_needProcedure_2 l D cI cZ cJ o u ra ga H.size) mi_X8_needProcedure kw_4_166 rfl rfl ⟨Nat.le_of_ble_eq_true rfl, Nat.le_of_ble_eq_true rfl⟩ hP hD hK hS hA hB xW_0 rfl rfl hl.1 (Nat.le_of_ble_eq_true rfl) ⟨Nat.le_of_ble_eq_true rfl, Nat.le_of_ble_eq_true rfl⟩ dX8_ofProcedure_2 (fun H locs hz hP hD hS => ?_)
  refine lv_iload_n hx hb dX8_ofProcedure_5 rfl (lv_at hl 2 rfl) ?_
  refine lv_if_lt (tgt := 19) hx hb dX8_ofProcedure_6 (by decide) (fun c => absurd c (by decide)) (fun _ => ?_)
  refine lv_iload_n hx hb dX8_ofProcedure_9 rfl (lv_at hl 2 rfl) ?_
  refine lv_bipush (v := 7) hx hb dX8_ofProcedure_10 (by decide) ?_
  refine lv_icmp_gt (tgt := 19) hx hb dX8_ofProcedure_12 (by decide) (fun c => absurd c (by decide)) (fun _ => ?_)
  refine lv_iconst (v := 1) hx hb dX8_ofProcedure_15 (by decide) ?_
  refine lv_goto (tgt := 20) hx hb dX8_ofProcedure_16 (by decide) ?_
  refine aSv (As := [.int 1]) S (c_X8_needArgument_1 l D cI cZ cJ o u ra ga H.size) ms_X8_needArgument kw_4_4 rfl rfl ⟨Nat.le_of_ble_eq_true rfl, Nat.le_of_ble_eq_true rfl⟩ hP hD hK hS hA hB hl.1 (Nat.le_of_ble_eq_true rfl) ⟨Nat.le_of_ble_eq_true rfl, Nat.le_of_ble_eq_true rfl⟩ dX8_ofProcedure_20 (fun H locs hz hP hD hS => ?_)
  refine lv_aload_n hx hb dX8_ofProcedure_23 rfl (lv_at hl 0 rfl) ?_
  refine aVv (As := []) (ci := 8) S (c_X8_refresh_0 l D cI cZ cJ o u ra ga H.size) mi_X8_refresh kw_3_71 rfl rfl ⟨Nat.le_of_ble_eq_true rfl, Nat.le_of_ble_eq_true rfl⟩ hP hD hK hS hA hB xW_0 rfl rfl hl.1 (Nat.le_of_ble_eq_true rfl) ⟨Nat.le_of_ble_eq_true rfl, Nat.le_of_ble_eq_true rfl⟩ dX8_ofProcedure_24 (fun H locs hz hP hD hS => ?_)
  refine lv_iload_n hx hb dX8_ofProcedure_27 rfl (lv_at hl 2 rfl) ?_
  refine lv_tableIn (off := 84) (tgt := 112) hx hb dX8_ofProcedure_28 (by decide) (by decide) (by decide) (by decide) ?_
  refine lv_aload_n hx hb dX8_ofProcedure_112 rfl (lv_at hl 0 rfl) ?_
  refine xg (ci := 8) S inX8 rfl hK hP (q0 := 0) rfl 2 (by decide) rfl kw_3_22 rfl dX8_ofProcedure_113 ?_
  refine xg (ci := 4) S inX4 rfl hK hP (q0 := 20) rfl 14 (by decide) rfl kw_1_194 rfl dX8_ofProcedure_116 ?_
  refine lv_iload_n hx hb dX8_ofProcedure_119 rfl (lv_at hl 1 rfl) ?_
  refine xiald (t0 := 0) (v := 0) S hK hP (q0 := 33) rfl rfl (vin rfl) rfl dX8_ofProcedure_120 ?_
  exact wEnd S hr hlocks hP hD hS (Nat.le_of_ble_eq_true rfl) (Nat.le_of_ble_eq_true rfl) dX8_ofProcedure_121 rfl

set_option maxHeartbeats 8000000 in
set_option maxRecDepth 100000 in
theorem c_X8_ofProcedure_19 (l : Launch) (D : va_G) (cI cZ cJ : ClassId) (o : Nat) (u : Nat → Nat) (hst : l.stackTraces = false) (ra ga : Nat → Nat) (sz : Nat) (x1 : Int32) (hi_x1 : x1 ≤ (-1)) : vx_Met l yX8_ofProcedure (uW yX8_ofProcedure cX8_ofProcedure 3 (some .int)) ({ frames := 7, cells := 1, slots := 6, locals := 103 }) (va_Pc [.ref o, .int x1, .int 5] (aS ra ga D (tyL cI cZ cJ) (xW o u cI cZ cJ) sz)) (nQi (va_A (xW o u cI cZ cJ) sz)) (wX "java/lang/IndexOutOfBoundsException" D (xW o u cI cZ cJ) (va_A (xW o u cI cZ cJ) sz)) 1 6 (va_A (xW o u cI cZ cJ) sz) := by
  refine xStart (lv := [(0, .ref o), (1, .int x1), (2, .int 5)]) (Qc := fun A => nQi A) (XC := fun A => wX "java/lang/IndexOutOfBoundsException" D (xW o u cI cZ cJ) A) (by decide) (Nat.le_of_ble_eq_true rfl) rfl ?_
  intro p e s m args below meth c ls A H S hr hlocks hnm hl hK hP hD hS hA hB hnt
  have hx := S.1
  have hb := S.2.1
  refine lv_aload_n hx hb dX8_ofProcedure_0 rfl (lv_at hl 0 rfl) ?_
  refine lv_iload_n hx hb dX8_ofProcedure_1 rfl (lv_at hl 1 rfl) ?_
  exact tVv (As := [.int x1]) (ci := 8) S (c_X8_needProcedure_0 l D cI cZ cJ o u hst ra ga H.size x1 hi_x1) mi_X8_needProcedure kw_4_166 rfl rfl ⟨Nat.le_of_ble_eq_true rfl, Nat.le_of_ble_eq_true rfl⟩ hP hD hK hS hA hB xW_0 rfl rfl hl.1 (Nat.le_of_ble_eq_true rfl) ⟨Nat.le_of_ble_eq_true rfl, Nat.le_of_ble_eq_true rfl⟩ dX8_ofProcedure_2 hnt hlocks (Nat.le_of_ble_eq_true rfl) (Nat.le_of_ble_eq_true rfl)

set_option maxHeartbeats 8000000 in
set_option maxRecDepth 100000 in
theorem c_X8_ofProcedure_20 (l : Launch) (D : va_G) (cI cZ cJ : ClassId) (o : Nat) (u : Nat → Nat) (hst : l.stackTraces = false) (ra ga : Nat → Nat) (sz : Nat) (x1 : Int32) (lo_x1 : 1 ≤ x1) : vx_Met l yX8_ofProcedure (uW yX8_ofProcedure cX8_ofProcedure 3 (some .int)) ({ frames := 7, cells := 1, slots := 6, locals := 103 }) (va_Pc [.ref o, .int x1, .int 5] (aS ra ga D (tyL cI cZ cJ) (xW o u cI cZ cJ) sz)) (nQi (va_A (xW o u cI cZ cJ) sz)) (wX "java/lang/IndexOutOfBoundsException" D (xW o u cI cZ cJ) (va_A (xW o u cI cZ cJ) sz)) 1 6 (va_A (xW o u cI cZ cJ) sz) := by
  refine xStart (lv := [(0, .ref o), (1, .int x1), (2, .int 5)]) (Qc := fun A => nQi A) (XC := fun A => wX "java/lang/IndexOutOfBoundsException" D (xW o u cI cZ cJ) A) (by decide) (Nat.le_of_ble_eq_true rfl) rfl ?_
  intro p e s m args below meth c ls A H S hr hlocks hnm hl hK hP hD hS hA hB hnt
  have hx := S.1
  have hb := S.2.1
  refine lv_aload_n hx hb dX8_ofProcedure_0 rfl (lv_at hl 0 rfl) ?_
  refine lv_iload_n hx hb dX8_ofProcedure_1 rfl (lv_at hl 1 rfl) ?_
  exact tVv (As := [.int x1]) (ci := 8) S (c_X8_needProcedure_1 l D cI cZ cJ o u hst ra ga H.size x1 lo_x1) mi_X8_needProcedure kw_4_166 rfl rfl ⟨Nat.le_of_ble_eq_true rfl, Nat.le_of_ble_eq_true rfl⟩ hP hD hK hS hA hB xW_0 rfl rfl hl.1 (Nat.le_of_ble_eq_true rfl) ⟨Nat.le_of_ble_eq_true rfl, Nat.le_of_ble_eq_true rfl⟩ dX8_ofProcedure_2 hnt hlocks (Nat.le_of_ble_eq_true rfl) (Nat.le_of_ble_eq_true rfl)

set_option maxHeartbeats 8000000 in
set_option maxRecDepth 100000 in
theorem c_X8_ofProcedure_21 (l : Launch) (D : va_G) (cI cZ cJ : ClassId) (o : Nat) (u : Nat → Nat) (ra ga : Nat → Nat) (sz : Nat) : Met l yX8_ofProcedure (uW yX8_ofProcedure cX8_ofProcedure 3 (some .int)) ({ frames := 4, cells := 0, slots := 0, locals := 85 }) (va_Pc [.ref o, .int 0, .int 5] (aS ra ga D (tyL cI cZ cJ) (xW o u cI cZ cJ) sz)) (wQi (0) D (((((((xW o u cI cZ cJ).set 0 (o, .inr (8, ((xF u).set 9 (.int 0))))).set 32 ((u 31), .inl (cZ, 10, .inl (upd (upd (upd (upd (upd (upd (upd (upd (upd (upd (fun _ => 0) (0 : Int32).toNatClampNeg 0) (1 : Int32).toNatClampNeg 0) (2 : Int32).toNatClampNeg 0) (3 : Int32).toNatClampNeg 0) (4 : Int32).toNatClampNeg 0) (5 : Int32).toNatClampNeg 0) (6 : Int32).toNatClampNeg 0) (7 : Int32).toNatClampNeg 0) (8 : Int32).toNatClampNeg 0) (9 : Int32).toNatClampNeg 0)))).set 34 ((u 33), .inr (2, ([.ref (u 0), .ref (u 12), .ref (u 19), .int 0, .ref (u 34), .ref (u 35), .ref (u 36), .ref (u 37), .int 0].set 3 (.int 1))))).set 35 ((u 34), .inl (cI, 120, .inl (upd (fun _ => 0) (0 : Int32).toNatClampNeg 10)))).set 36 ((u 35), .inl (cI, 120, .inl (upd (fun _ => 0) (0 : Int32).toNatClampNeg 0)))).set 37 ((u 36), .inl (cI, 120, .inl (upd (fun _ => 0) (0 : Int32).toNatClampNeg (-1))))) (va_A (xW o u cI cZ cJ) sz)) 0 0 (va_A (xW o u cI cZ cJ) sz) := by
  refine aStart (lv := [(0, .ref o), (1, .int 0), (2, .int 5)]) (Qc := fun A => wQi (0) D (((((((xW o u cI cZ cJ).set 0 (o, .inr (8, ((xF u).set 9 (.int 0))))).set 32 ((u 31), .inl (cZ, 10, .inl (upd (upd (upd (upd (upd (upd (upd (upd (upd (upd (fun _ => 0) (0 : Int32).toNatClampNeg 0) (1 : Int32).toNatClampNeg 0) (2 : Int32).toNatClampNeg 0) (3 : Int32).toNatClampNeg 0) (4 : Int32).toNatClampNeg 0) (5 : Int32).toNatClampNeg 0) (6 : Int32).toNatClampNeg 0) (7 : Int32).toNatClampNeg 0) (8 : Int32).toNatClampNeg 0) (9 : Int32).toNatClampNeg 0)))).set 34 ((u 33), .inr (2, ([.ref (u 0), .ref (u 12), .ref (u 19), .int 0, .ref (u 34), .ref (u 35), .ref (u 36), .ref (u 37), .int 0].set 3 (.int 1))))).set 35 ((u 34), .inl (cI, 120, .inl (upd (fun _ => 0) (0 : Int32).toNatClampNeg 10)))).set 36 ((u 35), .inl (cI, 120, .inl (upd (fun _ => 0) (0 : Int32).toNatClampNeg 0)))).set 37 ((u 36), .inl (cI, 120, .inl (upd (fun _ => 0) (0 : Int32).toNatClampNeg (-1))))) A) (by decide) (Nat.le_of_ble_eq_true rfl) rfl ?_
  intro p e s m args below meth c ls A H S hr hlocks hnm hl hK hP hD hS hA hB
  have hx := S.1
  have hb := S.2.1
  refine lv_aload_n hx hb dX8_ofProcedure_0 rfl (lv_at hl 0 rfl) ?_
  refine lv_iload_n hx hb dX8_ofProcedure_1 rfl (lv_at hl 1 rfl) ?_
  refine aVv (As := [.int 0]) (ci := 8) S (c_X8_needProcedure_2 l D cI cZ cJ o u ra ga H.size) mi_X8_needProcedure kw_4_166 rfl rfl ⟨Nat.le_of_ble_eq_true rfl, Nat.le_of_ble_eq_true rfl⟩ hP hD hK hS hA hB xW_0 rfl rfl hl.1 (Nat.le_of_ble_eq_true rfl) ⟨Nat.le_of_ble_eq_true rfl, Nat.le_of_ble_eq_true rfl⟩ dX8_ofProcedure_2 (fun H locs hz hP hD hS => ?_)
  refine lv_iload_n hx hb dX8_ofProcedure_5 rfl (lv_at hl 2 rfl) ?_
  refine lv_if_lt (tgt := 19) hx hb dX8_ofProcedure_6 (by decide) (fun c => absurd c (by decide)) (fun _ => ?_)
  refine lv_iload_n hx hb dX8_ofProcedure_9 rfl (lv_at hl 2 rfl) ?_
  refine lv_bipush (v := 7) hx hb dX8_ofProcedure_10 (by decide) ?_
  refine lv_icmp_gt (tgt := 19) hx hb dX8_ofProcedure_12 (by decide) (fun c => absurd c (by decide)) (fun _ => ?_)
  refine lv_iconst (v := 1) hx hb dX8_ofProcedure_15 (by decide) ?_
  refine lv_goto (tgt := 20) hx hb dX8_ofProcedure_16 (by decide) ?_
  refine aSv (As := [.int 1]) S (c_X8_needArgument_1 l D cI cZ cJ o u ra ga H.size) ms_X8_needArgument kw_4_4 rfl rfl ⟨Nat.le_of_ble_eq_true rfl, Nat.le_of_ble_eq_true rfl⟩ hP hD hK hS hA hB hl.1 (Nat.le_of_ble_eq_true rfl) ⟨Nat.le_of_ble_eq_true rfl, Nat.le_of_ble_eq_true rfl⟩ dX8_ofProcedure_20 (fun H locs hz hP hD hS => ?_)
  refine lv_aload_n hx hb dX8_ofProcedure_23 rfl (lv_at hl 0 rfl) ?_
  refine aVv (As := []) (ci := 8) S (c_X8_refresh_0 l D cI cZ cJ o u ra ga H.size) mi_X8_refresh kw_3_71 rfl rfl ⟨Nat.le_of_ble_eq_true rfl, Nat.le_of_ble_eq_true rfl⟩ hP hD hK hS hA hB xW_0 rfl rfl hl.1 (Nat.le_of_ble_eq_true rfl) ⟨Nat.le_of_ble_eq_true rfl, Nat.le_of_ble_eq_true rfl⟩ dX8_ofProcedure_24 (fun H locs hz hP hD hS => ?_)
  refine lv_iload_n hx hb dX8_ofProcedure_27 rfl (lv_at hl 2 rfl) ?_
  refine lv_tableIn (off := 94) (tgt := 122) hx hb dX8_ofProcedure_28 (by decide) (by decide) (by decide) (by decide) ?_
  refine lv_aload_n hx hb dX8_ofProcedure_122 rfl (lv_at hl 0 rfl) ?_
  refine xg (ci := 8) S inX8 rfl hK hP (q0 := 0) rfl 2 (by decide) rfl kw_3_22 rfl dX8_ofProcedure_123 ?_
  refine xg (ci := 4) S inX4 rfl hK hP (q0 := 20) rfl 13 (by decide) rfl kw_1_192 rfl dX8_ofProcedure_126 ?_
  refine lv_iload_n hx hb dX8_ofProcedure_129 rfl (lv_at hl 1 rfl) ?_
  refine xzald (t0 := 1) (v := 0) S hK hP (q0 := 32) rfl rfl (vin rfl) rfl dX8_ofProcedure_130 ?_
  refine lv_if_eq (tgt := 138) hx hb dX8_ofProcedure_131 (by decide) (fun _ => ?_) (fun c => absurd c (by decide))
  refine lv_iconst (v := 0) hx hb dX8_ofProcedure_138 (by decide) ?_
  exact wEnd S hr hlocks hP hD hS (Nat.le_of_ble_eq_true rfl) (Nat.le_of_ble_eq_true rfl) dX8_ofProcedure_139 rfl

set_option maxHeartbeats 8000000 in
set_option maxRecDepth 100000 in
theorem c_X8_ofProcedure_22 (l : Launch) (D : va_G) (cI cZ cJ : ClassId) (o : Nat) (u : Nat → Nat) (hst : l.stackTraces = false) (ra ga : Nat → Nat) (sz : Nat) (x1 : Int32) (x2 : Int32) (hi_x1 : x1 ≤ (-1)) (hi_x2 : x2 ≤ 6) (ne_x2_0 : ¬ x2 = 0) (ne_x2_1 : ¬ x2 = 1) (ne_x2_2 : ¬ x2 = 2) (ne_x2_3 : ¬ x2 = 3) (ne_x2_4 : ¬ x2 = 4) (ne_x2_5 : ¬ x2 = 5) : vx_Met l yX8_ofProcedure (uW yX8_ofProcedure cX8_ofProcedure 3 (some .int)) ({ frames := 7, cells := 1, slots := 6, locals := 103 }) (va_Pc [.ref o, .int x1, .int x2] (aS ra ga D (tyL cI cZ cJ) (xW o u cI cZ cJ) sz)) (nQi (va_A (xW o u cI cZ cJ) sz)) (wX "java/lang/IndexOutOfBoundsException" D (xW o u cI cZ cJ) (va_A (xW o u cI cZ cJ) sz)) 1 6 (va_A (xW o u cI cZ cJ) sz) := by
  refine xStart (lv := [(0, .ref o), (1, .int x1), (2, .int x2)]) (Qc := fun A => nQi A) (XC := fun A => wX "java/lang/IndexOutOfBoundsException" D (xW o u cI cZ cJ) A) (by decide) (Nat.le_of_ble_eq_true rfl) rfl ?_
  intro p e s m args below meth c ls A H S hr hlocks hnm hl hK hP hD hS hA hB hnt
  have hx := S.1
  have hb := S.2.1
  refine lv_aload_n hx hb dX8_ofProcedure_0 rfl (lv_at hl 0 rfl) ?_
  refine lv_iload_n hx hb dX8_ofProcedure_1 rfl (lv_at hl 1 rfl) ?_
  exact tVv (As := [.int x1]) (ci := 8) S (c_X8_needProcedure_0 l D cI cZ cJ o u hst ra ga H.size x1 hi_x1) mi_X8_needProcedure kw_4_166 rfl rfl ⟨Nat.le_of_ble_eq_true rfl, Nat.le_of_ble_eq_true rfl⟩ hP hD hK hS hA hB xW_0 rfl rfl hl.1 (Nat.le_of_ble_eq_true rfl) ⟨Nat.le_of_ble_eq_true rfl, Nat.le_of_ble_eq_true rfl⟩ dX8_ofProcedure_2 hnt hlocks (Nat.le_of_ble_eq_true rfl) (Nat.le_of_ble_eq_true rfl)

set_option maxHeartbeats 8000000 in
set_option maxRecDepth 100000 in
theorem c_X8_ofProcedure_23 (l : Launch) (D : va_G) (cI cZ cJ : ClassId) (o : Nat) (u : Nat → Nat) (hst : l.stackTraces = false) (ra ga : Nat → Nat) (sz : Nat) (x1 : Int32) (x2 : Int32) (lo_x1 : 1 ≤ x1) (hi_x2 : x2 ≤ 6) (ne_x2_0 : ¬ x2 = 0) (ne_x2_1 : ¬ x2 = 1) (ne_x2_2 : ¬ x2 = 2) (ne_x2_3 : ¬ x2 = 3) (ne_x2_4 : ¬ x2 = 4) (ne_x2_5 : ¬ x2 = 5) : vx_Met l yX8_ofProcedure (uW yX8_ofProcedure cX8_ofProcedure 3 (some .int)) ({ frames := 7, cells := 1, slots := 6, locals := 103 }) (va_Pc [.ref o, .int x1, .int x2] (aS ra ga D (tyL cI cZ cJ) (xW o u cI cZ cJ) sz)) (nQi (va_A (xW o u cI cZ cJ) sz)) (wX "java/lang/IndexOutOfBoundsException" D (xW o u cI cZ cJ) (va_A (xW o u cI cZ cJ) sz)) 1 6 (va_A (xW o u cI cZ cJ) sz) := by
  refine xStart (lv := [(0, .ref o), (1, .int x1), (2, .int x2)]) (Qc := fun A => nQi A) (XC := fun A => wX "java/lang/IndexOutOfBoundsException" D (xW o u cI cZ cJ) A) (by decide) (Nat.le_of_ble_eq_true rfl) rfl ?_
  intro p e s m args below meth c ls A H S hr hlocks hnm hl hK hP hD hS hA hB hnt
  have hx := S.1
  have hb := S.2.1
  refine lv_aload_n hx hb dX8_ofProcedure_0 rfl (lv_at hl 0 rfl) ?_
  refine lv_iload_n hx hb dX8_ofProcedure_1 rfl (lv_at hl 1 rfl) ?_
  exact tVv (As := [.int x1]) (ci := 8) S (c_X8_needProcedure_1 l D cI cZ cJ o u hst ra ga H.size x1 lo_x1) mi_X8_needProcedure kw_4_166 rfl rfl ⟨Nat.le_of_ble_eq_true rfl, Nat.le_of_ble_eq_true rfl⟩ hP hD hK hS hA hB xW_0 rfl rfl hl.1 (Nat.le_of_ble_eq_true rfl) ⟨Nat.le_of_ble_eq_true rfl, Nat.le_of_ble_eq_true rfl⟩ dX8_ofProcedure_2 hnt hlocks (Nat.le_of_ble_eq_true rfl) (Nat.le_of_ble_eq_true rfl)

set_option maxHeartbeats 8000000 in
set_option maxRecDepth 100000 in
theorem c_X8_ofProcedure_24 (l : Launch) (D : va_G) (cI cZ cJ : ClassId) (o : Nat) (u : Nat → Nat) (hst : l.stackTraces = false) (ra ga : Nat → Nat) (sz : Nat) (x2 : Int32) (hi_x2 : x2 ≤ (-1)) (ne_x2_0 : ¬ x2 = 0) (ne_x2_1 : ¬ x2 = 1) (ne_x2_2 : ¬ x2 = 2) (ne_x2_3 : ¬ x2 = 3) (ne_x2_4 : ¬ x2 = 4) (ne_x2_5 : ¬ x2 = 5) : vx_Met l yX8_ofProcedure (uW yX8_ofProcedure cX8_ofProcedure 3 (some .int)) ({ frames := 7, cells := 1, slots := 6, locals := 102 }) (va_Pc [.ref o, .int 0, .int x2] (aS ra ga D (tyL cI cZ cJ) (xW o u cI cZ cJ) sz)) (nQi (va_A (xW o u cI cZ cJ) sz)) (wX "java/lang/IllegalArgumentException" D (xW o u cI cZ cJ) (va_A (xW o u cI cZ cJ) sz)) 1 6 (va_A (xW o u cI cZ cJ) sz) := by
  refine xStart (lv := [(0, .ref o), (1, .int 0), (2, .int x2)]) (Qc := fun A => nQi A) (XC := fun A => wX "java/lang/IllegalArgumentException" D (xW o u cI cZ cJ) A) (by decide) (Nat.le_of_ble_eq_true rfl) rfl ?_
  intro p e s m args below meth c ls A H S hr hlocks hnm hl hK hP hD hS hA hB hnt
  have hx := S.1
  have hb := S.2.1
  refine lv_aload_n hx hb dX8_ofProcedure_0 rfl (lv_at hl 0 rfl) ?_
  refine lv_iload_n hx hb dX8_ofProcedure_1 rfl (lv_at hl 1 rfl) ?_
  refine aVv (As := [.int 0]) (ci := 8) S (c_X8_needProcedure_2 l D cI cZ cJ o u ra ga H.size) mi_X8_needProcedure kw_4_166 rfl rfl ⟨Nat.le_of_ble_eq_true rfl, Nat.le_of_ble_eq_true rfl⟩ hP hD hK hS hA hB xW_0 rfl rfl hl.1 (Nat.le_of_ble_eq_true rfl) ⟨Nat.le_of_ble_eq_true rfl, Nat.le_of_ble_eq_true rfl⟩ dX8_ofProcedure_2 (fun H locs hz hP hD hS => ?_)
  refine lv_iload_n hx hb dX8_ofProcedure_5 rfl (lv_at hl 2 rfl) ?_
  refine lv_if_lt (tgt := 19) hx hb dX8_ofProcedure_6 (by decide) (fun _ => ?_) (fun c => absurd (b_lt hi_x2 (by decide)) c)
  refine lv_iconst (v := 0) hx hb dX8_ofProcedure_19 (by decide) ?_
  exact tSv (As := [.int 0]) S (c_X8_needArgument_0 l D cI cZ cJ o u hst ra ga H.size) ms_X8_needArgument kw_4_4 rfl rfl ⟨Nat.le_of_ble_eq_true rfl, Nat.le_of_ble_eq_true rfl⟩ hP hD hK hS hA hB hl.1 (Nat.le_of_ble_eq_true rfl) ⟨Nat.le_of_ble_eq_true rfl, Nat.le_of_ble_eq_true rfl⟩ dX8_ofProcedure_20 hnt hlocks (Nat.le_of_ble_eq_true rfl) (Nat.le_of_ble_eq_true rfl)

set_option maxHeartbeats 8000000 in
set_option maxRecDepth 100000 in
theorem c_X8_ofProcedure_25 (l : Launch) (D : va_G) (cI cZ cJ : ClassId) (o : Nat) (u : Nat → Nat) (ra ga : Nat → Nat) (sz : Nat) : Met l yX8_ofProcedure (uW yX8_ofProcedure cX8_ofProcedure 3 (some .int)) ({ frames := 4, cells := 0, slots := 0, locals := 85 }) (va_Pc [.ref o, .int 0, .int 6] (aS ra ga D (tyL cI cZ cJ) (xW o u cI cZ cJ) sz)) (wQi ((-1)) D (((((((xW o u cI cZ cJ).set 0 (o, .inr (8, ((xF u).set 9 (.int 0))))).set 32 ((u 31), .inl (cZ, 10, .inl (upd (upd (upd (upd (upd (upd (upd (upd (upd (upd (fun _ => 0) (0 : Int32).toNatClampNeg 0) (1 : Int32).toNatClampNeg 0) (2 : Int32).toNatClampNeg 0) (3 : Int32).toNatClampNeg 0) (4 : Int32).toNatClampNeg 0) (5 : Int32).toNatClampNeg 0) (6 : Int32).toNatClampNeg 0) (7 : Int32).toNatClampNeg 0) (8 : Int32).toNatClampNeg 0) (9 : Int32).toNatClampNeg 0)))).set 34 ((u 33), .inr (2, ([.ref (u 0), .ref (u 12), .ref (u 19), .int 0, .ref (u 34), .ref (u 35), .ref (u 36), .ref (u 37), .int 0].set 3 (.int 1))))).set 35 ((u 34), .inl (cI, 120, .inl (upd (fun _ => 0) (0 : Int32).toNatClampNeg 10)))).set 36 ((u 35), .inl (cI, 120, .inl (upd (fun _ => 0) (0 : Int32).toNatClampNeg 0)))).set 37 ((u 36), .inl (cI, 120, .inl (upd (fun _ => 0) (0 : Int32).toNatClampNeg (-1))))) (va_A (xW o u cI cZ cJ) sz)) 0 0 (va_A (xW o u cI cZ cJ) sz) := by
  refine aStart (lv := [(0, .ref o), (1, .int 0), (2, .int 6)]) (Qc := fun A => wQi ((-1)) D (((((((xW o u cI cZ cJ).set 0 (o, .inr (8, ((xF u).set 9 (.int 0))))).set 32 ((u 31), .inl (cZ, 10, .inl (upd (upd (upd (upd (upd (upd (upd (upd (upd (upd (fun _ => 0) (0 : Int32).toNatClampNeg 0) (1 : Int32).toNatClampNeg 0) (2 : Int32).toNatClampNeg 0) (3 : Int32).toNatClampNeg 0) (4 : Int32).toNatClampNeg 0) (5 : Int32).toNatClampNeg 0) (6 : Int32).toNatClampNeg 0) (7 : Int32).toNatClampNeg 0) (8 : Int32).toNatClampNeg 0) (9 : Int32).toNatClampNeg 0)))).set 34 ((u 33), .inr (2, ([.ref (u 0), .ref (u 12), .ref (u 19), .int 0, .ref (u 34), .ref (u 35), .ref (u 36), .ref (u 37), .int 0].set 3 (.int 1))))).set 35 ((u 34), .inl (cI, 120, .inl (upd (fun _ => 0) (0 : Int32).toNatClampNeg 10)))).set 36 ((u 35), .inl (cI, 120, .inl (upd (fun _ => 0) (0 : Int32).toNatClampNeg 0)))).set 37 ((u 36), .inl (cI, 120, .inl (upd (fun _ => 0) (0 : Int32).toNatClampNeg (-1))))) A) (by decide) (Nat.le_of_ble_eq_true rfl) rfl ?_
  intro p e s m args below meth c ls A H S hr hlocks hnm hl hK hP hD hS hA hB
  have hx := S.1
  have hb := S.2.1
  refine lv_aload_n hx hb dX8_ofProcedure_0 rfl (lv_at hl 0 rfl) ?_
  refine lv_iload_n hx hb dX8_ofProcedure_1 rfl (lv_at hl 1 rfl) ?_
  refine aVv (As := [.int 0]) (ci := 8) S (c_X8_needProcedure_2 l D cI cZ cJ o u ra ga H.size) mi_X8_needProcedure kw_4_166 rfl rfl ⟨Nat.le_of_ble_eq_true rfl, Nat.le_of_ble_eq_true rfl⟩ hP hD hK hS hA hB xW_0 rfl rfl hl.1 (Nat.le_of_ble_eq_true rfl) ⟨Nat.le_of_ble_eq_true rfl, Nat.le_of_ble_eq_true rfl⟩ dX8_ofProcedure_2 (fun H locs hz hP hD hS => ?_)
  refine lv_iload_n hx hb dX8_ofProcedure_5 rfl (lv_at hl 2 rfl) ?_
  refine lv_if_lt (tgt := 19) hx hb dX8_ofProcedure_6 (by decide) (fun c => absurd c (by decide)) (fun _ => ?_)
  refine lv_iload_n hx hb dX8_ofProcedure_9 rfl (lv_at hl 2 rfl) ?_
  refine lv_bipush (v := 7) hx hb dX8_ofProcedure_10 (by decide) ?_
  refine lv_icmp_gt (tgt := 19) hx hb dX8_ofProcedure_12 (by decide) (fun c => absurd c (by decide)) (fun _ => ?_)
  refine lv_iconst (v := 1) hx hb dX8_ofProcedure_15 (by decide) ?_
  refine lv_goto (tgt := 20) hx hb dX8_ofProcedure_16 (by decide) ?_
  refine aSv (As := [.int 1]) S (c_X8_needArgument_1 l D cI cZ cJ o u ra ga H.size) ms_X8_needArgument kw_4_4 rfl rfl ⟨Nat.le_of_ble_eq_true rfl, Nat.le_of_ble_eq_true rfl⟩ hP hD hK hS hA hB hl.1 (Nat.le_of_ble_eq_true rfl) ⟨Nat.le_of_ble_eq_true rfl, Nat.le_of_ble_eq_true rfl⟩ dX8_ofProcedure_20 (fun H locs hz hP hD hS => ?_)
  refine lv_aload_n hx hb dX8_ofProcedure_23 rfl (lv_at hl 0 rfl) ?_
  refine aVv (As := []) (ci := 8) S (c_X8_refresh_0 l D cI cZ cJ o u ra ga H.size) mi_X8_refresh kw_3_71 rfl rfl ⟨Nat.le_of_ble_eq_true rfl, Nat.le_of_ble_eq_true rfl⟩ hP hD hK hS hA hB xW_0 rfl rfl hl.1 (Nat.le_of_ble_eq_true rfl) ⟨Nat.le_of_ble_eq_true rfl, Nat.le_of_ble_eq_true rfl⟩ dX8_ofProcedure_24 (fun H locs hz hP hD hS => ?_)
  refine lv_iload_n hx hb dX8_ofProcedure_27 rfl (lv_at hl 2 rfl) ?_
  refine lv_tableIn (off := 112) (tgt := 140) hx hb dX8_ofProcedure_28 (by decide) (by decide) (by decide) (by decide) ?_
  refine lv_aload_n hx hb dX8_ofProcedure_140 rfl (lv_at hl 0 rfl) ?_
  refine xg (ci := 8) S inX8 rfl hK hP (q0 := 0) rfl 0 (by decide) rfl kw_3_20 rfl dX8_ofProcedure_141 ?_
  refine xg (ci := 1) S inX1 rfl hK hP (q0 := 1) rfl 6 (by decide) rfl kw_1_59 rfl dX8_ofProcedure_144 ?_
  refine lv_iload_n hx hb dX8_ofProcedure_147 rfl (lv_at hl 1 rfl) ?_
  refine xiald (t0 := 0) (v := (-1)) S hK hP (q0 := 7) rfl rfl (vin rfl) rfl dX8_ofProcedure_148 ?_
  exact wEnd S hr hlocks hP hD hS (Nat.le_of_ble_eq_true rfl) (Nat.le_of_ble_eq_true rfl) dX8_ofProcedure_149 rfl

set_option maxHeartbeats 8000000 in
set_option maxRecDepth 100000 in
theorem h_ofProcedure_0 (l : Launch) (D : va_G) (cI cZ cJ : ClassId) (o : Nat) (u : Nat → Nat) (ao : Nat) (hst : l.stackTraces = false) (ra ga : Nat → Nat) (sz : Nat) (x1 : Int32) (x2 : Int32) (hi_x1 : x1 ≤ (-1)) (lo_x2 : 7 ≤ x2) : vx_Met l yL_ofProcedure (uWh yL_ofProcedure cL_ofProcedure 5 (some .int) [(0, 10, 13, 13), (0, 10, 17, 15)]) ({ frames := 8, cells := 1, slots := 6, locals := 125 }) (va_Pc [.ref o, .int x1, .int x2, .ref ao] (lS ra ga D (tyL cI cZ cJ) ((xW o u cI cZ cJ) ++ [(ao, .inl (cJ, 1, .inr (.inl (fun _ => 0))))]) sz)) (wQi (1) D ((xW o u cI cZ cJ) ++ [(ao, .inl (cJ, 1, .inr (.inl (fun _ => 0))))]) (va_A ((xW o u cI cZ cJ) ++ [(ao, .inl (cJ, 1, .inr (.inl (fun _ => 0))))]) sz)) (xN (va_A ((xW o u cI cZ cJ) ++ [(ao, .inl (cJ, 1, .inr (.inl (fun _ => 0))))]) sz)) 1 6 (va_A ((xW o u cI cZ cJ) ++ [(ao, .inl (cJ, 1, .inr (.inl (fun _ => 0))))]) sz) := by
  refine hStart (l := l) (y := yL_ofProcedure) (b := cL_ofProcedure) (n := 5) (r := (some .int)) (hh := [(0, 10, 13, 13), (0, 10, 17, 15)]) (rm := ({ frames := 8, cells := 1, slots := 6, locals := 125 })) (mc := 1) (ms := 6) (ra := ra) (ga := ga) (D := D) (tys := tyL cI cZ cJ) (ws := ((xW o u cI cZ cJ) ++ [(ao, .inl (cJ, 1, .inr (.inl (fun _ => 0))))])) (av := [.ref o, .int x1, .int x2, .ref ao]) (sz := sz) (lv := [(0, .ref o), (1, .int x1), (2, .int x2), (3, .ref ao)]) (Qc := fun A => wQi (1) D ((xW o u cI cZ cJ) ++ [(ao, .inl (cJ, 1, .inr (.inl (fun _ => 0))))]) A) (by decide) (Nat.le_of_ble_eq_true rfl) rfl ?_
  intro p e s m args below meth c ls A H S hr hlocks htab hl hK hP hD hS hA hB hC
  have hx := S.1
  have hb := S.2.1
  refine lv_aload_n hx hb dL_ofProcedure_0 rfl (lv_at hl 3 rfl) ?_
  refine lv_iconst (v := 0) hx hb dL_ofProcedure_1 (by decide) ?_
  refine lv_aload_n hx hb dL_ofProcedure_2 rfl (lv_at hl 0 rfl) ?_
  refine lv_iload_n hx hb dL_ofProcedure_3 rfl (lv_at hl 1 rfl) ?_
  refine lv_iload_n hx hb dL_ofProcedure_4 rfl (lv_at hl 2 rfl) ?_
  refine cVi [] [(ao, .inl (cJ, 1, .inr (.inl (fun _ => 0))))] (As := [.int x1, .int x2]) (ci := 8) S (c_X8_ofProcedure_0 l D cI cZ cJ o u hst ra ga H.size x1 x2 hi_x1 lo_x2) mi_X8_ofProcedure kw_6_19 rfl rfl ⟨Nat.le_of_ble_eq_true rfl, Nat.le_of_ble_eq_true rfl⟩ hP hD hK hS hA hB xW_0 rfl rfl hl.1 (Nat.le_of_ble_eq_true rfl) ⟨Nat.le_of_ble_eq_true rfl, Nat.le_of_ble_eq_true rfl⟩ dL_ofProcedure_5 (fun ce q9 H locs hz hP hD hS hce hcv hcl => ?_)
  refine vx_catch (name := "java/lang/IndexOutOfBoundsException") S.2.2.2.1 [] (⟨0, 10, 13, 13⟩ : ExceptionTableEntry) [(⟨0, 10, 17, 15⟩ : ExceptionTableEntry)] (htab.trans rfl) (fun _ h => absurd h List.not_mem_nil) (by decide) (by decide) (S.2.2.2.2 _ kw_5_176) (va_Nw.use rfl hB.c0) hce hcv hcl ?_
  have hP : va_P D vwCl ((xW o u cI cZ cJ) ++ [(ao, .inl (cJ, 1, .inr (.inl (fun _ => 0))))]) H := hP
  have hD : va_D A ((xW o u cI cZ cJ) ++ [(ao, .inl (cJ, 1, .inr (.inl (fun _ => 0))))]) := hD
  refine lv_astore (lv' := [(4, .ref q9), (0, .ref o), (1, .int x1), (2, .int x2), (3, .ref ao)]) hx hb dL_ofProcedure_13 hl (by decide) rfl (fun ls hl => ?_)
  refine lv_iconst (v := 1) hx hb dL_ofProcedure_15 (by decide) ?_
  exact vx_ret (wEnd S hr hlocks hP hD hS (Nat.le_of_ble_eq_true rfl) (Nat.le_of_ble_eq_true rfl) dL_ofProcedure_16 rfl)

set_option maxHeartbeats 8000000 in
set_option maxRecDepth 100000 in
theorem c_X9_ofProcedure_0 (l : Launch) (D : va_G) (cI cZ cJ : ClassId) (o : Nat) (q : Nat → Nat) (sz : Nat) (x1 : Int32) (x2 : Int32) (hi_x1 : x1 ≤ (-1)) (lo_x2 : 7 ≤ x2) : Met l yX9_ofProcedure (uW yX9_ofProcedure cX9_ofProcedure 3 (some .int)) ({ frames := 2, cells := 0, slots := 0, locals := 43 }) (va_Pc [.ref o, .int x1, .int x2] (wS D (tyL cI cZ cJ) (mW o 0 q cI cZ) sz)) (wQi (0) D (mW o 1 q cI cZ) (va_A (mW o 0 q cI cZ) sz)) 0 0 (va_A (mW o 0 q cI cZ) sz) := by
  refine wStart (lv := [(0, .ref o), (1, .int x1), (2, .int x2)]) (Qc := fun A => wQi (0) D (mW o 1 q cI cZ) A) (by decide) (Nat.le_of_ble_eq_true rfl) rfl ?_
  intro p e s m args below meth c ls A H S hr hlocks hnm hl hK hP hD hS hA
  have hx := S.1
  have hb := S.2.1
  refine lv_aload_n hx hb dX9_ofProcedure_0 rfl (lv_at hl 0 rfl) ?_
  refine lv_iconst (v := 0) hx hb dX9_ofProcedure_1 (by decide) ?_
  refine xp (ci := 9) (v := .int 0) S inX9 tyX9 tyX9_ok nmX9 rfl hK hP hD hS mW_0 0 (by decide) kw_6_148 rfl rfl rfl rfl (Nat.le_of_ble_eq_true rfl) dX9_ofProcedure_2 (fun H locs hP hD hS => ?_)
  have hP : va_P D vwCl (mW o 0 q cI cZ) H := hP
  have hD : va_D A (mW o 0 q cI cZ) := hD
  refine lv_aload_n hx hb dX9_ofProcedure_5 rfl (lv_at hl 0 rfl) ?_
  refine lv_iload_n hx hb dX9_ofProcedure_6 rfl (lv_at hl 1 rfl) ?_
  refine rdV (As := [.int x1]) (ci := 9) S (c_X9_isProcedure_0 l D cI cZ cJ o q x1 hi_x1) mi_X9_isProcedure kw_7_97 ⟨rfl, rfl⟩ ⟨Nat.le_of_ble_eq_true rfl, Nat.le_of_ble_eq_true rfl⟩ hP hK mW_0 rfl rfl hl.1 (Nat.le_of_ble_eq_true rfl) ⟨Nat.le_of_ble_eq_true rfl, Nat.le_of_ble_eq_true rfl⟩ dX9_ofProcedure_7 ?_
  refine lv_if_ne (tgt := 19) hx hb dX9_ofProcedure_10 (by decide) (fun c => absurd c (by decide)) (fun _ => ?_)
  refine lv_aload_n hx hb dX9_ofProcedure_13 rfl (lv_at hl 0 rfl) ?_
  refine lv_iconst (v := 1) hx hb dX9_ofProcedure_14 (by decide) ?_
  refine wrV (As := [.int 1]) (ci := 9) S (c_X9_no_0 l D cI cZ cJ o q H.size) mi_X9_no kw_7_104 rfl rfl ⟨Nat.le_of_ble_eq_true rfl, Nat.le_of_ble_eq_true rfl⟩ hP hD hK hS hA mW_0 rfl rfl hl.1 (Nat.le_of_ble_eq_true rfl) ⟨Nat.le_of_ble_eq_true rfl, Nat.le_of_ble_eq_true rfl⟩ dX9_ofProcedure_15 (fun H locs hz hP hD hS => ?_)
  exact wEnd S hr hlocks hP hD hS (Nat.le_of_ble_eq_true rfl) (Nat.le_of_ble_eq_true rfl) dX9_ofProcedure_18 rfl

set_option maxHeartbeats 8000000 in
set_option maxRecDepth 100000 in
theorem h_ofProcedure_1 (l : Launch) (D : va_G) (cI cZ cJ : ClassId) (o : Nat) (u : Nat → Nat) (ao : Nat) (hst : l.stackTraces = false) (ra ga : Nat → Nat) (sz : Nat) (x1 : Int32) (x2 : Int32) (lo_x1 : 1 ≤ x1) (lo_x2 : 7 ≤ x2) : vx_Met l yL_ofProcedure (uWh yL_ofProcedure cL_ofProcedure 5 (some .int) [(0, 10, 13, 13), (0, 10, 17, 15)]) ({ frames := 8, cells := 1, slots := 6, locals := 125 }) (va_Pc [.ref o, .int x1, .int x2, .ref ao] (lS ra ga D (tyL cI cZ cJ) ((xW o u cI cZ cJ) ++ [(ao, .inl (cJ, 1, .inr (.inl (fun _ => 0))))]) sz)) (wQi (1) D ((xW o u cI cZ cJ) ++ [(ao, .inl (cJ, 1, .inr (.inl (fun _ => 0))))]) (va_A ((xW o u cI cZ cJ) ++ [(ao, .inl (cJ, 1, .inr (.inl (fun _ => 0))))]) sz)) (xN (va_A ((xW o u cI cZ cJ) ++ [(ao, .inl (cJ, 1, .inr (.inl (fun _ => 0))))]) sz)) 1 6 (va_A ((xW o u cI cZ cJ) ++ [(ao, .inl (cJ, 1, .inr (.inl (fun _ => 0))))]) sz) := by
  refine hStart (l := l) (y := yL_ofProcedure) (b := cL_ofProcedure) (n := 5) (r := (some .int)) (hh := [(0, 10, 13, 13), (0, 10, 17, 15)]) (rm := ({ frames := 8, cells := 1, slots := 6, locals := 125 })) (mc := 1) (ms := 6) (ra := ra) (ga := ga) (D := D) (tys := tyL cI cZ cJ) (ws := ((xW o u cI cZ cJ) ++ [(ao, .inl (cJ, 1, .inr (.inl (fun _ => 0))))])) (av := [.ref o, .int x1, .int x2, .ref ao]) (sz := sz) (lv := [(0, .ref o), (1, .int x1), (2, .int x2), (3, .ref ao)]) (Qc := fun A => wQi (1) D ((xW o u cI cZ cJ) ++ [(ao, .inl (cJ, 1, .inr (.inl (fun _ => 0))))]) A) (by decide) (Nat.le_of_ble_eq_true rfl) rfl ?_
  intro p e s m args below meth c ls A H S hr hlocks htab hl hK hP hD hS hA hB hC
  have hx := S.1
  have hb := S.2.1
  refine lv_aload_n hx hb dL_ofProcedure_0 rfl (lv_at hl 3 rfl) ?_
  refine lv_iconst (v := 0) hx hb dL_ofProcedure_1 (by decide) ?_
  refine lv_aload_n hx hb dL_ofProcedure_2 rfl (lv_at hl 0 rfl) ?_
  refine lv_iload_n hx hb dL_ofProcedure_3 rfl (lv_at hl 1 rfl) ?_
  refine lv_iload_n hx hb dL_ofProcedure_4 rfl (lv_at hl 2 rfl) ?_
  refine cVi [] [(ao, .inl (cJ, 1, .inr (.inl (fun _ => 0))))] (As := [.int x1, .int x2]) (ci := 8) S (c_X8_ofProcedure_1 l D cI cZ cJ o u hst ra ga H.size x1 x2 lo_x1 lo_x2) mi_X8_ofProcedure kw_6_19 rfl rfl ⟨Nat.le_of_ble_eq_true rfl, Nat.le_of_ble_eq_true rfl⟩ hP hD hK hS hA hB xW_0 rfl rfl hl.1 (Nat.le_of_ble_eq_true rfl) ⟨Nat.le_of_ble_eq_true rfl, Nat.le_of_ble_eq_true rfl⟩ dL_ofProcedure_5 (fun ce q9 H locs hz hP hD hS hce hcv hcl => ?_)
  refine vx_catch (name := "java/lang/IndexOutOfBoundsException") S.2.2.2.1 [] (⟨0, 10, 13, 13⟩ : ExceptionTableEntry) [(⟨0, 10, 17, 15⟩ : ExceptionTableEntry)] (htab.trans rfl) (fun _ h => absurd h List.not_mem_nil) (by decide) (by decide) (S.2.2.2.2 _ kw_5_176) (va_Nw.use rfl hB.c0) hce hcv hcl ?_
  have hP : va_P D vwCl ((xW o u cI cZ cJ) ++ [(ao, .inl (cJ, 1, .inr (.inl (fun _ => 0))))]) H := hP
  have hD : va_D A ((xW o u cI cZ cJ) ++ [(ao, .inl (cJ, 1, .inr (.inl (fun _ => 0))))]) := hD
  refine lv_astore (lv' := [(4, .ref q9), (0, .ref o), (1, .int x1), (2, .int x2), (3, .ref ao)]) hx hb dL_ofProcedure_13 hl (by decide) rfl (fun ls hl => ?_)
  refine lv_iconst (v := 1) hx hb dL_ofProcedure_15 (by decide) ?_
  exact vx_ret (wEnd S hr hlocks hP hD hS (Nat.le_of_ble_eq_true rfl) (Nat.le_of_ble_eq_true rfl) dL_ofProcedure_16 rfl)

set_option maxHeartbeats 8000000 in
set_option maxRecDepth 100000 in
theorem c_X9_ofProcedure_1 (l : Launch) (D : va_G) (cI cZ cJ : ClassId) (o : Nat) (q : Nat → Nat) (sz : Nat) (x1 : Int32) (x2 : Int32) (lo_x1 : 1 ≤ x1) (lo_x2 : 7 ≤ x2) : Met l yX9_ofProcedure (uW yX9_ofProcedure cX9_ofProcedure 3 (some .int)) ({ frames := 2, cells := 0, slots := 0, locals := 43 }) (va_Pc [.ref o, .int x1, .int x2] (wS D (tyL cI cZ cJ) (mW o 0 q cI cZ) sz)) (wQi (0) D (mW o 1 q cI cZ) (va_A (mW o 0 q cI cZ) sz)) 0 0 (va_A (mW o 0 q cI cZ) sz) := by
  refine wStart (lv := [(0, .ref o), (1, .int x1), (2, .int x2)]) (Qc := fun A => wQi (0) D (mW o 1 q cI cZ) A) (by decide) (Nat.le_of_ble_eq_true rfl) rfl ?_
  intro p e s m args below meth c ls A H S hr hlocks hnm hl hK hP hD hS hA
  have hx := S.1
  have hb := S.2.1
  refine lv_aload_n hx hb dX9_ofProcedure_0 rfl (lv_at hl 0 rfl) ?_
  refine lv_iconst (v := 0) hx hb dX9_ofProcedure_1 (by decide) ?_
  refine xp (ci := 9) (v := .int 0) S inX9 tyX9 tyX9_ok nmX9 rfl hK hP hD hS mW_0 0 (by decide) kw_6_148 rfl rfl rfl rfl (Nat.le_of_ble_eq_true rfl) dX9_ofProcedure_2 (fun H locs hP hD hS => ?_)
  have hP : va_P D vwCl (mW o 0 q cI cZ) H := hP
  have hD : va_D A (mW o 0 q cI cZ) := hD
  refine lv_aload_n hx hb dX9_ofProcedure_5 rfl (lv_at hl 0 rfl) ?_
  refine lv_iload_n hx hb dX9_ofProcedure_6 rfl (lv_at hl 1 rfl) ?_
  refine rdV (As := [.int x1]) (ci := 9) S (c_X9_isProcedure_1 l D cI cZ cJ o q x1 lo_x1) mi_X9_isProcedure kw_7_97 ⟨rfl, rfl⟩ ⟨Nat.le_of_ble_eq_true rfl, Nat.le_of_ble_eq_true rfl⟩ hP hK mW_0 rfl rfl hl.1 (Nat.le_of_ble_eq_true rfl) ⟨Nat.le_of_ble_eq_true rfl, Nat.le_of_ble_eq_true rfl⟩ dX9_ofProcedure_7 ?_
  refine lv_if_ne (tgt := 19) hx hb dX9_ofProcedure_10 (by decide) (fun c => absurd c (by decide)) (fun _ => ?_)
  refine lv_aload_n hx hb dX9_ofProcedure_13 rfl (lv_at hl 0 rfl) ?_
  refine lv_iconst (v := 1) hx hb dX9_ofProcedure_14 (by decide) ?_
  refine wrV (As := [.int 1]) (ci := 9) S (c_X9_no_0 l D cI cZ cJ o q H.size) mi_X9_no kw_7_104 rfl rfl ⟨Nat.le_of_ble_eq_true rfl, Nat.le_of_ble_eq_true rfl⟩ hP hD hK hS hA mW_0 rfl rfl hl.1 (Nat.le_of_ble_eq_true rfl) ⟨Nat.le_of_ble_eq_true rfl, Nat.le_of_ble_eq_true rfl⟩ dX9_ofProcedure_15 (fun H locs hz hP hD hS => ?_)
  exact wEnd S hr hlocks hP hD hS (Nat.le_of_ble_eq_true rfl) (Nat.le_of_ble_eq_true rfl) dX9_ofProcedure_18 rfl

set_option maxHeartbeats 8000000 in
set_option maxRecDepth 100000 in
theorem h_ofProcedure_2 (l : Launch) (D : va_G) (cI cZ cJ : ClassId) (o : Nat) (u : Nat → Nat) (ao : Nat) (hst : l.stackTraces = false) (ra ga : Nat → Nat) (sz : Nat) (x2 : Int32) (lo_x2 : 8 ≤ x2) : vx_Met l yL_ofProcedure (uWh yL_ofProcedure cL_ofProcedure 5 (some .int) [(0, 10, 13, 13), (0, 10, 17, 15)]) ({ frames := 8, cells := 1, slots := 6, locals := 124 }) (va_Pc [.ref o, .int 0, .int x2, .ref ao] (lS ra ga D (tyL cI cZ cJ) ((xW o u cI cZ cJ) ++ [(ao, .inl (cJ, 1, .inr (.inl (fun _ => 0))))]) sz)) (wQi (2) D ((xW o u cI cZ cJ) ++ [(ao, .inl (cJ, 1, .inr (.inl (fun _ => 0))))]) (va_A ((xW o u cI cZ cJ) ++ [(ao, .inl (cJ, 1, .inr (.inl (fun _ => 0))))]) sz)) (xN (va_A ((xW o u cI cZ cJ) ++ [(ao, .inl (cJ, 1, .inr (.inl (fun _ => 0))))]) sz)) 1 6 (va_A ((xW o u cI cZ cJ) ++ [(ao, .inl (cJ, 1, .inr (.inl (fun _ => 0))))]) sz) := by
  refine hStart (l := l) (y := yL_ofProcedure) (b := cL_ofProcedure) (n := 5) (r := (some .int)) (hh := [(0, 10, 13, 13), (0, 10, 17, 15)]) (rm := ({ frames := 8, cells := 1, slots := 6, locals := 124 })) (mc := 1) (ms := 6) (ra := ra) (ga := ga) (D := D) (tys := tyL cI cZ cJ) (ws := ((xW o u cI cZ cJ) ++ [(ao, .inl (cJ, 1, .inr (.inl (fun _ => 0))))])) (av := [.ref o, .int 0, .int x2, .ref ao]) (sz := sz) (lv := [(0, .ref o), (1, .int 0), (2, .int x2), (3, .ref ao)]) (Qc := fun A => wQi (2) D ((xW o u cI cZ cJ) ++ [(ao, .inl (cJ, 1, .inr (.inl (fun _ => 0))))]) A) (by decide) (Nat.le_of_ble_eq_true rfl) rfl ?_
  intro p e s m args below meth c ls A H S hr hlocks htab hl hK hP hD hS hA hB hC
  have hx := S.1
  have hb := S.2.1
  refine lv_aload_n hx hb dL_ofProcedure_0 rfl (lv_at hl 3 rfl) ?_
  refine lv_iconst (v := 0) hx hb dL_ofProcedure_1 (by decide) ?_
  refine lv_aload_n hx hb dL_ofProcedure_2 rfl (lv_at hl 0 rfl) ?_
  refine lv_iload_n hx hb dL_ofProcedure_3 rfl (lv_at hl 1 rfl) ?_
  refine lv_iload_n hx hb dL_ofProcedure_4 rfl (lv_at hl 2 rfl) ?_
  refine cVi [] [(ao, .inl (cJ, 1, .inr (.inl (fun _ => 0))))] (As := [.int 0, .int x2]) (ci := 8) S (c_X8_ofProcedure_2 l D cI cZ cJ o u hst ra ga H.size x2 lo_x2) mi_X8_ofProcedure kw_6_19 rfl rfl ⟨Nat.le_of_ble_eq_true rfl, Nat.le_of_ble_eq_true rfl⟩ hP hD hK hS hA hB xW_0 rfl rfl hl.1 (Nat.le_of_ble_eq_true rfl) ⟨Nat.le_of_ble_eq_true rfl, Nat.le_of_ble_eq_true rfl⟩ dL_ofProcedure_5 (fun ce q9 H locs hz hP hD hS hce hcv hcl => ?_)
  refine vx_catch (name := "java/lang/IllegalArgumentException") S.2.2.2.1 [(⟨0, 10, 13, 13⟩ : ExceptionTableEntry)] (⟨0, 10, 17, 15⟩ : ExceptionTableEntry) [] (htab.trans rfl) (List.forall_mem_cons.mpr ⟨Or.inr ⟨by decide, "java/lang/IndexOutOfBoundsException", S.2.2.2.2 _ kw_5_176, hC.1⟩, (fun _ h => absurd h List.not_mem_nil)⟩) (by decide) (by decide) (S.2.2.2.2 _ kw_5_177) (va_Nw.use rfl hB.c1) hce hcv hcl ?_
  have hP : va_P D vwCl ((xW o u cI cZ cJ) ++ [(ao, .inl (cJ, 1, .inr (.inl (fun _ => 0))))]) H := hP
  have hD : va_D A ((xW o u cI cZ cJ) ++ [(ao, .inl (cJ, 1, .inr (.inl (fun _ => 0))))]) := hD
  refine lv_astore (lv' := [(4, .ref q9), (0, .ref o), (1, .int 0), (2, .int x2), (3, .ref ao)]) hx hb dL_ofProcedure_17 hl (by decide) rfl (fun ls hl => ?_)
  refine lv_iconst (v := 2) hx hb dL_ofProcedure_19 (by decide) ?_
  exact vx_ret (wEnd S hr hlocks hP hD hS (Nat.le_of_ble_eq_true rfl) (Nat.le_of_ble_eq_true rfl) dL_ofProcedure_20 rfl)

set_option maxHeartbeats 8000000 in
set_option maxRecDepth 100000 in
theorem c_X9_isIn_24 (l : Launch) (D : va_G) (cI cZ cJ : ClassId) (o : Nat) (q : Nat → Nat) (x2 : Int32) (lo_x2 : 8 ≤ x2) : Met l yX9_isIn (uW yX9_isIn cX9_isIn 3 (some .boolean)) ({ frames := 0, cells := 0, slots := 0, locals := 0 }) (va_Pc [.int x2, .int 0, .int 7] (pS D (tyL cI cZ cJ) (mW o 0 q cI cZ))) (QcRead (0)) 0 0 (fun _ => False) := by
  refine rdStart (lv := [(0, .int x2), (1, .int 0), (2, .int 7)]) (by decide) (Nat.le_of_ble_eq_true rfl) rfl ?_
  intro p e s m args below meth c ls S hr hlocks hl hP hK
  have hx := S.1
  have hb := S.2.1
  refine lv_iload_n hx hb dX9_isIn_0 rfl (lv_at hl 0 rfl) ?_
  refine lv_iload_n hx hb dX9_isIn_1 rfl (lv_at hl 1 rfl) ?_
  refine lv_icmp_lt (tgt := 14) hx hb dX9_isIn_2 (by decide) (fun c => absurd c (b_nlt lo_x2 (by decide))) (fun _ => ?_)
  refine lv_iload_n hx hb dX9_isIn_5 rfl (lv_at hl 0 rfl) ?_
  refine lv_iload_n hx hb dX9_isIn_6 rfl (lv_at hl 2 rfl) ?_
  refine lv_icmp_gt (tgt := 14) hx hb dX9_isIn_7 (by decide) (fun _ => ?_) (fun c => absurd (b_gt lo_x2 (by decide)) c)
  refine lv_iconst (v := 0) hx hb dX9_isIn_14 (by decide) ?_
  exact rdEndZ S hr hlocks dX9_isIn_15 rfl rfl

set_option maxHeartbeats 8000000 in
set_option maxRecDepth 100000 in
theorem c_X9_ofProcedure_2 (l : Launch) (D : va_G) (cI cZ cJ : ClassId) (o : Nat) (q : Nat → Nat) (sz : Nat) (x2 : Int32) (lo_x2 : 8 ≤ x2) : Met l yX9_ofProcedure (uW yX9_ofProcedure cX9_ofProcedure 3 (some .int)) ({ frames := 2, cells := 0, slots := 0, locals := 43 }) (va_Pc [.ref o, .int 0, .int x2] (wS D (tyL cI cZ cJ) (mW o 0 q cI cZ) sz)) (wQi (0) D (mW o 2 q cI cZ) (va_A (mW o 0 q cI cZ) sz)) 0 0 (va_A (mW o 0 q cI cZ) sz) := by
  refine wStart (lv := [(0, .ref o), (1, .int 0), (2, .int x2)]) (Qc := fun A => wQi (0) D (mW o 2 q cI cZ) A) (by decide) (Nat.le_of_ble_eq_true rfl) rfl ?_
  intro p e s m args below meth c ls A H S hr hlocks hnm hl hK hP hD hS hA
  have hx := S.1
  have hb := S.2.1
  refine lv_aload_n hx hb dX9_ofProcedure_0 rfl (lv_at hl 0 rfl) ?_
  refine lv_iconst (v := 0) hx hb dX9_ofProcedure_1 (by decide) ?_
  refine xp (ci := 9) (v := .int 0) S inX9 tyX9 tyX9_ok nmX9 rfl hK hP hD hS mW_0 0 (by decide) kw_6_148 rfl rfl rfl rfl (Nat.le_of_ble_eq_true rfl) dX9_ofProcedure_2 (fun H locs hP hD hS => ?_)
  have hP : va_P D vwCl (mW o 0 q cI cZ) H := hP
  have hD : va_D A (mW o 0 q cI cZ) := hD
  refine lv_aload_n hx hb dX9_ofProcedure_5 rfl (lv_at hl 0 rfl) ?_
  refine lv_iload_n hx hb dX9_ofProcedure_6 rfl (lv_at hl 1 rfl) ?_
  refine rdV (As := [.int 0]) (ci := 9) S (c_X9_isProcedure_2 l D cI cZ cJ o q) mi_X9_isProcedure kw_7_97 ⟨rfl, rfl⟩ ⟨Nat.le_of_ble_eq_true rfl, Nat.le_of_ble_eq_true rfl⟩ hP hK mW_0 rfl rfl hl.1 (Nat.le_of_ble_eq_true rfl) ⟨Nat.le_of_ble_eq_true rfl, Nat.le_of_ble_eq_true rfl⟩ dX9_ofProcedure_7 ?_
  refine lv_if_ne (tgt := 19) hx hb dX9_ofProcedure_10 (by decide) (fun _ => ?_) (fun c => absurd c (by decide))
  refine lv_iload_n hx hb dX9_ofProcedure_19 rfl (lv_at hl 2 rfl) ?_
  refine lv_iconst (v := 0) hx hb dX9_ofProcedure_20 (by decide) ?_
  refine lv_bipush (v := 7) hx hb dX9_ofProcedure_21 (by decide) ?_
  refine rdS (As := [.int x2, .int 0, .int 7]) S (c_X9_isIn_24 l D cI cZ cJ o q x2 lo_x2) ms_X9_isIn kw_7_101 ⟨rfl, rfl⟩ ⟨Nat.le_of_ble_eq_true rfl, Nat.le_of_ble_eq_true rfl⟩ hP hK hl.1 (Nat.le_of_ble_eq_true rfl) ⟨Nat.le_of_ble_eq_true rfl, Nat.le_of_ble_eq_true rfl⟩ dX9_ofProcedure_23 ?_
  refine lv_if_eq (tgt := 38) hx hb dX9_ofProcedure_26 (by decide) (fun _ => ?_) (fun c => absurd c (by decide))
  refine lv_aload_n hx hb dX9_ofProcedure_38 rfl (lv_at hl 0 rfl) ?_
  refine lv_iconst (v := 2) hx hb dX9_ofProcedure_39 (by decide) ?_
  refine wrV (As := [.int 2]) (ci := 9) S (c_X9_no_1 l D cI cZ cJ o q H.size) mi_X9_no kw_7_104 rfl rfl ⟨Nat.le_of_ble_eq_true rfl, Nat.le_of_ble_eq_true rfl⟩ hP hD hK hS hA mW_0 rfl rfl hl.1 (Nat.le_of_ble_eq_true rfl) ⟨Nat.le_of_ble_eq_true rfl, Nat.le_of_ble_eq_true rfl⟩ dX9_ofProcedure_40 (fun H locs hz hP hD hS => ?_)
  exact wEnd S hr hlocks hP hD hS (Nat.le_of_ble_eq_true rfl) (Nat.le_of_ble_eq_true rfl) dX9_ofProcedure_43 rfl

set_option maxHeartbeats 8000000 in
set_option maxRecDepth 100000 in
theorem h_ofProcedure_3 (l : Launch) (D : va_G) (cI cZ cJ : ClassId) (o : Nat) (u : Nat → Nat) (ao : Nat) (hst : l.stackTraces = false) (ra ga : Nat → Nat) (sz : Nat) : vx_Met l yL_ofProcedure (uWh yL_ofProcedure cL_ofProcedure 5 (some .int) [(0, 10, 13, 13), (0, 10, 17, 15)]) ({ frames := 5, cells := 0, slots := 0, locals := 107 }) (va_Pc [.ref o, .int 0, .int 7, .ref ao] (lS ra ga D (tyL cI cZ cJ) ((xW o u cI cZ cJ) ++ [(ao, .inl (cJ, 1, .inr (.inl (fun _ => 0))))]) sz)) (wQi (0) D ((((((((xW o u cI cZ cJ).set 0 (o, .inr (8, ((xF u).set 9 (.int 0))))).set 32 ((u 31), .inl (cZ, 10, .inl (upd (upd (upd (upd (upd (upd (upd (upd (upd (upd (fun _ => 0) (0 : Int32).toNatClampNeg 0) (1 : Int32).toNatClampNeg 0) (2 : Int32).toNatClampNeg 0) (3 : Int32).toNatClampNeg 0) (4 : Int32).toNatClampNeg 0) (5 : Int32).toNatClampNeg 0) (6 : Int32).toNatClampNeg 0) (7 : Int32).toNatClampNeg 0) (8 : Int32).toNatClampNeg 0) (9 : Int32).toNatClampNeg 0)))).set 34 ((u 33), .inr (2, ([.ref (u 0), .ref (u 12), .ref (u 19), .int 0, .ref (u 34), .ref (u 35), .ref (u 36), .ref (u 37), .int 0].set 3 (.int 1))))).set 35 ((u 34), .inl (cI, 120, .inl (upd (fun _ => 0) (0 : Int32).toNatClampNeg 10)))).set 36 ((u 35), .inl (cI, 120, .inl (upd (fun _ => 0) (0 : Int32).toNatClampNeg 0)))).set 37 ((u 36), .inl (cI, 120, .inl (upd (fun _ => 0) (0 : Int32).toNatClampNeg (-1))))) ++ [(ao, .inl (cJ, 1, .inr (.inl (vp_updL (fun _ => 0) (0 : Int32).toNatClampNeg 0))))]) (va_A ((xW o u cI cZ cJ) ++ [(ao, .inl (cJ, 1, .inr (.inl (fun _ => 0))))]) sz)) (xN (va_A ((xW o u cI cZ cJ) ++ [(ao, .inl (cJ, 1, .inr (.inl (fun _ => 0))))]) sz)) 0 0 (va_A ((xW o u cI cZ cJ) ++ [(ao, .inl (cJ, 1, .inr (.inl (fun _ => 0))))]) sz) := by
  refine hStart (l := l) (y := yL_ofProcedure) (b := cL_ofProcedure) (n := 5) (r := (some .int)) (hh := [(0, 10, 13, 13), (0, 10, 17, 15)]) (rm := ({ frames := 5, cells := 0, slots := 0, locals := 107 })) (mc := 0) (ms := 0) (ra := ra) (ga := ga) (D := D) (tys := tyL cI cZ cJ) (ws := ((xW o u cI cZ cJ) ++ [(ao, .inl (cJ, 1, .inr (.inl (fun _ => 0))))])) (av := [.ref o, .int 0, .int 7, .ref ao]) (sz := sz) (lv := [(0, .ref o), (1, .int 0), (2, .int 7), (3, .ref ao)]) (Qc := fun A => wQi (0) D ((((((((xW o u cI cZ cJ).set 0 (o, .inr (8, ((xF u).set 9 (.int 0))))).set 32 ((u 31), .inl (cZ, 10, .inl (upd (upd (upd (upd (upd (upd (upd (upd (upd (upd (fun _ => 0) (0 : Int32).toNatClampNeg 0) (1 : Int32).toNatClampNeg 0) (2 : Int32).toNatClampNeg 0) (3 : Int32).toNatClampNeg 0) (4 : Int32).toNatClampNeg 0) (5 : Int32).toNatClampNeg 0) (6 : Int32).toNatClampNeg 0) (7 : Int32).toNatClampNeg 0) (8 : Int32).toNatClampNeg 0) (9 : Int32).toNatClampNeg 0)))).set 34 ((u 33), .inr (2, ([.ref (u 0), .ref (u 12), .ref (u 19), .int 0, .ref (u 34), .ref (u 35), .ref (u 36), .ref (u 37), .int 0].set 3 (.int 1))))).set 35 ((u 34), .inl (cI, 120, .inl (upd (fun _ => 0) (0 : Int32).toNatClampNeg 10)))).set 36 ((u 35), .inl (cI, 120, .inl (upd (fun _ => 0) (0 : Int32).toNatClampNeg 0)))).set 37 ((u 36), .inl (cI, 120, .inl (upd (fun _ => 0) (0 : Int32).toNatClampNeg (-1))))) ++ [(ao, .inl (cJ, 1, .inr (.inl (vp_updL (fun _ => 0) (0 : Int32).toNatClampNeg 0))))]) A) (by decide) (Nat.le_of_ble_eq_true rfl) rfl ?_
  intro p e s m args below meth c ls A H S hr hlocks htab hl hK hP hD hS hA hB hC
  have hx := S.1
  have hb := S.2.1
  refine lv_aload_n hx hb dL_ofProcedure_0 rfl (lv_at hl 3 rfl) ?_
  refine lv_iconst (v := 0) hx hb dL_ofProcedure_1 (by decide) ?_
  refine lv_aload_n hx hb dL_ofProcedure_2 rfl (lv_at hl 0 rfl) ?_
  refine lv_iload_n hx hb dL_ofProcedure_3 rfl (lv_at hl 1 rfl) ?_
  refine lv_iload_n hx hb dL_ofProcedure_4 rfl (lv_at hl 2 rfl) ?_
  refine faVi [] [(ao, .inl (cJ, 1, .inr (.inl (fun _ => 0))))] (As := [.int 0, .int 7]) (ci := 8) S (c_X8_ofProcedure_3 l D cI cZ cJ o u ra ga H.size) mi_X8_ofProcedure kw_6_19 rfl rfl ⟨Nat.le_of_ble_eq_true rfl, Nat.le_of_ble_eq_true rfl⟩ hP hD hK hS hA hB xW_0 rfl rfl hl.1 (Nat.le_of_ble_eq_true rfl) ⟨Nat.le_of_ble_eq_true rfl, Nat.le_of_ble_eq_true rfl⟩ dL_ofProcedure_5 (fun H locs hz hP hD hS => ?_)
  have hP : va_P D vwCl ((((((((xW o u cI cZ cJ).set 0 (o, .inr (8, ((xF u).set 9 (.int 0))))).set 32 ((u 31), .inl (cZ, 10, .inl (upd (upd (upd (upd (upd (upd (upd (upd (upd (upd (fun _ => 0) (0 : Int32).toNatClampNeg 0) (1 : Int32).toNatClampNeg 0) (2 : Int32).toNatClampNeg 0) (3 : Int32).toNatClampNeg 0) (4 : Int32).toNatClampNeg 0) (5 : Int32).toNatClampNeg 0) (6 : Int32).toNatClampNeg 0) (7 : Int32).toNatClampNeg 0) (8 : Int32).toNatClampNeg 0) (9 : Int32).toNatClampNeg 0)))).set 34 ((u 33), .inr (2, ([.ref (u 0), .ref (u 12), .ref (u 19), .int 0, .ref (u 34), .ref (u 35), .ref (u 36), .ref (u 37), .int 0].set 3 (.int 1))))).set 35 ((u 34), .inl (cI, 120, .inl (upd (fun _ => 0) (0 : Int32).toNatClampNeg 10)))).set 36 ((u 35), .inl (cI, 120, .inl (upd (fun _ => 0) (0 : Int32).toNatClampNeg 0)))).set 37 ((u 36), .inl (cI, 120, .inl (upd (fun _ => 0) (0 : Int32).toNatClampNeg (-1))))) ++ [(ao, .inl (cJ, 1, .inr (.inl (fun _ => 0))))]) H := hP
  have hD : va_D A ((((((((xW o u cI cZ cJ).set 0 (o, .inr (8, ((xF u).set 9 (.int 0))))).set 32 ((u 31), .inl (cZ, 10, .inl (upd (upd (upd (upd (upd (upd (upd (upd (upd (upd (fun _ => 0) (0 : Int32).toNatClampNeg 0) (1 : Int32).toNatClampNeg 0) (2 : Int32).toNatClampNeg 0) (3 : Int32).toNatClampNeg 0) (4 : Int32).toNatClampNeg 0) (5 : Int32).toNatClampNeg 0) (6 : Int32).toNatClampNeg 0) (7 : Int32).toNatClampNeg 0) (8 : Int32).toNatClampNeg 0) (9 : Int32).toNatClampNeg 0)))).set 34 ((u 33), .inr (2, ([.ref (u 0), .ref (u 12), .ref (u 19), .int 0, .ref (u 34), .ref (u 35), .ref (u 36), .ref (u 37), .int 0].set 3 (.int 1))))).set 35 ((u 34), .inl (cI, 120, .inl (upd (fun _ => 0) (0 : Int32).toNatClampNeg 10)))).set 36 ((u 35), .inl (cI, 120, .inl (upd (fun _ => 0) (0 : Int32).toNatClampNeg 0)))).set 37 ((u 36), .inl (cI, 120, .inl (upd (fun _ => 0) (0 : Int32).toNatClampNeg (-1))))) ++ [(ao, .inl (cJ, 1, .inr (.inl (fun _ => 0))))]) := hD
  refine lv_i2l (v := 0) hx hb dL_ofProcedure_8 (by decide) ?_
  refine xlast (t0 := 2) S hK hP hD hS (q0 := 88) rfl rfl (vin rfl) dL_ofProcedure_9 (fun H locs hP hD hS => ?_)
  have hP : va_P D vwCl ((((((((xW o u cI cZ cJ).set 0 (o, .inr (8, ((xF u).set 9 (.int 0))))).set 32 ((u 31), .inl (cZ, 10, .inl (upd (upd (upd (upd (upd (upd (upd (upd (upd (upd (fun _ => 0) (0 : Int32).toNatClampNeg 0) (1 : Int32).toNatClampNeg 0) (2 : Int32).toNatClampNeg 0) (3 : Int32).toNatClampNeg 0) (4 : Int32).toNatClampNeg 0) (5 : Int32).toNatClampNeg 0) (6 : Int32).toNatClampNeg 0) (7 : Int32).toNatClampNeg 0) (8 : Int32).toNatClampNeg 0) (9 : Int32).toNatClampNeg 0)))).set 34 ((u 33), .inr (2, ([.ref (u 0), .ref (u 12), .ref (u 19), .int 0, .ref (u 34), .ref (u 35), .ref (u 36), .ref (u 37), .int 0].set 3 (.int 1))))).set 35 ((u 34), .inl (cI, 120, .inl (upd (fun _ => 0) (0 : Int32).toNatClampNeg 10)))).set 36 ((u 35), .inl (cI, 120, .inl (upd (fun _ => 0) (0 : Int32).toNatClampNeg 0)))).set 37 ((u 36), .inl (cI, 120, .inl (upd (fun _ => 0) (0 : Int32).toNatClampNeg (-1))))) ++ [(ao, .inl (cJ, 1, .inr (.inl (vp_updL (fun _ => 0) (0 : Int32).toNatClampNeg 0))))]) H := hP
  have hD : va_D A ((((((((xW o u cI cZ cJ).set 0 (o, .inr (8, ((xF u).set 9 (.int 0))))).set 32 ((u 31), .inl (cZ, 10, .inl (upd (upd (upd (upd (upd (upd (upd (upd (upd (upd (fun _ => 0) (0 : Int32).toNatClampNeg 0) (1 : Int32).toNatClampNeg 0) (2 : Int32).toNatClampNeg 0) (3 : Int32).toNatClampNeg 0) (4 : Int32).toNatClampNeg 0) (5 : Int32).toNatClampNeg 0) (6 : Int32).toNatClampNeg 0) (7 : Int32).toNatClampNeg 0) (8 : Int32).toNatClampNeg 0) (9 : Int32).toNatClampNeg 0)))).set 34 ((u 33), .inr (2, ([.ref (u 0), .ref (u 12), .ref (u 19), .int 0, .ref (u 34), .ref (u 35), .ref (u 36), .ref (u 37), .int 0].set 3 (.int 1))))).set 35 ((u 34), .inl (cI, 120, .inl (upd (fun _ => 0) (0 : Int32).toNatClampNeg 10)))).set 36 ((u 35), .inl (cI, 120, .inl (upd (fun _ => 0) (0 : Int32).toNatClampNeg 0)))).set 37 ((u 36), .inl (cI, 120, .inl (upd (fun _ => 0) (0 : Int32).toNatClampNeg (-1))))) ++ [(ao, .inl (cJ, 1, .inr (.inl (vp_updL (fun _ => 0) (0 : Int32).toNatClampNeg 0))))]) := hD
  refine lv_goto (tgt := 21) hx hb dL_ofProcedure_10 (by decide) ?_
  refine lv_iconst (v := 0) hx hb dL_ofProcedure_21 (by decide) ?_
  exact vx_ret (wEnd S hr hlocks hP hD hS (Nat.le_of_ble_eq_true rfl) (Nat.le_of_ble_eq_true rfl) dL_ofProcedure_22 rfl)

set_option maxHeartbeats 8000000 in
set_option maxRecDepth 100000 in
theorem c_X9_isIn_25 (l : Launch) (D : va_G) (cI cZ cJ : ClassId) (o : Nat) (q : Nat → Nat) : Met l yX9_isIn (uW yX9_isIn cX9_isIn 3 (some .boolean)) ({ frames := 0, cells := 0, slots := 0, locals := 0 }) (va_Pc [.int 7, .int 0, .int 7] (pS D (tyL cI cZ cJ) (mW o 0 q cI cZ))) (QcRead (1)) 0 0 (fun _ => False) := by
  refine rdStart (lv := [(0, .int 7), (1, .int 0), (2, .int 7)]) (by decide) (Nat.le_of_ble_eq_true rfl) rfl ?_
  intro p e s m args below meth c ls S hr hlocks hl hP hK
  have hx := S.1
  have hb := S.2.1
  refine lv_iload_n hx hb dX9_isIn_0 rfl (lv_at hl 0 rfl) ?_
  refine lv_iload_n hx hb dX9_isIn_1 rfl (lv_at hl 1 rfl) ?_
  refine lv_icmp_lt (tgt := 14) hx hb dX9_isIn_2 (by decide) (fun c => absurd c (by decide)) (fun _ => ?_)
  refine lv_iload_n hx hb dX9_isIn_5 rfl (lv_at hl 0 rfl) ?_
  refine lv_iload_n hx hb dX9_isIn_6 rfl (lv_at hl 2 rfl) ?_
  refine lv_icmp_gt (tgt := 14) hx hb dX9_isIn_7 (by decide) (fun c => absurd c (by decide)) (fun _ => ?_)
  refine lv_iconst (v := 1) hx hb dX9_isIn_10 (by decide) ?_
  refine lv_goto (tgt := 15) hx hb dX9_isIn_11 (by decide) ?_
  exact rdEndZ S hr hlocks dX9_isIn_15 rfl rfl

set_option maxHeartbeats 8000000 in
set_option maxRecDepth 100000 in
theorem c_X9_lookFor_0 (l : Launch) (D : va_G) (cI cZ cJ : ClassId) (o : Nat) (q : Nat → Nat) (sz : Nat) : Met l yX9_lookFor (uW yX9_lookFor cX9_lookFor 10 (some .int)) ({ frames := 0, cells := 1, slots := 111, locals := 0 }) (va_Pc [.ref o, .int (-1), .int 0] (wS D (tyL cI cZ cJ) (mW o 0 q cI cZ) sz)) (wQi (1) D (mW o 0 q cI cZ) (va_A (mW o 0 q cI cZ) sz)) 1 111 (va_A (mW o 0 q cI cZ) sz) := by
  refine wStart (lv := [(0, .ref o), (1, .int (-1)), (2, .int 0)]) (Qc := fun A => wQi (1) D (mW o 0 q cI cZ) A) (by decide) (Nat.le_of_ble_eq_true rfl) rfl ?_
  intro p e s m args below meth c ls A H S hr hlocks hnm hl hK hP hD hS hA
  have hx := S.1
  have hb := S.2.1
  refine lv_iconst (v := 0) hx hb dX9_lookFor_0 (by decide) ?_
  refine lv_istore_n (lv' := [(3, .int 0), (0, .ref o), (1, .int (-1)), (2, .int 0)]) hx hb dX9_lookFor_1 rfl hl (by decide) rfl (fun ls hl => ?_)
  refine lv_bipush (v := 111) hx hb dX9_lookFor_2 (by decide) ?_
  refine xnewa (ty := .int) (t0 := 0) (N := 111) (a0 := (111, .inl (fun _ => 0))) S kw_1_100 rfl (Or.inl rfl) hK hP hD hS hA rfl (fun _ => rfl) (by decide) (by decide) (by decide) (Nat.le_of_ble_eq_true rfl) (Nat.le_of_ble_eq_true rfl) dX9_lookFor_4 (fun n1 H hP hD hS => ?_)
  refine lv_astore (lv' := [(4, .ref n1), (3, .int 0), (0, .ref o), (1, .int (-1)), (2, .int 0)]) hx hb dX9_lookFor_6 hl (by decide) rfl (fun ls hl => ?_)
  refine lv_iconst (v := 0) hx hb dX9_lookFor_8 (by decide) ?_
  refine lv_istore (lv' := [(5, .int 0), (4, .ref n1), (3, .int 0), (0, .ref o), (1, .int (-1)), (2, .int 0)]) hx hb dX9_lookFor_9 hl (by decide) rfl (fun ls hl => ?_)
  refine lv_iload hx hb dX9_lookFor_11 (lv_at hl 0 rfl) ?_
  refine lv_aload_n hx hb dX9_lookFor_13 rfl (lv_at hl 3 rfl) ?_
  refine xg (ci := 9) S inX9 rfl hK hP (q0 := 0) rfl 1 (by decide) mF_1 kw_6_149 rfl dX9_lookFor_14 ?_
  refine lv_icmp_ge (tgt := 200) hx hb dX9_lookFor_17 (by decide) (fun c => absurd c (by decide)) (fun _ => ?_)
  refine lv_aload_n hx hb dX9_lookFor_20 rfl (lv_at hl 3 rfl) ?_
  refine xg (ci := 9) S inX9 rfl hK hP (q0 := 0) rfl 7 (by decide) mF_7 kw_6_155 rfl dX9_lookFor_21 ?_
  refine lv_iload hx hb dX9_lookFor_24 (lv_at hl 0 rfl) ?_
  refine xiald (t0 := 0) (v := (-1)) S hK hP (q0 := 6) rfl rfl (vin rfl) rfl dX9_lookFor_26 ?_
  refine lv_iconst (v := (-1)) hx hb dX9_lookFor_27 (by decide) ?_
  refine lv_icmp_ne (tgt := 63) hx hb dX9_lookFor_28 (by decide) (fun c => absurd c (by decide)) (fun _ => ?_)
  refine lv_iload_n hx hb dX9_lookFor_31 rfl (lv_at hl 2 rfl) ?_
  refine lv_iload_n hx hb dX9_lookFor_32 rfl (lv_at hl 4 rfl) ?_
  refine lv_icmp_ne (tgt := 57) hx hb dX9_lookFor_33 (by decide) (fun _ => ?_) (fun c => absurd c (by decide))
  refine lv_iinc (v := 1) (lv' := [(3, .int 1), (5, .int 0), (4, .ref n1), (0, .ref o), (1, .int (-1)), (2, .int 0)]) hx hb dX9_lookFor_57 hl (k := 2) rfl (by decide) (by decide) rfl (fun ls hl => ?_)
  refine lv_goto (tgt := 194) hx hb dX9_lookFor_60 (by decide) ?_
  refine lv_iinc (v := 1) (lv' := [(5, .int 1), (3, .int 1), (4, .ref n1), (0, .ref o), (1, .int (-1)), (2, .int 0)]) hx hb dX9_lookFor_194 hl (k := 1) rfl (by decide) (by decide) rfl (fun ls hl => ?_)
  refine lv_goto (tgt := 11) hx hb dX9_lookFor_197 (by decide) ?_
  refine lv_iload hx hb dX9_lookFor_11 (lv_at hl 0 rfl) ?_
  refine lv_aload_n hx hb dX9_lookFor_13 rfl (lv_at hl 3 rfl) ?_
  refine xg (ci := 9) S inX9 rfl hK hP (q0 := 0) rfl 1 (by decide) mF_1 kw_6_149 rfl dX9_lookFor_14 ?_
  refine lv_icmp_ge (tgt := 200) hx hb dX9_lookFor_17 (by decide) (fun _ => ?_) (fun c => absurd c (by decide))
  refine lv_iload_n hx hb dX9_lookFor_200 rfl (lv_at hl 1 rfl) ?_
  have hP := va_Pl (ws := (mW o 0 q cI cZ)) (x := [(n1, .inl (cI, 111, .inl (fun _ => 0)))]) hP
  have hD := va_Dl (ws := (mW o 0 q cI cZ)) (x := [(n1, .inl (cI, 111, .inl (fun _ => 0)))]) hD
  exact wEnd S hr hlocks hP hD hS (Nat.le_of_ble_eq_true rfl) (Nat.le_of_ble_eq_true rfl) dX9_lookFor_201 rfl

set_option maxHeartbeats 8000000 in
set_option maxRecDepth 100000 in
theorem c_X9_faults_0 (l : Launch) (D : va_G) (cI cZ cJ : ClassId) (o : Nat) (q : Nat → Nat) (sz : Nat) : Met l yX9_faults (uW yX9_faults cX9_faults 1 (some .int)) ({ frames := 1, cells := 1, slots := 111, locals := 29 }) (va_Pc [.ref o] (wS D (tyL cI cZ cJ) (mW o 0 q cI cZ) sz)) (wQi (1) D (mW o 0 q cI cZ) (va_A (mW o 0 q cI cZ) sz)) 1 111 (va_A (mW o 0 q cI cZ) sz) := by
  refine wStart (lv := [(0, .ref o)]) (Qc := fun A => wQi (1) D (mW o 0 q cI cZ) A) (by decide) (Nat.le_of_ble_eq_true rfl) rfl ?_
  intro p e s m args below meth c ls A H S hr hlocks hnm hl hK hP hD hS hA
  have hx := S.1
  have hb := S.2.1
  refine lv_aload_n hx hb dX9_faults_0 rfl (lv_at hl 0 rfl) ?_
  refine lv_iconst (v := (-1)) hx hb dX9_faults_1 (by decide) ?_
  refine lv_iconst (v := 0) hx hb dX9_faults_2 (by decide) ?_
  refine wrV (As := [.int (-1), .int 0]) (ci := 9) S (c_X9_lookFor_0 l D cI cZ cJ o q H.size) mi_X9_lookFor kw_7_234 rfl rfl ⟨Nat.le_of_ble_eq_true rfl, Nat.le_of_ble_eq_true rfl⟩ hP hD hK hS hA mW_0 rfl rfl hl.1 (Nat.le_of_ble_eq_true rfl) ⟨Nat.le_of_ble_eq_true rfl, Nat.le_of_ble_eq_true rfl⟩ dX9_faults_3 (fun H locs hz hP hD hS => ?_)
  exact wEnd S hr hlocks hP hD hS (Nat.le_of_ble_eq_true rfl) (Nat.le_of_ble_eq_true rfl) dX9_faults_6 rfl

set_option maxHeartbeats 8000000 in
set_option maxRecDepth 100000 in
theorem c_X9_ofProcedureNow_0 (l : Launch) (D : va_G) (cI cZ cJ : ClassId) (o : Nat) (q : Nat → Nat) (sz : Nat) : Met l yX9_ofProcedureNow (uW yX9_ofProcedureNow cX9_ofProcedureNow 3 (some .int)) ({ frames := 2, cells := 1, slots := 111, locals := 49 }) (va_Pc [.ref o, .int 0, .int 7] (wS D (tyL cI cZ cJ) (mW o 0 q cI cZ) sz)) (wQi (0) D (mW o 0 q cI cZ) (va_A (mW o 0 q cI cZ) sz)) 1 111 (va_A (mW o 0 q cI cZ) sz) := by
  refine wStart (lv := [(0, .ref o), (1, .int 0), (2, .int 7)]) (Qc := fun A => wQi (0) D (mW o 0 q cI cZ) A) (by decide) (Nat.le_of_ble_eq_true rfl) rfl ?_
  intro p e s m args below meth c ls A H S hr hlocks hnm hl hK hP hD hS hA
  have hx := S.1
  have hb := S.2.1
  refine lv_iload_n hx hb dX9_ofProcedureNow_0 rfl (lv_at hl 2 rfl) ?_
  refine lv_tableOut (tgt := 99) hx hb dX9_ofProcedureNow_1 (by decide) (by decide) ?_
  refine lv_aload_n hx hb dX9_ofProcedureNow_99 rfl (lv_at hl 0 rfl) ?_
  refine wrV (As := []) (ci := 9) S (c_X9_faults_0 l D cI cZ cJ o q H.size) mi_X9_faults kw_7_230 rfl rfl ⟨Nat.le_of_ble_eq_true rfl, Nat.le_of_ble_eq_true rfl⟩ hP hD hK hS hA mW_0 rfl rfl hl.1 (Nat.le_of_ble_eq_true rfl) ⟨Nat.le_of_ble_eq_true rfl, Nat.le_of_ble_eq_true rfl⟩ dX9_ofProcedureNow_100 (fun H locs hz hP hD hS => ?_)
  refine lv_if_le (tgt := 110) hx hb dX9_ofProcedureNow_103 (by decide) (fun c => absurd c (by decide)) (fun _ => ?_)
  refine lv_iconst (v := 0) hx hb dX9_ofProcedureNow_106 (by decide) ?_
  refine lv_goto (tgt := 119) hx hb dX9_ofProcedureNow_107 (by decide) ?_
  exact wEnd S hr hlocks hP hD hS (Nat.le_of_ble_eq_true rfl) (Nat.le_of_ble_eq_true rfl) dX9_ofProcedureNow_119 rfl

set_option maxHeartbeats 8000000 in
set_option maxRecDepth 100000 in
theorem c_X9_ofProcedure_3 (l : Launch) (D : va_G) (cI cZ cJ : ClassId) (o : Nat) (q : Nat → Nat) (sz : Nat) : Met l yX9_ofProcedure (uW yX9_ofProcedure cX9_ofProcedure 3 (some .int)) ({ frames := 3, cells := 1, slots := 111, locals := 71 }) (va_Pc [.ref o, .int 0, .int 7] (wS D (tyL cI cZ cJ) (mW o 0 q cI cZ) sz)) (wQi (0) D (mW o 0 q cI cZ) (va_A (mW o 0 q cI cZ) sz)) 1 111 (va_A (mW o 0 q cI cZ) sz) := by
  refine wStart (lv := [(0, .ref o), (1, .int 0), (2, .int 7)]) (Qc := fun A => wQi (0) D (mW o 0 q cI cZ) A) (by decide) (Nat.le_of_ble_eq_true rfl) rfl ?_
  intro p e s m args below meth c ls A H S hr hlocks hnm hl hK hP hD hS hA
  have hx := S.1
  have hb := S.2.1
  refine lv_aload_n hx hb dX9_ofProcedure_0 rfl (lv_at hl 0 rfl) ?_
  refine lv_iconst (v := 0) hx hb dX9_ofProcedure_1 (by decide) ?_
  refine xp (ci := 9) (v := .int 0) S inX9 tyX9 tyX9_ok nmX9 rfl hK hP hD hS mW_0 0 (by decide) kw_6_148 rfl rfl rfl rfl (Nat.le_of_ble_eq_true rfl) dX9_ofProcedure_2 (fun H locs hP hD hS => ?_)
  have hP : va_P D vwCl (mW o 0 q cI cZ) H := hP
  have hD : va_D A (mW o 0 q cI cZ) := hD
  refine lv_aload_n hx hb dX9_ofProcedure_5 rfl (lv_at hl 0 rfl) ?_
  refine lv_iload_n hx hb dX9_ofProcedure_6 rfl (lv_at hl 1 rfl) ?_
  refine rdV (As := [.int 0]) (ci := 9) S (c_X9_isProcedure_2 l D cI cZ cJ o q) mi_X9_isProcedure kw_7_97 ⟨rfl, rfl⟩ ⟨Nat.le_of_ble_eq_true rfl, Nat.le_of_ble_eq_true rfl⟩ hP hK mW_0 rfl rfl hl.1 (Nat.le_of_ble_eq_true rfl) ⟨Nat.le_of_ble_eq_true rfl, Nat.le_of_ble_eq_true rfl⟩ dX9_ofProcedure_7 ?_
  refine lv_if_ne (tgt := 19) hx hb dX9_ofProcedure_10 (by decide) (fun _ => ?_) (fun c => absurd c (by decide))
  refine lv_iload_n hx hb dX9_ofProcedure_19 rfl (lv_at hl 2 rfl) ?_
  refine lv_iconst (v := 0) hx hb dX9_ofProcedure_20 (by decide) ?_
  refine lv_bipush (v := 7) hx hb dX9_ofProcedure_21 (by decide) ?_
  refine rdS (As := [.int 7, .int 0, .int 7]) S (c_X9_isIn_25 l D cI cZ cJ o q) ms_X9_isIn kw_7_101 ⟨rfl, rfl⟩ ⟨Nat.le_of_ble_eq_true rfl, Nat.le_of_ble_eq_true rfl⟩ hP hK hl.1 (Nat.le_of_ble_eq_true rfl) ⟨Nat.le_of_ble_eq_true rfl, Nat.le_of_ble_eq_true rfl⟩ dX9_ofProcedure_23 ?_
  refine lv_if_eq (tgt := 38) hx hb dX9_ofProcedure_26 (by decide) (fun c => absurd c (by decide)) (fun _ => ?_)
  refine lv_aload_n hx hb dX9_ofProcedure_29 rfl (lv_at hl 0 rfl) ?_
  refine lv_iload_n hx hb dX9_ofProcedure_30 rfl (lv_at hl 1 rfl) ?_
  refine lv_iload_n hx hb dX9_ofProcedure_31 rfl (lv_at hl 2 rfl) ?_
  refine wrV (As := [.int 0, .int 7]) (ci := 9) S (c_X9_ofProcedureNow_0 l D cI cZ cJ o q H.size) mi_X9_ofProcedureNow kw_7_203 rfl rfl ⟨Nat.le_of_ble_eq_true rfl, Nat.le_of_ble_eq_true rfl⟩ hP hD hK hS hA mW_0 rfl rfl hl.1 (Nat.le_of_ble_eq_true rfl) ⟨Nat.le_of_ble_eq_true rfl, Nat.le_of_ble_eq_true rfl⟩ dX9_ofProcedure_32 (fun H locs hz hP hD hS => ?_)
  refine lv_goto (tgt := 43) hx hb dX9_ofProcedure_35 (by decide) ?_
  exact wEnd S hr hlocks hP hD hS (Nat.le_of_ble_eq_true rfl) (Nat.le_of_ble_eq_true rfl) dX9_ofProcedure_43 rfl

set_option maxHeartbeats 8000000 in
set_option maxRecDepth 100000 in
theorem h_ofProcedure_4 (l : Launch) (D : va_G) (cI cZ cJ : ClassId) (o : Nat) (u : Nat → Nat) (ao : Nat) (hst : l.stackTraces = false) (ra ga : Nat → Nat) (sz : Nat) (x1 : Int32) (hi_x1 : x1 ≤ (-1)) : vx_Met l yL_ofProcedure (uWh yL_ofProcedure cL_ofProcedure 5 (some .int) [(0, 10, 13, 13), (0, 10, 17, 15)]) ({ frames := 8, cells := 1, slots := 6, locals := 125 }) (va_Pc [.ref o, .int x1, .int 0, .ref ao] (lS ra ga D (tyL cI cZ cJ) ((xW o u cI cZ cJ) ++ [(ao, .inl (cJ, 1, .inr (.inl (fun _ => 0))))]) sz)) (wQi (1) D ((xW o u cI cZ cJ) ++ [(ao, .inl (cJ, 1, .inr (.inl (fun _ => 0))))]) (va_A ((xW o u cI cZ cJ) ++ [(ao, .inl (cJ, 1, .inr (.inl (fun _ => 0))))]) sz)) (xN (va_A ((xW o u cI cZ cJ) ++ [(ao, .inl (cJ, 1, .inr (.inl (fun _ => 0))))]) sz)) 1 6 (va_A ((xW o u cI cZ cJ) ++ [(ao, .inl (cJ, 1, .inr (.inl (fun _ => 0))))]) sz) := by
  refine hStart (l := l) (y := yL_ofProcedure) (b := cL_ofProcedure) (n := 5) (r := (some .int)) (hh := [(0, 10, 13, 13), (0, 10, 17, 15)]) (rm := ({ frames := 8, cells := 1, slots := 6, locals := 125 })) (mc := 1) (ms := 6) (ra := ra) (ga := ga) (D := D) (tys := tyL cI cZ cJ) (ws := ((xW o u cI cZ cJ) ++ [(ao, .inl (cJ, 1, .inr (.inl (fun _ => 0))))])) (av := [.ref o, .int x1, .int 0, .ref ao]) (sz := sz) (lv := [(0, .ref o), (1, .int x1), (2, .int 0), (3, .ref ao)]) (Qc := fun A => wQi (1) D ((xW o u cI cZ cJ) ++ [(ao, .inl (cJ, 1, .inr (.inl (fun _ => 0))))]) A) (by decide) (Nat.le_of_ble_eq_true rfl) rfl ?_
  intro p e s m args below meth c ls A H S hr hlocks htab hl hK hP hD hS hA hB hC
  have hx := S.1
  have hb := S.2.1
  refine lv_aload_n hx hb dL_ofProcedure_0 rfl (lv_at hl 3 rfl) ?_
  refine lv_iconst (v := 0) hx hb dL_ofProcedure_1 (by decide) ?_
  refine lv_aload_n hx hb dL_ofProcedure_2 rfl (lv_at hl 0 rfl) ?_
  refine lv_iload_n hx hb dL_ofProcedure_3 rfl (lv_at hl 1 rfl) ?_
  refine lv_iload_n hx hb dL_ofProcedure_4 rfl (lv_at hl 2 rfl) ?_
  refine cVi [] [(ao, .inl (cJ, 1, .inr (.inl (fun _ => 0))))] (As := [.int x1, .int 0]) (ci := 8) S (c_X8_ofProcedure_4 l D cI cZ cJ o u hst ra ga H.size x1 hi_x1) mi_X8_ofProcedure kw_6_19 rfl rfl ⟨Nat.le_of_ble_eq_true rfl, Nat.le_of_ble_eq_true rfl⟩ hP hD hK hS hA hB xW_0 rfl rfl hl.1 (Nat.le_of_ble_eq_true rfl) ⟨Nat.le_of_ble_eq_true rfl, Nat.le_of_ble_eq_true rfl⟩ dL_ofProcedure_5 (fun ce q9 H locs hz hP hD hS hce hcv hcl => ?_)
  refine vx_catch (name := "java/lang/IndexOutOfBoundsException") S.2.2.2.1 [] (⟨0, 10, 13, 13⟩ : ExceptionTableEntry) [(⟨0, 10, 17, 15⟩ : ExceptionTableEntry)] (htab.trans rfl) (fun _ h => absurd h List.not_mem_nil) (by decide) (by decide) (S.2.2.2.2 _ kw_5_176) (va_Nw.use rfl hB.c0) hce hcv hcl ?_
  have hP : va_P D vwCl ((xW o u cI cZ cJ) ++ [(ao, .inl (cJ, 1, .inr (.inl (fun _ => 0))))]) H := hP
  have hD : va_D A ((xW o u cI cZ cJ) ++ [(ao, .inl (cJ, 1, .inr (.inl (fun _ => 0))))]) := hD
  refine lv_astore (lv' := [(4, .ref q9), (0, .ref o), (1, .int x1), (2, .int 0), (3, .ref ao)]) hx hb dL_ofProcedure_13 hl (by decide) rfl (fun ls hl => ?_)
  refine lv_iconst (v := 1) hx hb dL_ofProcedure_15 (by decide) ?_
  exact vx_ret (wEnd S hr hlocks hP hD hS (Nat.le_of_ble_eq_true rfl) (Nat.le_of_ble_eq_true rfl) dL_ofProcedure_16 rfl)

set_option maxHeartbeats 8000000 in
set_option maxRecDepth 100000 in
theorem c_X9_ofProcedure_4 (l : Launch) (D : va_G) (cI cZ cJ : ClassId) (o : Nat) (q : Nat → Nat) (sz : Nat) (x1 : Int32) (hi_x1 : x1 ≤ (-1)) : Met l yX9_ofProcedure (uW yX9_ofProcedure cX9_ofProcedure 3 (some .int)) ({ frames := 2, cells := 0, slots := 0, locals := 43 }) (va_Pc [.ref o, .int x1, .int 0] (wS D (tyL cI cZ cJ) (mW o 0 q cI cZ) sz)) (wQi (0) D (mW o 1 q cI cZ) (va_A (mW o 0 q cI cZ) sz)) 0 0 (va_A (mW o 0 q cI cZ) sz) := by
  refine wStart (lv := [(0, .ref o), (1, .int x1), (2, .int 0)]) (Qc := fun A => wQi (0) D (mW o 1 q cI cZ) A) (by decide) (Nat.le_of_ble_eq_true rfl) rfl ?_
  intro p e s m args below meth c ls A H S hr hlocks hnm hl hK hP hD hS hA
  have hx := S.1
  have hb := S.2.1
  refine lv_aload_n hx hb dX9_ofProcedure_0 rfl (lv_at hl 0 rfl) ?_
  refine lv_iconst (v := 0) hx hb dX9_ofProcedure_1 (by decide) ?_
  refine xp (ci := 9) (v := .int 0) S inX9 tyX9 tyX9_ok nmX9 rfl hK hP hD hS mW_0 0 (by decide) kw_6_148 rfl rfl rfl rfl (Nat.le_of_ble_eq_true rfl) dX9_ofProcedure_2 (fun H locs hP hD hS => ?_)
  have hP : va_P D vwCl (mW o 0 q cI cZ) H := hP
  have hD : va_D A (mW o 0 q cI cZ) := hD
  refine lv_aload_n hx hb dX9_ofProcedure_5 rfl (lv_at hl 0 rfl) ?_
  refine lv_iload_n hx hb dX9_ofProcedure_6 rfl (lv_at hl 1 rfl) ?_
  refine rdV (As := [.int x1]) (ci := 9) S (c_X9_isProcedure_0 l D cI cZ cJ o q x1 hi_x1) mi_X9_isProcedure kw_7_97 ⟨rfl, rfl⟩ ⟨Nat.le_of_ble_eq_true rfl, Nat.le_of_ble_eq_true rfl⟩ hP hK mW_0 rfl rfl hl.1 (Nat.le_of_ble_eq_true rfl) ⟨Nat.le_of_ble_eq_true rfl, Nat.le_of_ble_eq_true rfl⟩ dX9_ofProcedure_7 ?_
  refine lv_if_ne (tgt := 19) hx hb dX9_ofProcedure_10 (by decide) (fun c => absurd c (by decide)) (fun _ => ?_)
  refine lv_aload_n hx hb dX9_ofProcedure_13 rfl (lv_at hl 0 rfl) ?_
  refine lv_iconst (v := 1) hx hb dX9_ofProcedure_14 (by decide) ?_
  refine wrV (As := [.int 1]) (ci := 9) S (c_X9_no_0 l D cI cZ cJ o q H.size) mi_X9_no kw_7_104 rfl rfl ⟨Nat.le_of_ble_eq_true rfl, Nat.le_of_ble_eq_true rfl⟩ hP hD hK hS hA mW_0 rfl rfl hl.1 (Nat.le_of_ble_eq_true rfl) ⟨Nat.le_of_ble_eq_true rfl, Nat.le_of_ble_eq_true rfl⟩ dX9_ofProcedure_15 (fun H locs hz hP hD hS => ?_)
  exact wEnd S hr hlocks hP hD hS (Nat.le_of_ble_eq_true rfl) (Nat.le_of_ble_eq_true rfl) dX9_ofProcedure_18 rfl

set_option maxHeartbeats 8000000 in
set_option maxRecDepth 100000 in
theorem h_ofProcedure_5 (l : Launch) (D : va_G) (cI cZ cJ : ClassId) (o : Nat) (u : Nat → Nat) (ao : Nat) (hst : l.stackTraces = false) (ra ga : Nat → Nat) (sz : Nat) (x1 : Int32) (lo_x1 : 1 ≤ x1) : vx_Met l yL_ofProcedure (uWh yL_ofProcedure cL_ofProcedure 5 (some .int) [(0, 10, 13, 13), (0, 10, 17, 15)]) ({ frames := 8, cells := 1, slots := 6, locals := 125 }) (va_Pc [.ref o, .int x1, .int 0, .ref ao] (lS ra ga D (tyL cI cZ cJ) ((xW o u cI cZ cJ) ++ [(ao, .inl (cJ, 1, .inr (.inl (fun _ => 0))))]) sz)) (wQi (1) D ((xW o u cI cZ cJ) ++ [(ao, .inl (cJ, 1, .inr (.inl (fun _ => 0))))]) (va_A ((xW o u cI cZ cJ) ++ [(ao, .inl (cJ, 1, .inr (.inl (fun _ => 0))))]) sz)) (xN (va_A ((xW o u cI cZ cJ) ++ [(ao, .inl (cJ, 1, .inr (.inl (fun _ => 0))))]) sz)) 1 6 (va_A ((xW o u cI cZ cJ) ++ [(ao, .inl (cJ, 1, .inr (.inl (fun _ => 0))))]) sz) := by
  refine hStart (l := l) (y := yL_ofProcedure) (b := cL_ofProcedure) (n := 5) (r := (some .int)) (hh := [(0, 10, 13, 13), (0, 10, 17, 15)]) (rm := ({ frames := 8, cells := 1, slots := 6, locals := 125 })) (mc := 1) (ms := 6) (ra := ra) (ga := ga) (D := D) (tys := tyL cI cZ cJ) (ws := ((xW o u cI cZ cJ) ++ [(ao, .inl (cJ, 1, .inr (.inl (fun _ => 0))))])) (av := [.ref o, .int x1, .int 0, .ref ao]) (sz := sz) (lv := [(0, .ref o), (1, .int x1), (2, .int 0), (3, .ref ao)]) (Qc := fun A => wQi (1) D ((xW o u cI cZ cJ) ++ [(ao, .inl (cJ, 1, .inr (.inl (fun _ => 0))))]) A) (by decide) (Nat.le_of_ble_eq_true rfl) rfl ?_
  intro p e s m args below meth c ls A H S hr hlocks htab hl hK hP hD hS hA hB hC
  have hx := S.1
  have hb := S.2.1
  refine lv_aload_n hx hb dL_ofProcedure_0 rfl (lv_at hl 3 rfl) ?_
  refine lv_iconst (v := 0) hx hb dL_ofProcedure_1 (by decide) ?_
  refine lv_aload_n hx hb dL_ofProcedure_2 rfl (lv_at hl 0 rfl) ?_
  refine lv_iload_n hx hb dL_ofProcedure_3 rfl (lv_at hl 1 rfl) ?_
  refine lv_iload_n hx hb dL_ofProcedure_4 rfl (lv_at hl 2 rfl) ?_
  refine cVi [] [(ao, .inl (cJ, 1, .inr (.inl (fun _ => 0))))] (As := [.int x1, .int 0]) (ci := 8) S (c_X8_ofProcedure_5 l D cI cZ cJ o u hst ra ga H.size x1 lo_x1) mi_X8_ofProcedure kw_6_19 rfl rfl ⟨Nat.le_of_ble_eq_true rfl, Nat.le_of_ble_eq_true rfl⟩ hP hD hK hS hA hB xW_0 rfl rfl hl.1 (Nat.le_of_ble_eq_true rfl) ⟨Nat.le_of_ble_eq_true rfl, Nat.le_of_ble_eq_true rfl⟩ dL_ofProcedure_5 (fun ce q9 H locs hz hP hD hS hce hcv hcl => ?_)
  refine vx_catch (name := "java/lang/IndexOutOfBoundsException") S.2.2.2.1 [] (⟨0, 10, 13, 13⟩ : ExceptionTableEntry) [(⟨0, 10, 17, 15⟩ : ExceptionTableEntry)] (htab.trans rfl) (fun _ h => absurd h List.not_mem_nil) (by decide) (by decide) (S.2.2.2.2 _ kw_5_176) (va_Nw.use rfl hB.c0) hce hcv hcl ?_
  have hP : va_P D vwCl ((xW o u cI cZ cJ) ++ [(ao, .inl (cJ, 1, .inr (.inl (fun _ => 0))))]) H := hP
  have hD : va_D A ((xW o u cI cZ cJ) ++ [(ao, .inl (cJ, 1, .inr (.inl (fun _ => 0))))]) := hD
  refine lv_astore (lv' := [(4, .ref q9), (0, .ref o), (1, .int x1), (2, .int 0), (3, .ref ao)]) hx hb dL_ofProcedure_13 hl (by decide) rfl (fun ls hl => ?_)
  refine lv_iconst (v := 1) hx hb dL_ofProcedure_15 (by decide) ?_
  exact vx_ret (wEnd S hr hlocks hP hD hS (Nat.le_of_ble_eq_true rfl) (Nat.le_of_ble_eq_true rfl) dL_ofProcedure_16 rfl)

set_option maxHeartbeats 8000000 in
set_option maxRecDepth 100000 in
theorem c_X9_ofProcedure_5 (l : Launch) (D : va_G) (cI cZ cJ : ClassId) (o : Nat) (q : Nat → Nat) (sz : Nat) (x1 : Int32) (lo_x1 : 1 ≤ x1) : Met l yX9_ofProcedure (uW yX9_ofProcedure cX9_ofProcedure 3 (some .int)) ({ frames := 2, cells := 0, slots := 0, locals := 43 }) (va_Pc [.ref o, .int x1, .int 0] (wS D (tyL cI cZ cJ) (mW o 0 q cI cZ) sz)) (wQi (0) D (mW o 1 q cI cZ) (va_A (mW o 0 q cI cZ) sz)) 0 0 (va_A (mW o 0 q cI cZ) sz) := by
  refine wStart (lv := [(0, .ref o), (1, .int x1), (2, .int 0)]) (Qc := fun A => wQi (0) D (mW o 1 q cI cZ) A) (by decide) (Nat.le_of_ble_eq_true rfl) rfl ?_
  intro p e s m args below meth c ls A H S hr hlocks hnm hl hK hP hD hS hA
  have hx := S.1
  have hb := S.2.1
  refine lv_aload_n hx hb dX9_ofProcedure_0 rfl (lv_at hl 0 rfl) ?_
  refine lv_iconst (v := 0) hx hb dX9_ofProcedure_1 (by decide) ?_
  refine xp (ci := 9) (v := .int 0) S inX9 tyX9 tyX9_ok nmX9 rfl hK hP hD hS mW_0 0 (by decide) kw_6_148 rfl rfl rfl rfl (Nat.le_of_ble_eq_true rfl) dX9_ofProcedure_2 (fun H locs hP hD hS => ?_)
  have hP : va_P D vwCl (mW o 0 q cI cZ) H := hP
  have hD : va_D A (mW o 0 q cI cZ) := hD
  refine lv_aload_n hx hb dX9_ofProcedure_5 rfl (lv_at hl 0 rfl) ?_
  refine lv_iload_n hx hb dX9_ofProcedure_6 rfl (lv_at hl 1 rfl) ?_
  refine rdV (As := [.int x1]) (ci := 9) S (c_X9_isProcedure_1 l D cI cZ cJ o q x1 lo_x1) mi_X9_isProcedure kw_7_97 ⟨rfl, rfl⟩ ⟨Nat.le_of_ble_eq_true rfl, Nat.le_of_ble_eq_true rfl⟩ hP hK mW_0 rfl rfl hl.1 (Nat.le_of_ble_eq_true rfl) ⟨Nat.le_of_ble_eq_true rfl, Nat.le_of_ble_eq_true rfl⟩ dX9_ofProcedure_7 ?_
  refine lv_if_ne (tgt := 19) hx hb dX9_ofProcedure_10 (by decide) (fun c => absurd c (by decide)) (fun _ => ?_)
  refine lv_aload_n hx hb dX9_ofProcedure_13 rfl (lv_at hl 0 rfl) ?_
  refine lv_iconst (v := 1) hx hb dX9_ofProcedure_14 (by decide) ?_
  refine wrV (As := [.int 1]) (ci := 9) S (c_X9_no_0 l D cI cZ cJ o q H.size) mi_X9_no kw_7_104 rfl rfl ⟨Nat.le_of_ble_eq_true rfl, Nat.le_of_ble_eq_true rfl⟩ hP hD hK hS hA mW_0 rfl rfl hl.1 (Nat.le_of_ble_eq_true rfl) ⟨Nat.le_of_ble_eq_true rfl, Nat.le_of_ble_eq_true rfl⟩ dX9_ofProcedure_15 (fun H locs hz hP hD hS => ?_)
  exact wEnd S hr hlocks hP hD hS (Nat.le_of_ble_eq_true rfl) (Nat.le_of_ble_eq_true rfl) dX9_ofProcedure_18 rfl

set_option maxHeartbeats 8000000 in
set_option maxRecDepth 100000 in
theorem h_ofProcedure_6 (l : Launch) (D : va_G) (cI cZ cJ : ClassId) (o : Nat) (u : Nat → Nat) (ao : Nat) (hst : l.stackTraces = false) (ra ga : Nat → Nat) (sz : Nat) : vx_Met l yL_ofProcedure (uWh yL_ofProcedure cL_ofProcedure 5 (some .int) [(0, 10, 13, 13), (0, 10, 17, 15)]) ({ frames := 5, cells := 0, slots := 0, locals := 107 }) (va_Pc [.ref o, .int 0, .int 0, .ref ao] (lS ra ga D (tyL cI cZ cJ) ((xW o u cI cZ cJ) ++ [(ao, .inl (cJ, 1, .inr (.inl (fun _ => 0))))]) sz)) (wQi (0) D ((((((((xW o u cI cZ cJ).set 0 (o, .inr (8, ((xF u).set 9 (.int 0))))).set 32 ((u 31), .inl (cZ, 10, .inl (upd (upd (upd (upd (upd (upd (upd (upd (upd (upd (fun _ => 0) (0 : Int32).toNatClampNeg 0) (1 : Int32).toNatClampNeg 0) (2 : Int32).toNatClampNeg 0) (3 : Int32).toNatClampNeg 0) (4 : Int32).toNatClampNeg 0) (5 : Int32).toNatClampNeg 0) (6 : Int32).toNatClampNeg 0) (7 : Int32).toNatClampNeg 0) (8 : Int32).toNatClampNeg 0) (9 : Int32).toNatClampNeg 0)))).set 34 ((u 33), .inr (2, ([.ref (u 0), .ref (u 12), .ref (u 19), .int 0, .ref (u 34), .ref (u 35), .ref (u 36), .ref (u 37), .int 0].set 3 (.int 1))))).set 35 ((u 34), .inl (cI, 120, .inl (upd (fun _ => 0) (0 : Int32).toNatClampNeg 10)))).set 36 ((u 35), .inl (cI, 120, .inl (upd (fun _ => 0) (0 : Int32).toNatClampNeg 0)))).set 37 ((u 36), .inl (cI, 120, .inl (upd (fun _ => 0) (0 : Int32).toNatClampNeg (-1))))) ++ [(ao, .inl (cJ, 1, .inr (.inl (vp_updL (fun _ => 0) (0 : Int32).toNatClampNeg (-1)))))]) (va_A ((xW o u cI cZ cJ) ++ [(ao, .inl (cJ, 1, .inr (.inl (fun _ => 0))))]) sz)) (xN (va_A ((xW o u cI cZ cJ) ++ [(ao, .inl (cJ, 1, .inr (.inl (fun _ => 0))))]) sz)) 0 0 (va_A ((xW o u cI cZ cJ) ++ [(ao, .inl (cJ, 1, .inr (.inl (fun _ => 0))))]) sz) := by
  refine hStart (l := l) (y := yL_ofProcedure) (b := cL_ofProcedure) (n := 5) (r := (some .int)) (hh := [(0, 10, 13, 13), (0, 10, 17, 15)]) (rm := ({ frames := 5, cells := 0, slots := 0, locals := 107 })) (mc := 0) (ms := 0) (ra := ra) (ga := ga) (D := D) (tys := tyL cI cZ cJ) (ws := ((xW o u cI cZ cJ) ++ [(ao, .inl (cJ, 1, .inr (.inl (fun _ => 0))))])) (av := [.ref o, .int 0, .int 0, .ref ao]) (sz := sz) (lv := [(0, .ref o), (1, .int 0), (2, .int 0), (3, .ref ao)]) (Qc := fun A => wQi (0) D ((((((((xW o u cI cZ cJ).set 0 (o, .inr (8, ((xF u).set 9 (.int 0))))).set 32 ((u 31), .inl (cZ, 10, .inl (upd (upd (upd (upd (upd (upd (upd (upd (upd (upd (fun _ => 0) (0 : Int32).toNatClampNeg 0) (1 : Int32).toNatClampNeg 0) (2 : Int32).toNatClampNeg 0) (3 : Int32).toNatClampNeg 0) (4 : Int32).toNatClampNeg 0) (5 : Int32).toNatClampNeg 0) (6 : Int32).toNatClampNeg 0) (7 : Int32).toNatClampNeg 0) (8 : Int32).toNatClampNeg 0) (9 : Int32).toNatClampNeg 0)))).set 34 ((u 33), .inr (2, ([.ref (u 0), .ref (u 12), .ref (u 19), .int 0, .ref (u 34), .ref (u 35), .ref (u 36), .ref (u 37), .int 0].set 3 (.int 1))))).set 35 ((u 34), .inl (cI, 120, .inl (upd (fun _ => 0) (0 : Int32).toNatClampNeg 10)))).set 36 ((u 35), .inl (cI, 120, .inl (upd (fun _ => 0) (0 : Int32).toNatClampNeg 0)))).set 37 ((u 36), .inl (cI, 120, .inl (upd (fun _ => 0) (0 : Int32).toNatClampNeg (-1))))) ++ [(ao, .inl (cJ, 1, .inr (.inl (vp_updL (fun _ => 0) (0 : Int32).toNatClampNeg (-1)))))]) A) (by decide) (Nat.le_of_ble_eq_true rfl) rfl ?_
  intro p e s m args below meth c ls A H S hr hlocks htab hl hK hP hD hS hA hB hC
  have hx := S.1
  have hb := S.2.1
  refine lv_aload_n hx hb dL_ofProcedure_0 rfl (lv_at hl 3 rfl) ?_
  refine lv_iconst (v := 0) hx hb dL_ofProcedure_1 (by decide) ?_
  refine lv_aload_n hx hb dL_ofProcedure_2 rfl (lv_at hl 0 rfl) ?_
  refine lv_iload_n hx hb dL_ofProcedure_3 rfl (lv_at hl 1 rfl) ?_
  refine lv_iload_n hx hb dL_ofProcedure_4 rfl (lv_at hl 2 rfl) ?_
  refine faVi [] [(ao, .inl (cJ, 1, .inr (.inl (fun _ => 0))))] (As := [.int 0, .int 0]) (ci := 8) S (c_X8_ofProcedure_6 l D cI cZ cJ o u ra ga H.size) mi_X8_ofProcedure kw_6_19 rfl rfl ⟨Nat.le_of_ble_eq_true rfl, Nat.le_of_ble_eq_true rfl⟩ hP hD hK hS hA hB xW_0 rfl rfl hl.1 (Nat.le_of_ble_eq_true rfl) ⟨Nat.le_of_ble_eq_true rfl, Nat.le_of_ble_eq_true rfl⟩ dL_ofProcedure_5 (fun H locs hz hP hD hS => ?_)
  have hP : va_P D vwCl ((((((((xW o u cI cZ cJ).set 0 (o, .inr (8, ((xF u).set 9 (.int 0))))).set 32 ((u 31), .inl (cZ, 10, .inl (upd (upd (upd (upd (upd (upd (upd (upd (upd (upd (fun _ => 0) (0 : Int32).toNatClampNeg 0) (1 : Int32).toNatClampNeg 0) (2 : Int32).toNatClampNeg 0) (3 : Int32).toNatClampNeg 0) (4 : Int32).toNatClampNeg 0) (5 : Int32).toNatClampNeg 0) (6 : Int32).toNatClampNeg 0) (7 : Int32).toNatClampNeg 0) (8 : Int32).toNatClampNeg 0) (9 : Int32).toNatClampNeg 0)))).set 34 ((u 33), .inr (2, ([.ref (u 0), .ref (u 12), .ref (u 19), .int 0, .ref (u 34), .ref (u 35), .ref (u 36), .ref (u 37), .int 0].set 3 (.int 1))))).set 35 ((u 34), .inl (cI, 120, .inl (upd (fun _ => 0) (0 : Int32).toNatClampNeg 10)))).set 36 ((u 35), .inl (cI, 120, .inl (upd (fun _ => 0) (0 : Int32).toNatClampNeg 0)))).set 37 ((u 36), .inl (cI, 120, .inl (upd (fun _ => 0) (0 : Int32).toNatClampNeg (-1))))) ++ [(ao, .inl (cJ, 1, .inr (.inl (fun _ => 0))))]) H := hP
  have hD : va_D A ((((((((xW o u cI cZ cJ).set 0 (o, .inr (8, ((xF u).set 9 (.int 0))))).set 32 ((u 31), .inl (cZ, 10, .inl (upd (upd (upd (upd (upd (upd (upd (upd (upd (upd (fun _ => 0) (0 : Int32).toNatClampNeg 0) (1 : Int32).toNatClampNeg 0) (2 : Int32).toNatClampNeg 0) (3 : Int32).toNatClampNeg 0) (4 : Int32).toNatClampNeg 0) (5 : Int32).toNatClampNeg 0) (6 : Int32).toNatClampNeg 0) (7 : Int32).toNatClampNeg 0) (8 : Int32).toNatClampNeg 0) (9 : Int32).toNatClampNeg 0)))).set 34 ((u 33), .inr (2, ([.ref (u 0), .ref (u 12), .ref (u 19), .int 0, .ref (u 34), .ref (u 35), .ref (u 36), .ref (u 37), .int 0].set 3 (.int 1))))).set 35 ((u 34), .inl (cI, 120, .inl (upd (fun _ => 0) (0 : Int32).toNatClampNeg 10)))).set 36 ((u 35), .inl (cI, 120, .inl (upd (fun _ => 0) (0 : Int32).toNatClampNeg 0)))).set 37 ((u 36), .inl (cI, 120, .inl (upd (fun _ => 0) (0 : Int32).toNatClampNeg (-1))))) ++ [(ao, .inl (cJ, 1, .inr (.inl (fun _ => 0))))]) := hD
  refine lv_i2l (v := (-1)) hx hb dL_ofProcedure_8 (by decide) ?_
  refine xlast (t0 := 2) S hK hP hD hS (q0 := 88) rfl rfl (vin rfl) dL_ofProcedure_9 (fun H locs hP hD hS => ?_)
  have hP : va_P D vwCl ((((((((xW o u cI cZ cJ).set 0 (o, .inr (8, ((xF u).set 9 (.int 0))))).set 32 ((u 31), .inl (cZ, 10, .inl (upd (upd (upd (upd (upd (upd (upd (upd (upd (upd (fun _ => 0) (0 : Int32).toNatClampNeg 0) (1 : Int32).toNatClampNeg 0) (2 : Int32).toNatClampNeg 0) (3 : Int32).toNatClampNeg 0) (4 : Int32).toNatClampNeg 0) (5 : Int32).toNatClampNeg 0) (6 : Int32).toNatClampNeg 0) (7 : Int32).toNatClampNeg 0) (8 : Int32).toNatClampNeg 0) (9 : Int32).toNatClampNeg 0)))).set 34 ((u 33), .inr (2, ([.ref (u 0), .ref (u 12), .ref (u 19), .int 0, .ref (u 34), .ref (u 35), .ref (u 36), .ref (u 37), .int 0].set 3 (.int 1))))).set 35 ((u 34), .inl (cI, 120, .inl (upd (fun _ => 0) (0 : Int32).toNatClampNeg 10)))).set 36 ((u 35), .inl (cI, 120, .inl (upd (fun _ => 0) (0 : Int32).toNatClampNeg 0)))).set 37 ((u 36), .inl (cI, 120, .inl (upd (fun _ => 0) (0 : Int32).toNatClampNeg (-1))))) ++ [(ao, .inl (cJ, 1, .inr (.inl (vp_updL (fun _ => 0) (0 : Int32).toNatClampNeg (-1)))))]) H := hP
  have hD : va_D A ((((((((xW o u cI cZ cJ).set 0 (o, .inr (8, ((xF u).set 9 (.int 0))))).set 32 ((u 31), .inl (cZ, 10, .inl (upd (upd (upd (upd (upd (upd (upd (upd (upd (upd (fun _ => 0) (0 : Int32).toNatClampNeg 0) (1 : Int32).toNatClampNeg 0) (2 : Int32).toNatClampNeg 0) (3 : Int32).toNatClampNeg 0) (4 : Int32).toNatClampNeg 0) (5 : Int32).toNatClampNeg 0) (6 : Int32).toNatClampNeg 0) (7 : Int32).toNatClampNeg 0) (8 : Int32).toNatClampNeg 0) (9 : Int32).toNatClampNeg 0)))).set 34 ((u 33), .inr (2, ([.ref (u 0), .ref (u 12), .ref (u 19), .int 0, .ref (u 34), .ref (u 35), .ref (u 36), .ref (u 37), .int 0].set 3 (.int 1))))).set 35 ((u 34), .inl (cI, 120, .inl (upd (fun _ => 0) (0 : Int32).toNatClampNeg 10)))).set 36 ((u 35), .inl (cI, 120, .inl (upd (fun _ => 0) (0 : Int32).toNatClampNeg 0)))).set 37 ((u 36), .inl (cI, 120, .inl (upd (fun _ => 0) (0 : Int32).toNatClampNeg (-1))))) ++ [(ao, .inl (cJ, 1, .inr (.inl (vp_updL (fun _ => 0) (0 : Int32).toNatClampNeg (-1)))))]) := hD
  refine lv_goto (tgt := 21) hx hb dL_ofProcedure_10 (by decide) ?_
  refine lv_iconst (v := 0) hx hb dL_ofProcedure_21 (by decide) ?_
  exact vx_ret (wEnd S hr hlocks hP hD hS (Nat.le_of_ble_eq_true rfl) (Nat.le_of_ble_eq_true rfl) dL_ofProcedure_22 rfl)

set_option maxHeartbeats 8000000 in
set_option maxRecDepth 100000 in
theorem c_X9_isIn_26 (l : Launch) (D : va_G) (cI cZ cJ : ClassId) (o : Nat) (q : Nat → Nat) : Met l yX9_isIn (uW yX9_isIn cX9_isIn 3 (some .boolean)) ({ frames := 0, cells := 0, slots := 0, locals := 0 }) (va_Pc [.int 0, .int 0, .int 7] (pS D (tyL cI cZ cJ) (mW o 0 q cI cZ))) (QcRead (1)) 0 0 (fun _ => False) := by
  refine rdStart (lv := [(0, .int 0), (1, .int 0), (2, .int 7)]) (by decide) (Nat.le_of_ble_eq_true rfl) rfl ?_
  intro p e s m args below meth c ls S hr hlocks hl hP hK
  have hx := S.1
  have hb := S.2.1
  refine lv_iload_n hx hb dX9_isIn_0 rfl (lv_at hl 0 rfl) ?_
  refine lv_iload_n hx hb dX9_isIn_1 rfl (lv_at hl 1 rfl) ?_
  refine lv_icmp_lt (tgt := 14) hx hb dX9_isIn_2 (by decide) (fun c => absurd c (by decide)) (fun _ => ?_)
  refine lv_iload_n hx hb dX9_isIn_5 rfl (lv_at hl 0 rfl) ?_
  refine lv_iload_n hx hb dX9_isIn_6 rfl (lv_at hl 2 rfl) ?_
  refine lv_icmp_gt (tgt := 14) hx hb dX9_isIn_7 (by decide) (fun c => absurd c (by decide)) (fun _ => ?_)
  refine lv_iconst (v := 1) hx hb dX9_isIn_10 (by decide) ?_
  refine lv_goto (tgt := 15) hx hb dX9_isIn_11 (by decide) ?_
  exact rdEndZ S hr hlocks dX9_isIn_15 rfl rfl

set_option maxHeartbeats 8000000 in
set_option maxRecDepth 100000 in
theorem c_X9_ofProcedureNow_1 (l : Launch) (D : va_G) (cI cZ cJ : ClassId) (o : Nat) (q : Nat → Nat) : Met l yX9_ofProcedureNow (uW yX9_ofProcedureNow cX9_ofProcedureNow 3 (some .int)) ({ frames := 0, cells := 0, slots := 0, locals := 0 }) (va_Pc [.ref o, .int 0, .int 0] (pS D (tyL cI cZ cJ) (mW o 0 q cI cZ))) (QcRead ((-1))) 0 0 (fun _ => False) := by
  refine rdStart (lv := [(0, .ref o), (1, .int 0), (2, .int 0)]) (by decide) (Nat.le_of_ble_eq_true rfl) rfl ?_
  intro p e s m args below meth c ls S hr hlocks hl hP hK
  have hx := S.1
  have hb := S.2.1
  refine lv_iload_n hx hb dX9_ofProcedureNow_0 rfl (lv_at hl 2 rfl) ?_
  refine lv_tableIn (off := 43) (tgt := 44) hx hb dX9_ofProcedureNow_1 (by decide) (by decide) (by decide) (by decide) ?_
  refine lv_aload_n hx hb dX9_ofProcedureNow_44 rfl (lv_at hl 0 rfl) ?_
  refine xg (ci := 9) S inX9 rfl hK hP mW_0 2 (by decide) mF_2 kw_6_150 rfl dX9_ofProcedureNow_45 ?_
  refine lv_iload_n hx hb dX9_ofProcedureNow_48 rfl (lv_at hl 1 rfl) ?_
  refine xiald (t0 := 0) (v := (-1)) S hK hP mW_1 rfl (vin rfl) rfl dX9_ofProcedureNow_49 ?_
  exact rdEnd S hr hlocks dX9_ofProcedureNow_50 rfl

set_option maxHeartbeats 8000000 in
set_option maxRecDepth 100000 in
theorem c_X9_ofProcedure_6 (l : Launch) (D : va_G) (cI cZ cJ : ClassId) (o : Nat) (q : Nat → Nat) (sz : Nat) : Met l yX9_ofProcedure (uW yX9_ofProcedure cX9_ofProcedure 3 (some .int)) ({ frames := 2, cells := 0, slots := 0, locals := 43 }) (va_Pc [.ref o, .int 0, .int 0] (wS D (tyL cI cZ cJ) (mW o 0 q cI cZ) sz)) (wQi ((-1)) D (mW o 0 q cI cZ) (va_A (mW o 0 q cI cZ) sz)) 0 0 (va_A (mW o 0 q cI cZ) sz) := by
  refine wStart (lv := [(0, .ref o), (1, .int 0), (2, .int 0)]) (Qc := fun A => wQi ((-1)) D (mW o 0 q cI cZ) A) (by decide) (Nat.le_of_ble_eq_true rfl) rfl ?_
  intro p e s m args below meth c ls A H S hr hlocks hnm hl hK hP hD hS hA
  have hx := S.1
  have hb := S.2.1
  refine lv_aload_n hx hb dX9_ofProcedure_0 rfl (lv_at hl 0 rfl) ?_
  refine lv_iconst (v := 0) hx hb dX9_ofProcedure_1 (by decide) ?_
  refine xp (ci := 9) (v := .int 0) S inX9 tyX9 tyX9_ok nmX9 rfl hK hP hD hS mW_0 0 (by decide) kw_6_148 rfl rfl rfl rfl (Nat.le_of_ble_eq_true rfl) dX9_ofProcedure_2 (fun H locs hP hD hS => ?_)
  have hP : va_P D vwCl (mW o 0 q cI cZ) H := hP
  have hD : va_D A (mW o 0 q cI cZ) := hD
  refine lv_aload_n hx hb dX9_ofProcedure_5 rfl (lv_at hl 0 rfl) ?_
  refine lv_iload_n hx hb dX9_ofProcedure_6 rfl (lv_at hl 1 rfl) ?_
  refine rdV (As := [.int 0]) (ci := 9) S (c_X9_isProcedure_2 l D cI cZ cJ o q) mi_X9_isProcedure kw_7_97 ⟨rfl, rfl⟩ ⟨Nat.le_of_ble_eq_true rfl, Nat.le_of_ble_eq_true rfl⟩ hP hK mW_0 rfl rfl hl.1 (Nat.le_of_ble_eq_true rfl) ⟨Nat.le_of_ble_eq_true rfl, Nat.le_of_ble_eq_true rfl⟩ dX9_ofProcedure_7 ?_
  refine lv_if_ne (tgt := 19) hx hb dX9_ofProcedure_10 (by decide) (fun _ => ?_) (fun c => absurd c (by decide))
  refine lv_iload_n hx hb dX9_ofProcedure_19 rfl (lv_at hl 2 rfl) ?_
  refine lv_iconst (v := 0) hx hb dX9_ofProcedure_20 (by decide) ?_
  refine lv_bipush (v := 7) hx hb dX9_ofProcedure_21 (by decide) ?_
  refine rdS (As := [.int 0, .int 0, .int 7]) S (c_X9_isIn_26 l D cI cZ cJ o q) ms_X9_isIn kw_7_101 ⟨rfl, rfl⟩ ⟨Nat.le_of_ble_eq_true rfl, Nat.le_of_ble_eq_true rfl⟩ hP hK hl.1 (Nat.le_of_ble_eq_true rfl) ⟨Nat.le_of_ble_eq_true rfl, Nat.le_of_ble_eq_true rfl⟩ dX9_ofProcedure_23 ?_
  refine lv_if_eq (tgt := 38) hx hb dX9_ofProcedure_26 (by decide) (fun c => absurd c (by decide)) (fun _ => ?_)
  refine lv_aload_n hx hb dX9_ofProcedure_29 rfl (lv_at hl 0 rfl) ?_
  refine lv_iload_n hx hb dX9_ofProcedure_30 rfl (lv_at hl 1 rfl) ?_
  refine lv_iload_n hx hb dX9_ofProcedure_31 rfl (lv_at hl 2 rfl) ?_
  refine rdV (As := [.int 0, .int 0]) (ci := 9) S (c_X9_ofProcedureNow_1 l D cI cZ cJ o q) mi_X9_ofProcedureNow kw_7_203 ⟨rfl, rfl⟩ ⟨Nat.le_of_ble_eq_true rfl, Nat.le_of_ble_eq_true rfl⟩ hP hK mW_0 rfl rfl hl.1 (Nat.le_of_ble_eq_true rfl) ⟨Nat.le_of_ble_eq_true rfl, Nat.le_of_ble_eq_true rfl⟩ dX9_ofProcedure_32 ?_
  refine lv_goto (tgt := 43) hx hb dX9_ofProcedure_35 (by decide) ?_
  exact wEnd S hr hlocks hP hD hS (Nat.le_of_ble_eq_true rfl) (Nat.le_of_ble_eq_true rfl) dX9_ofProcedure_43 rfl

set_option maxHeartbeats 8000000 in
set_option maxRecDepth 100000 in
theorem h_ofProcedure_7 (l : Launch) (D : va_G) (cI cZ cJ : ClassId) (o : Nat) (u : Nat → Nat) (ao : Nat) (hst : l.stackTraces = false) (ra ga : Nat → Nat) (sz : Nat) (x1 : Int32) (hi_x1 : x1 ≤ (-1)) : vx_Met l yL_ofProcedure (uWh yL_ofProcedure cL_ofProcedure 5 (some .int) [(0, 10, 13, 13), (0, 10, 17, 15)]) ({ frames := 8, cells := 1, slots := 6, locals := 125 }) (va_Pc [.ref o, .int x1, .int 1, .ref ao] (lS ra ga D (tyL cI cZ cJ) ((xW o u cI cZ cJ) ++ [(ao, .inl (cJ, 1, .inr (.inl (fun _ => 0))))]) sz)) (wQi (1) D ((xW o u cI cZ cJ) ++ [(ao, .inl (cJ, 1, .inr (.inl (fun _ => 0))))]) (va_A ((xW o u cI cZ cJ) ++ [(ao, .inl (cJ, 1, .inr (.inl (fun _ => 0))))]) sz)) (xN (va_A ((xW o u cI cZ cJ) ++ [(ao, .inl (cJ, 1, .inr (.inl (fun _ => 0))))]) sz)) 1 6 (va_A ((xW o u cI cZ cJ) ++ [(ao, .inl (cJ, 1, .inr (.inl (fun _ => 0))))]) sz) := by
  refine hStart (l := l) (y := yL_ofProcedure) (b := cL_ofProcedure) (n := 5) (r := (some .int)) (hh := [(0, 10, 13, 13), (0, 10, 17, 15)]) (rm := ({ frames := 8, cells := 1, slots := 6, locals := 125 })) (mc := 1) (ms := 6) (ra := ra) (ga := ga) (D := D) (tys := tyL cI cZ cJ) (ws := ((xW o u cI cZ cJ) ++ [(ao, .inl (cJ, 1, .inr (.inl (fun _ => 0))))])) (av := [.ref o, .int x1, .int 1, .ref ao]) (sz := sz) (lv := [(0, .ref o), (1, .int x1), (2, .int 1), (3, .ref ao)]) (Qc := fun A => wQi (1) D ((xW o u cI cZ cJ) ++ [(ao, .inl (cJ, 1, .inr (.inl (fun _ => 0))))]) A) (by decide) (Nat.le_of_ble_eq_true rfl) rfl ?_
  intro p e s m args below meth c ls A H S hr hlocks htab hl hK hP hD hS hA hB hC
  have hx := S.1
  have hb := S.2.1
  refine lv_aload_n hx hb dL_ofProcedure_0 rfl (lv_at hl 3 rfl) ?_
  refine lv_iconst (v := 0) hx hb dL_ofProcedure_1 (by decide) ?_
  refine lv_aload_n hx hb dL_ofProcedure_2 rfl (lv_at hl 0 rfl) ?_
  refine lv_iload_n hx hb dL_ofProcedure_3 rfl (lv_at hl 1 rfl) ?_
  refine lv_iload_n hx hb dL_ofProcedure_4 rfl (lv_at hl 2 rfl) ?_
  refine cVi [] [(ao, .inl (cJ, 1, .inr (.inl (fun _ => 0))))] (As := [.int x1, .int 1]) (ci := 8) S (c_X8_ofProcedure_7 l D cI cZ cJ o u hst ra ga H.size x1 hi_x1) mi_X8_ofProcedure kw_6_19 rfl rfl ⟨Nat.le_of_ble_eq_true rfl, Nat.le_of_ble_eq_true rfl⟩ hP hD hK hS hA hB xW_0 rfl rfl hl.1 (Nat.le_of_ble_eq_true rfl) ⟨Nat.le_of_ble_eq_true rfl, Nat.le_of_ble_eq_true rfl⟩ dL_ofProcedure_5 (fun ce q9 H locs hz hP hD hS hce hcv hcl => ?_)
  refine vx_catch (name := "java/lang/IndexOutOfBoundsException") S.2.2.2.1 [] (⟨0, 10, 13, 13⟩ : ExceptionTableEntry) [(⟨0, 10, 17, 15⟩ : ExceptionTableEntry)] (htab.trans rfl) (fun _ h => absurd h List.not_mem_nil) (by decide) (by decide) (S.2.2.2.2 _ kw_5_176) (va_Nw.use rfl hB.c0) hce hcv hcl ?_
  have hP : va_P D vwCl ((xW o u cI cZ cJ) ++ [(ao, .inl (cJ, 1, .inr (.inl (fun _ => 0))))]) H := hP
  have hD : va_D A ((xW o u cI cZ cJ) ++ [(ao, .inl (cJ, 1, .inr (.inl (fun _ => 0))))]) := hD
  refine lv_astore (lv' := [(4, .ref q9), (0, .ref o), (1, .int x1), (2, .int 1), (3, .ref ao)]) hx hb dL_ofProcedure_13 hl (by decide) rfl (fun ls hl => ?_)
  refine lv_iconst (v := 1) hx hb dL_ofProcedure_15 (by decide) ?_
  exact vx_ret (wEnd S hr hlocks hP hD hS (Nat.le_of_ble_eq_true rfl) (Nat.le_of_ble_eq_true rfl) dL_ofProcedure_16 rfl)

set_option maxHeartbeats 8000000 in
set_option maxRecDepth 100000 in
theorem c_X9_ofProcedure_7 (l : Launch) (D : va_G) (cI cZ cJ : ClassId) (o : Nat) (q : Nat → Nat) (sz : Nat) (x1 : Int32) (hi_x1 : x1 ≤ (-1)) : Met l yX9_ofProcedure (uW yX9_ofProcedure cX9_ofProcedure 3 (some .int)) ({ frames := 2, cells := 0, slots := 0, locals := 43 }) (va_Pc [.ref o, .int x1, .int 1] (wS D (tyL cI cZ cJ) (mW o 0 q cI cZ) sz)) (wQi (0) D (mW o 1 q cI cZ) (va_A (mW o 0 q cI cZ) sz)) 0 0 (va_A (mW o 0 q cI cZ) sz) := by
  refine wStart (lv := [(0, .ref o), (1, .int x1), (2, .int 1)]) (Qc := fun A => wQi (0) D (mW o 1 q cI cZ) A) (by decide) (Nat.le_of_ble_eq_true rfl) rfl ?_
  intro p e s m args below meth c ls A H S hr hlocks hnm hl hK hP hD hS hA
  have hx := S.1
  have hb := S.2.1
  refine lv_aload_n hx hb dX9_ofProcedure_0 rfl (lv_at hl 0 rfl) ?_
  refine lv_iconst (v := 0) hx hb dX9_ofProcedure_1 (by decide) ?_
  refine xp (ci := 9) (v := .int 0) S inX9 tyX9 tyX9_ok nmX9 rfl hK hP hD hS mW_0 0 (by decide) kw_6_148 rfl rfl rfl rfl (Nat.le_of_ble_eq_true rfl) dX9_ofProcedure_2 (fun H locs hP hD hS => ?_)
  have hP : va_P D vwCl (mW o 0 q cI cZ) H := hP
  have hD : va_D A (mW o 0 q cI cZ) := hD
  refine lv_aload_n hx hb dX9_ofProcedure_5 rfl (lv_at hl 0 rfl) ?_
  refine lv_iload_n hx hb dX9_ofProcedure_6 rfl (lv_at hl 1 rfl) ?_
  refine rdV (As := [.int x1]) (ci := 9) S (c_X9_isProcedure_0 l D cI cZ cJ o q x1 hi_x1) mi_X9_isProcedure kw_7_97 ⟨rfl, rfl⟩ ⟨Nat.le_of_ble_eq_true rfl, Nat.le_of_ble_eq_true rfl⟩ hP hK mW_0 rfl rfl hl.1 (Nat.le_of_ble_eq_true rfl) ⟨Nat.le_of_ble_eq_true rfl, Nat.le_of_ble_eq_true rfl⟩ dX9_ofProcedure_7 ?_
  refine lv_if_ne (tgt := 19) hx hb dX9_ofProcedure_10 (by decide) (fun c => absurd c (by decide)) (fun _ => ?_)
  refine lv_aload_n hx hb dX9_ofProcedure_13 rfl (lv_at hl 0 rfl) ?_
  refine lv_iconst (v := 1) hx hb dX9_ofProcedure_14 (by decide) ?_
  refine wrV (As := [.int 1]) (ci := 9) S (c_X9_no_0 l D cI cZ cJ o q H.size) mi_X9_no kw_7_104 rfl rfl ⟨Nat.le_of_ble_eq_true rfl, Nat.le_of_ble_eq_true rfl⟩ hP hD hK hS hA mW_0 rfl rfl hl.1 (Nat.le_of_ble_eq_true rfl) ⟨Nat.le_of_ble_eq_true rfl, Nat.le_of_ble_eq_true rfl⟩ dX9_ofProcedure_15 (fun H locs hz hP hD hS => ?_)
  exact wEnd S hr hlocks hP hD hS (Nat.le_of_ble_eq_true rfl) (Nat.le_of_ble_eq_true rfl) dX9_ofProcedure_18 rfl

set_option maxHeartbeats 8000000 in
set_option maxRecDepth 100000 in
theorem h_ofProcedure_8 (l : Launch) (D : va_G) (cI cZ cJ : ClassId) (o : Nat) (u : Nat → Nat) (ao : Nat) (hst : l.stackTraces = false) (ra ga : Nat → Nat) (sz : Nat) (x1 : Int32) (lo_x1 : 1 ≤ x1) : vx_Met l yL_ofProcedure (uWh yL_ofProcedure cL_ofProcedure 5 (some .int) [(0, 10, 13, 13), (0, 10, 17, 15)]) ({ frames := 8, cells := 1, slots := 6, locals := 125 }) (va_Pc [.ref o, .int x1, .int 1, .ref ao] (lS ra ga D (tyL cI cZ cJ) ((xW o u cI cZ cJ) ++ [(ao, .inl (cJ, 1, .inr (.inl (fun _ => 0))))]) sz)) (wQi (1) D ((xW o u cI cZ cJ) ++ [(ao, .inl (cJ, 1, .inr (.inl (fun _ => 0))))]) (va_A ((xW o u cI cZ cJ) ++ [(ao, .inl (cJ, 1, .inr (.inl (fun _ => 0))))]) sz)) (xN (va_A ((xW o u cI cZ cJ) ++ [(ao, .inl (cJ, 1, .inr (.inl (fun _ => 0))))]) sz)) 1 6 (va_A ((xW o u cI cZ cJ) ++ [(ao, .inl (cJ, 1, .inr (.inl (fun _ => 0))))]) sz) := by
  refine hStart (l := l) (y := yL_ofProcedure) (b := cL_ofProcedure) (n := 5) (r := (some .int)) (hh := [(0, 10, 13, 13), (0, 10, 17, 15)]) (rm := ({ frames := 8, cells := 1, slots := 6, locals := 125 })) (mc := 1) (ms := 6) (ra := ra) (ga := ga) (D := D) (tys := tyL cI cZ cJ) (ws := ((xW o u cI cZ cJ) ++ [(ao, .inl (cJ, 1, .inr (.inl (fun _ => 0))))])) (av := [.ref o, .int x1, .int 1, .ref ao]) (sz := sz) (lv := [(0, .ref o), (1, .int x1), (2, .int 1), (3, .ref ao)]) (Qc := fun A => wQi (1) D ((xW o u cI cZ cJ) ++ [(ao, .inl (cJ, 1, .inr (.inl (fun _ => 0))))]) A) (by decide) (Nat.le_of_ble_eq_true rfl) rfl ?_
  intro p e s m args below meth c ls A H S hr hlocks htab hl hK hP hD hS hA hB hC
  have hx := S.1
  have hb := S.2.1
  refine lv_aload_n hx hb dL_ofProcedure_0 rfl (lv_at hl 3 rfl) ?_
  refine lv_iconst (v := 0) hx hb dL_ofProcedure_1 (by decide) ?_
  refine lv_aload_n hx hb dL_ofProcedure_2 rfl (lv_at hl 0 rfl) ?_
  refine lv_iload_n hx hb dL_ofProcedure_3 rfl (lv_at hl 1 rfl) ?_
  refine lv_iload_n hx hb dL_ofProcedure_4 rfl (lv_at hl 2 rfl) ?_
  refine cVi [] [(ao, .inl (cJ, 1, .inr (.inl (fun _ => 0))))] (As := [.int x1, .int 1]) (ci := 8) S (c_X8_ofProcedure_8 l D cI cZ cJ o u hst ra ga H.size x1 lo_x1) mi_X8_ofProcedure kw_6_19 rfl rfl ⟨Nat.le_of_ble_eq_true rfl, Nat.le_of_ble_eq_true rfl⟩ hP hD hK hS hA hB xW_0 rfl rfl hl.1 (Nat.le_of_ble_eq_true rfl) ⟨Nat.le_of_ble_eq_true rfl, Nat.le_of_ble_eq_true rfl⟩ dL_ofProcedure_5 (fun ce q9 H locs hz hP hD hS hce hcv hcl => ?_)
  refine vx_catch (name := "java/lang/IndexOutOfBoundsException") S.2.2.2.1 [] (⟨0, 10, 13, 13⟩ : ExceptionTableEntry) [(⟨0, 10, 17, 15⟩ : ExceptionTableEntry)] (htab.trans rfl) (fun _ h => absurd h List.not_mem_nil) (by decide) (by decide) (S.2.2.2.2 _ kw_5_176) (va_Nw.use rfl hB.c0) hce hcv hcl ?_
  have hP : va_P D vwCl ((xW o u cI cZ cJ) ++ [(ao, .inl (cJ, 1, .inr (.inl (fun _ => 0))))]) H := hP
  have hD : va_D A ((xW o u cI cZ cJ) ++ [(ao, .inl (cJ, 1, .inr (.inl (fun _ => 0))))]) := hD
  refine lv_astore (lv' := [(4, .ref q9), (0, .ref o), (1, .int x1), (2, .int 1), (3, .ref ao)]) hx hb dL_ofProcedure_13 hl (by decide) rfl (fun ls hl => ?_)
  refine lv_iconst (v := 1) hx hb dL_ofProcedure_15 (by decide) ?_
  exact vx_ret (wEnd S hr hlocks hP hD hS (Nat.le_of_ble_eq_true rfl) (Nat.le_of_ble_eq_true rfl) dL_ofProcedure_16 rfl)

set_option maxHeartbeats 8000000 in
set_option maxRecDepth 100000 in
theorem c_X9_ofProcedure_8 (l : Launch) (D : va_G) (cI cZ cJ : ClassId) (o : Nat) (q : Nat → Nat) (sz : Nat) (x1 : Int32) (lo_x1 : 1 ≤ x1) : Met l yX9_ofProcedure (uW yX9_ofProcedure cX9_ofProcedure 3 (some .int)) ({ frames := 2, cells := 0, slots := 0, locals := 43 }) (va_Pc [.ref o, .int x1, .int 1] (wS D (tyL cI cZ cJ) (mW o 0 q cI cZ) sz)) (wQi (0) D (mW o 1 q cI cZ) (va_A (mW o 0 q cI cZ) sz)) 0 0 (va_A (mW o 0 q cI cZ) sz) := by
  refine wStart (lv := [(0, .ref o), (1, .int x1), (2, .int 1)]) (Qc := fun A => wQi (0) D (mW o 1 q cI cZ) A) (by decide) (Nat.le_of_ble_eq_true rfl) rfl ?_
  intro p e s m args below meth c ls A H S hr hlocks hnm hl hK hP hD hS hA
  have hx := S.1
  have hb := S.2.1
  refine lv_aload_n hx hb dX9_ofProcedure_0 rfl (lv_at hl 0 rfl) ?_
  refine lv_iconst (v := 0) hx hb dX9_ofProcedure_1 (by decide) ?_
  refine xp (ci := 9) (v := .int 0) S inX9 tyX9 tyX9_ok nmX9 rfl hK hP hD hS mW_0 0 (by decide) kw_6_148 rfl rfl rfl rfl (Nat.le_of_ble_eq_true rfl) dX9_ofProcedure_2 (fun H locs hP hD hS => ?_)
  have hP : va_P D vwCl (mW o 0 q cI cZ) H := hP
  have hD : va_D A (mW o 0 q cI cZ) := hD
  refine lv_aload_n hx hb dX9_ofProcedure_5 rfl (lv_at hl 0 rfl) ?_
  refine lv_iload_n hx hb dX9_ofProcedure_6 rfl (lv_at hl 1 rfl) ?_
  refine rdV (As := [.int x1]) (ci := 9) S (c_X9_isProcedure_1 l D cI cZ cJ o q x1 lo_x1) mi_X9_isProcedure kw_7_97 ⟨rfl, rfl⟩ ⟨Nat.le_of_ble_eq_true rfl, Nat.le_of_ble_eq_true rfl⟩ hP hK mW_0 rfl rfl hl.1 (Nat.le_of_ble_eq_true rfl) ⟨Nat.le_of_ble_eq_true rfl, Nat.le_of_ble_eq_true rfl⟩ dX9_ofProcedure_7 ?_
  refine lv_if_ne (tgt := 19) hx hb dX9_ofProcedure_10 (by decide) (fun c => absurd c (by decide)) (fun _ => ?_)
  refine lv_aload_n hx hb dX9_ofProcedure_13 rfl (lv_at hl 0 rfl) ?_
  refine lv_iconst (v := 1) hx hb dX9_ofProcedure_14 (by decide) ?_
  refine wrV (As := [.int 1]) (ci := 9) S (c_X9_no_0 l D cI cZ cJ o q H.size) mi_X9_no kw_7_104 rfl rfl ⟨Nat.le_of_ble_eq_true rfl, Nat.le_of_ble_eq_true rfl⟩ hP hD hK hS hA mW_0 rfl rfl hl.1 (Nat.le_of_ble_eq_true rfl) ⟨Nat.le_of_ble_eq_true rfl, Nat.le_of_ble_eq_true rfl⟩ dX9_ofProcedure_15 (fun H locs hz hP hD hS => ?_)
  exact wEnd S hr hlocks hP hD hS (Nat.le_of_ble_eq_true rfl) (Nat.le_of_ble_eq_true rfl) dX9_ofProcedure_18 rfl

set_option maxHeartbeats 8000000 in
set_option maxRecDepth 100000 in
theorem h_ofProcedure_9 (l : Launch) (D : va_G) (cI cZ cJ : ClassId) (o : Nat) (u : Nat → Nat) (ao : Nat) (hst : l.stackTraces = false) (ra ga : Nat → Nat) (sz : Nat) : vx_Met l yL_ofProcedure (uWh yL_ofProcedure cL_ofProcedure 5 (some .int) [(0, 10, 13, 13), (0, 10, 17, 15)]) ({ frames := 5, cells := 0, slots := 0, locals := 107 }) (va_Pc [.ref o, .int 0, .int 1, .ref ao] (lS ra ga D (tyL cI cZ cJ) ((xW o u cI cZ cJ) ++ [(ao, .inl (cJ, 1, .inr (.inl (fun _ => 0))))]) sz)) (wQi (0) D ((((((((xW o u cI cZ cJ).set 0 (o, .inr (8, ((xF u).set 9 (.int 0))))).set 32 ((u 31), .inl (cZ, 10, .inl (upd (upd (upd (upd (upd (upd (upd (upd (upd (upd (fun _ => 0) (0 : Int32).toNatClampNeg 0) (1 : Int32).toNatClampNeg 0) (2 : Int32).toNatClampNeg 0) (3 : Int32).toNatClampNeg 0) (4 : Int32).toNatClampNeg 0) (5 : Int32).toNatClampNeg 0) (6 : Int32).toNatClampNeg 0) (7 : Int32).toNatClampNeg 0) (8 : Int32).toNatClampNeg 0) (9 : Int32).toNatClampNeg 0)))).set 34 ((u 33), .inr (2, ([.ref (u 0), .ref (u 12), .ref (u 19), .int 0, .ref (u 34), .ref (u 35), .ref (u 36), .ref (u 37), .int 0].set 3 (.int 1))))).set 35 ((u 34), .inl (cI, 120, .inl (upd (fun _ => 0) (0 : Int32).toNatClampNeg 10)))).set 36 ((u 35), .inl (cI, 120, .inl (upd (fun _ => 0) (0 : Int32).toNatClampNeg 0)))).set 37 ((u 36), .inl (cI, 120, .inl (upd (fun _ => 0) (0 : Int32).toNatClampNeg (-1))))) ++ [(ao, .inl (cJ, 1, .inr (.inl (vp_updL (fun _ => 0) (0 : Int32).toNatClampNeg (-1)))))]) (va_A ((xW o u cI cZ cJ) ++ [(ao, .inl (cJ, 1, .inr (.inl (fun _ => 0))))]) sz)) (xN (va_A ((xW o u cI cZ cJ) ++ [(ao, .inl (cJ, 1, .inr (.inl (fun _ => 0))))]) sz)) 0 0 (va_A ((xW o u cI cZ cJ) ++ [(ao, .inl (cJ, 1, .inr (.inl (fun _ => 0))))]) sz) := by
  refine hStart (l := l) (y := yL_ofProcedure) (b := cL_ofProcedure) (n := 5) (r := (some .int)) (hh := [(0, 10, 13, 13), (0, 10, 17, 15)]) (rm := ({ frames := 5, cells := 0, slots := 0, locals := 107 })) (mc := 0) (ms := 0) (ra := ra) (ga := ga) (D := D) (tys := tyL cI cZ cJ) (ws := ((xW o u cI cZ cJ) ++ [(ao, .inl (cJ, 1, .inr (.inl (fun _ => 0))))])) (av := [.ref o, .int 0, .int 1, .ref ao]) (sz := sz) (lv := [(0, .ref o), (1, .int 0), (2, .int 1), (3, .ref ao)]) (Qc := fun A => wQi (0) D ((((((((xW o u cI cZ cJ).set 0 (o, .inr (8, ((xF u).set 9 (.int 0))))).set 32 ((u 31), .inl (cZ, 10, .inl (upd (upd (upd (upd (upd (upd (upd (upd (upd (upd (fun _ => 0) (0 : Int32).toNatClampNeg 0) (1 : Int32).toNatClampNeg 0) (2 : Int32).toNatClampNeg 0) (3 : Int32).toNatClampNeg 0) (4 : Int32).toNatClampNeg 0) (5 : Int32).toNatClampNeg 0) (6 : Int32).toNatClampNeg 0) (7 : Int32).toNatClampNeg 0) (8 : Int32).toNatClampNeg 0) (9 : Int32).toNatClampNeg 0)))).set 34 ((u 33), .inr (2, ([.ref (u 0), .ref (u 12), .ref (u 19), .int 0, .ref (u 34), .ref (u 35), .ref (u 36), .ref (u 37), .int 0].set 3 (.int 1))))).set 35 ((u 34), .inl (cI, 120, .inl (upd (fun _ => 0) (0 : Int32).toNatClampNeg 10)))).set 36 ((u 35), .inl (cI, 120, .inl (upd (fun _ => 0) (0 : Int32).toNatClampNeg 0)))).set 37 ((u 36), .inl (cI, 120, .inl (upd (fun _ => 0) (0 : Int32).toNatClampNeg (-1))))) ++ [(ao, .inl (cJ, 1, .inr (.inl (vp_updL (fun _ => 0) (0 : Int32).toNatClampNeg (-1)))))]) A) (by decide) (Nat.le_of_ble_eq_true rfl) rfl ?_
  intro p e s m args below meth c ls A H S hr hlocks htab hl hK hP hD hS hA hB hC
  have hx := S.1
  have hb := S.2.1
  refine lv_aload_n hx hb dL_ofProcedure_0 rfl (lv_at hl 3 rfl) ?_
  refine lv_iconst (v := 0) hx hb dL_ofProcedure_1 (by decide) ?_
  refine lv_aload_n hx hb dL_ofProcedure_2 rfl (lv_at hl 0 rfl) ?_
  refine lv_iload_n hx hb dL_ofProcedure_3 rfl (lv_at hl 1 rfl) ?_
  refine lv_iload_n hx hb dL_ofProcedure_4 rfl (lv_at hl 2 rfl) ?_
  refine faVi [] [(ao, .inl (cJ, 1, .inr (.inl (fun _ => 0))))] (As := [.int 0, .int 1]) (ci := 8) S (c_X8_ofProcedure_9 l D cI cZ cJ o u ra ga H.size) mi_X8_ofProcedure kw_6_19 rfl rfl ⟨Nat.le_of_ble_eq_true rfl, Nat.le_of_ble_eq_true rfl⟩ hP hD hK hS hA hB xW_0 rfl rfl hl.1 (Nat.le_of_ble_eq_true rfl) ⟨Nat.le_of_ble_eq_true rfl, Nat.le_of_ble_eq_true rfl⟩ dL_ofProcedure_5 (fun H locs hz hP hD hS => ?_)
  have hP : va_P D vwCl ((((((((xW o u cI cZ cJ).set 0 (o, .inr (8, ((xF u).set 9 (.int 0))))).set 32 ((u 31), .inl (cZ, 10, .inl (upd (upd (upd (upd (upd (upd (upd (upd (upd (upd (fun _ => 0) (0 : Int32).toNatClampNeg 0) (1 : Int32).toNatClampNeg 0) (2 : Int32).toNatClampNeg 0) (3 : Int32).toNatClampNeg 0) (4 : Int32).toNatClampNeg 0) (5 : Int32).toNatClampNeg 0) (6 : Int32).toNatClampNeg 0) (7 : Int32).toNatClampNeg 0) (8 : Int32).toNatClampNeg 0) (9 : Int32).toNatClampNeg 0)))).set 34 ((u 33), .inr (2, ([.ref (u 0), .ref (u 12), .ref (u 19), .int 0, .ref (u 34), .ref (u 35), .ref (u 36), .ref (u 37), .int 0].set 3 (.int 1))))).set 35 ((u 34), .inl (cI, 120, .inl (upd (fun _ => 0) (0 : Int32).toNatClampNeg 10)))).set 36 ((u 35), .inl (cI, 120, .inl (upd (fun _ => 0) (0 : Int32).toNatClampNeg 0)))).set 37 ((u 36), .inl (cI, 120, .inl (upd (fun _ => 0) (0 : Int32).toNatClampNeg (-1))))) ++ [(ao, .inl (cJ, 1, .inr (.inl (fun _ => 0))))]) H := hP
  have hD : va_D A ((((((((xW o u cI cZ cJ).set 0 (o, .inr (8, ((xF u).set 9 (.int 0))))).set 32 ((u 31), .inl (cZ, 10, .inl (upd (upd (upd (upd (upd (upd (upd (upd (upd (upd (fun _ => 0) (0 : Int32).toNatClampNeg 0) (1 : Int32).toNatClampNeg 0) (2 : Int32).toNatClampNeg 0) (3 : Int32).toNatClampNeg 0) (4 : Int32).toNatClampNeg 0) (5 : Int32).toNatClampNeg 0) (6 : Int32).toNatClampNeg 0) (7 : Int32).toNatClampNeg 0) (8 : Int32).toNatClampNeg 0) (9 : Int32).toNatClampNeg 0)))).set 34 ((u 33), .inr (2, ([.ref (u 0), .ref (u 12), .ref (u 19), .int 0, .ref (u 34), .ref (u 35), .ref (u 36), .ref (u 37), .int 0].set 3 (.int 1))))).set 35 ((u 34), .inl (cI, 120, .inl (upd (fun _ => 0) (0 : Int32).toNatClampNeg 10)))).set 36 ((u 35), .inl (cI, 120, .inl (upd (fun _ => 0) (0 : Int32).toNatClampNeg 0)))).set 37 ((u 36), .inl (cI, 120, .inl (upd (fun _ => 0) (0 : Int32).toNatClampNeg (-1))))) ++ [(ao, .inl (cJ, 1, .inr (.inl (fun _ => 0))))]) := hD
  refine lv_i2l (v := (-1)) hx hb dL_ofProcedure_8 (by decide) ?_
  refine xlast (t0 := 2) S hK hP hD hS (q0 := 88) rfl rfl (vin rfl) dL_ofProcedure_9 (fun H locs hP hD hS => ?_)
  have hP : va_P D vwCl ((((((((xW o u cI cZ cJ).set 0 (o, .inr (8, ((xF u).set 9 (.int 0))))).set 32 ((u 31), .inl (cZ, 10, .inl (upd (upd (upd (upd (upd (upd (upd (upd (upd (upd (fun _ => 0) (0 : Int32).toNatClampNeg 0) (1 : Int32).toNatClampNeg 0) (2 : Int32).toNatClampNeg 0) (3 : Int32).toNatClampNeg 0) (4 : Int32).toNatClampNeg 0) (5 : Int32).toNatClampNeg 0) (6 : Int32).toNatClampNeg 0) (7 : Int32).toNatClampNeg 0) (8 : Int32).toNatClampNeg 0) (9 : Int32).toNatClampNeg 0)))).set 34 ((u 33), .inr (2, ([.ref (u 0), .ref (u 12), .ref (u 19), .int 0, .ref (u 34), .ref (u 35), .ref (u 36), .ref (u 37), .int 0].set 3 (.int 1))))).set 35 ((u 34), .inl (cI, 120, .inl (upd (fun _ => 0) (0 : Int32).toNatClampNeg 10)))).set 36 ((u 35), .inl (cI, 120, .inl (upd (fun _ => 0) (0 : Int32).toNatClampNeg 0)))).set 37 ((u 36), .inl (cI, 120, .inl (upd (fun _ => 0) (0 : Int32).toNatClampNeg (-1))))) ++ [(ao, .inl (cJ, 1, .inr (.inl (vp_updL (fun _ => 0) (0 : Int32).toNatClampNeg (-1)))))]) H := hP
  have hD : va_D A ((((((((xW o u cI cZ cJ).set 0 (o, .inr (8, ((xF u).set 9 (.int 0))))).set 32 ((u 31), .inl (cZ, 10, .inl (upd (upd (upd (upd (upd (upd (upd (upd (upd (upd (fun _ => 0) (0 : Int32).toNatClampNeg 0) (1 : Int32).toNatClampNeg 0) (2 : Int32).toNatClampNeg 0) (3 : Int32).toNatClampNeg 0) (4 : Int32).toNatClampNeg 0) (5 : Int32).toNatClampNeg 0) (6 : Int32).toNatClampNeg 0) (7 : Int32).toNatClampNeg 0) (8 : Int32).toNatClampNeg 0) (9 : Int32).toNatClampNeg 0)))).set 34 ((u 33), .inr (2, ([.ref (u 0), .ref (u 12), .ref (u 19), .int 0, .ref (u 34), .ref (u 35), .ref (u 36), .ref (u 37), .int 0].set 3 (.int 1))))).set 35 ((u 34), .inl (cI, 120, .inl (upd (fun _ => 0) (0 : Int32).toNatClampNeg 10)))).set 36 ((u 35), .inl (cI, 120, .inl (upd (fun _ => 0) (0 : Int32).toNatClampNeg 0)))).set 37 ((u 36), .inl (cI, 120, .inl (upd (fun _ => 0) (0 : Int32).toNatClampNeg (-1))))) ++ [(ao, .inl (cJ, 1, .inr (.inl (vp_updL (fun _ => 0) (0 : Int32).toNatClampNeg (-1)))))]) := hD
  refine lv_goto (tgt := 21) hx hb dL_ofProcedure_10 (by decide) ?_
  refine lv_iconst (v := 0) hx hb dL_ofProcedure_21 (by decide) ?_
  exact vx_ret (wEnd S hr hlocks hP hD hS (Nat.le_of_ble_eq_true rfl) (Nat.le_of_ble_eq_true rfl) dL_ofProcedure_22 rfl)

set_option maxHeartbeats 8000000 in
set_option maxRecDepth 100000 in
theorem c_X9_isIn_27 (l : Launch) (D : va_G) (cI cZ cJ : ClassId) (o : Nat) (q : Nat → Nat) : Met l yX9_isIn (uW yX9_isIn cX9_isIn 3 (some .boolean)) ({ frames := 0, cells := 0, slots := 0, locals := 0 }) (va_Pc [.int 1, .int 0, .int 7] (pS D (tyL cI cZ cJ) (mW o 0 q cI cZ))) (QcRead (1)) 0 0 (fun _ => False) := by
  refine rdStart (lv := [(0, .int 1), (1, .int 0), (2, .int 7)]) (by decide) (Nat.le_of_ble_eq_true rfl) rfl ?_
  intro p e s m args below meth c ls S hr hlocks hl hP hK
  have hx := S.1
  have hb := S.2.1
  refine lv_iload_n hx hb dX9_isIn_0 rfl (lv_at hl 0 rfl) ?_
  refine lv_iload_n hx hb dX9_isIn_1 rfl (lv_at hl 1 rfl) ?_
  refine lv_icmp_lt (tgt := 14) hx hb dX9_isIn_2 (by decide) (fun c => absurd c (by decide)) (fun _ => ?_)
  refine lv_iload_n hx hb dX9_isIn_5 rfl (lv_at hl 0 rfl) ?_
  refine lv_iload_n hx hb dX9_isIn_6 rfl (lv_at hl 2 rfl) ?_
  refine lv_icmp_gt (tgt := 14) hx hb dX9_isIn_7 (by decide) (fun c => absurd c (by decide)) (fun _ => ?_)
  refine lv_iconst (v := 1) hx hb dX9_isIn_10 (by decide) ?_
  refine lv_goto (tgt := 15) hx hb dX9_isIn_11 (by decide) ?_
  exact rdEndZ S hr hlocks dX9_isIn_15 rfl rfl

set_option maxHeartbeats 8000000 in
set_option maxRecDepth 100000 in
theorem c_X9_ofProcedureNow_2 (l : Launch) (D : va_G) (cI cZ cJ : ClassId) (o : Nat) (q : Nat → Nat) : Met l yX9_ofProcedureNow (uW yX9_ofProcedureNow cX9_ofProcedureNow 3 (some .int)) ({ frames := 0, cells := 0, slots := 0, locals := 0 }) (va_Pc [.ref o, .int 0, .int 1] (pS D (tyL cI cZ cJ) (mW o 0 q cI cZ))) (QcRead ((-1))) 0 0 (fun _ => False) := by
  refine rdStart (lv := [(0, .ref o), (1, .int 0), (2, .int 1)]) (by decide) (Nat.le_of_ble_eq_true rfl) rfl ?_
  intro p e s m args below meth c ls S hr hlocks hl hP hK
  have hx := S.1
  have hb := S.2.1
  refine lv_iload_n hx hb dX9_ofProcedureNow_0 rfl (lv_at hl 2 rfl) ?_
  refine lv_tableIn (off := 50) (tgt := 51) hx hb dX9_ofProcedureNow_1 (by decide) (by decide) (by decide) (by decide) ?_
  refine lv_aload_n hx hb dX9_ofProcedureNow_51 rfl (lv_at hl 0 rfl) ?_
  refine xg (ci := 9) S inX9 rfl hK hP mW_0 3 (by decide) mF_3 kw_6_151 rfl dX9_ofProcedureNow_52 ?_
  refine lv_iload_n hx hb dX9_ofProcedureNow_55 rfl (lv_at hl 1 rfl) ?_
  refine xiald (t0 := 0) (v := (-1)) S hK hP mW_2 rfl (vin rfl) rfl dX9_ofProcedureNow_56 ?_
  exact rdEnd S hr hlocks dX9_ofProcedureNow_57 rfl

set_option maxHeartbeats 8000000 in
set_option maxRecDepth 100000 in
theorem c_X9_ofProcedure_9 (l : Launch) (D : va_G) (cI cZ cJ : ClassId) (o : Nat) (q : Nat → Nat) (sz : Nat) : Met l yX9_ofProcedure (uW yX9_ofProcedure cX9_ofProcedure 3 (some .int)) ({ frames := 2, cells := 0, slots := 0, locals := 43 }) (va_Pc [.ref o, .int 0, .int 1] (wS D (tyL cI cZ cJ) (mW o 0 q cI cZ) sz)) (wQi ((-1)) D (mW o 0 q cI cZ) (va_A (mW o 0 q cI cZ) sz)) 0 0 (va_A (mW o 0 q cI cZ) sz) := by
  refine wStart (lv := [(0, .ref o), (1, .int 0), (2, .int 1)]) (Qc := fun A => wQi ((-1)) D (mW o 0 q cI cZ) A) (by decide) (Nat.le_of_ble_eq_true rfl) rfl ?_
  intro p e s m args below meth c ls A H S hr hlocks hnm hl hK hP hD hS hA
  have hx := S.1
  have hb := S.2.1
  refine lv_aload_n hx hb dX9_ofProcedure_0 rfl (lv_at hl 0 rfl) ?_
  refine lv_iconst (v := 0) hx hb dX9_ofProcedure_1 (by decide) ?_
  refine xp (ci := 9) (v := .int 0) S inX9 tyX9 tyX9_ok nmX9 rfl hK hP hD hS mW_0 0 (by decide) kw_6_148 rfl rfl rfl rfl (Nat.le_of_ble_eq_true rfl) dX9_ofProcedure_2 (fun H locs hP hD hS => ?_)
  have hP : va_P D vwCl (mW o 0 q cI cZ) H := hP
  have hD : va_D A (mW o 0 q cI cZ) := hD
  refine lv_aload_n hx hb dX9_ofProcedure_5 rfl (lv_at hl 0 rfl) ?_
  refine lv_iload_n hx hb dX9_ofProcedure_6 rfl (lv_at hl 1 rfl) ?_
  refine rdV (As := [.int 0]) (ci := 9) S (c_X9_isProcedure_2 l D cI cZ cJ o q) mi_X9_isProcedure kw_7_97 ⟨rfl, rfl⟩ ⟨Nat.le_of_ble_eq_true rfl, Nat.le_of_ble_eq_true rfl⟩ hP hK mW_0 rfl rfl hl.1 (Nat.le_of_ble_eq_true rfl) ⟨Nat.le_of_ble_eq_true rfl, Nat.le_of_ble_eq_true rfl⟩ dX9_ofProcedure_7 ?_
  refine lv_if_ne (tgt := 19) hx hb dX9_ofProcedure_10 (by decide) (fun _ => ?_) (fun c => absurd c (by decide))
  refine lv_iload_n hx hb dX9_ofProcedure_19 rfl (lv_at hl 2 rfl) ?_
  refine lv_iconst (v := 0) hx hb dX9_ofProcedure_20 (by decide) ?_
  refine lv_bipush (v := 7) hx hb dX9_ofProcedure_21 (by decide) ?_
  refine rdS (As := [.int 1, .int 0, .int 7]) S (c_X9_isIn_27 l D cI cZ cJ o q) ms_X9_isIn kw_7_101 ⟨rfl, rfl⟩ ⟨Nat.le_of_ble_eq_true rfl, Nat.le_of_ble_eq_true rfl⟩ hP hK hl.1 (Nat.le_of_ble_eq_true rfl) ⟨Nat.le_of_ble_eq_true rfl, Nat.le_of_ble_eq_true rfl⟩ dX9_ofProcedure_23 ?_
  refine lv_if_eq (tgt := 38) hx hb dX9_ofProcedure_26 (by decide) (fun c => absurd c (by decide)) (fun _ => ?_)
  refine lv_aload_n hx hb dX9_ofProcedure_29 rfl (lv_at hl 0 rfl) ?_
  refine lv_iload_n hx hb dX9_ofProcedure_30 rfl (lv_at hl 1 rfl) ?_
  refine lv_iload_n hx hb dX9_ofProcedure_31 rfl (lv_at hl 2 rfl) ?_
  refine rdV (As := [.int 0, .int 1]) (ci := 9) S (c_X9_ofProcedureNow_2 l D cI cZ cJ o q) mi_X9_ofProcedureNow kw_7_203 ⟨rfl, rfl⟩ ⟨Nat.le_of_ble_eq_true rfl, Nat.le_of_ble_eq_true rfl⟩ hP hK mW_0 rfl rfl hl.1 (Nat.le_of_ble_eq_true rfl) ⟨Nat.le_of_ble_eq_true rfl, Nat.le_of_ble_eq_true rfl⟩ dX9_ofProcedure_32 ?_
  refine lv_goto (tgt := 43) hx hb dX9_ofProcedure_35 (by decide) ?_
  exact wEnd S hr hlocks hP hD hS (Nat.le_of_ble_eq_true rfl) (Nat.le_of_ble_eq_true rfl) dX9_ofProcedure_43 rfl

set_option maxHeartbeats 8000000 in
set_option maxRecDepth 100000 in
theorem h_ofProcedure_10 (l : Launch) (D : va_G) (cI cZ cJ : ClassId) (o : Nat) (u : Nat → Nat) (ao : Nat) (hst : l.stackTraces = false) (ra ga : Nat → Nat) (sz : Nat) (x1 : Int32) (hi_x1 : x1 ≤ (-1)) : vx_Met l yL_ofProcedure (uWh yL_ofProcedure cL_ofProcedure 5 (some .int) [(0, 10, 13, 13), (0, 10, 17, 15)]) ({ frames := 8, cells := 1, slots := 6, locals := 125 }) (va_Pc [.ref o, .int x1, .int 2, .ref ao] (lS ra ga D (tyL cI cZ cJ) ((xW o u cI cZ cJ) ++ [(ao, .inl (cJ, 1, .inr (.inl (fun _ => 0))))]) sz)) (wQi (1) D ((xW o u cI cZ cJ) ++ [(ao, .inl (cJ, 1, .inr (.inl (fun _ => 0))))]) (va_A ((xW o u cI cZ cJ) ++ [(ao, .inl (cJ, 1, .inr (.inl (fun _ => 0))))]) sz)) (xN (va_A ((xW o u cI cZ cJ) ++ [(ao, .inl (cJ, 1, .inr (.inl (fun _ => 0))))]) sz)) 1 6 (va_A ((xW o u cI cZ cJ) ++ [(ao, .inl (cJ, 1, .inr (.inl (fun _ => 0))))]) sz) := by
  refine hStart (l := l) (y := yL_ofProcedure) (b := cL_ofProcedure) (n := 5) (r := (some .int)) (hh := [(0, 10, 13, 13), (0, 10, 17, 15)]) (rm := ({ frames := 8, cells := 1, slots := 6, locals := 125 })) (mc := 1) (ms := 6) (ra := ra) (ga := ga) (D := D) (tys := tyL cI cZ cJ) (ws := ((xW o u cI cZ cJ) ++ [(ao, .inl (cJ, 1, .inr (.inl (fun _ => 0))))])) (av := [.ref o, .int x1, .int 2, .ref ao]) (sz := sz) (lv := [(0, .ref o), (1, .int x1), (2, .int 2), (3, .ref ao)]) (Qc := fun A => wQi (1) D ((xW o u cI cZ cJ) ++ [(ao, .inl (cJ, 1, .inr (.inl (fun _ => 0))))]) A) (by decide) (Nat.le_of_ble_eq_true rfl) rfl ?_
  intro p e s m args below meth c ls A H S hr hlocks htab hl hK hP hD hS hA hB hC
  have hx := S.1
  have hb := S.2.1
  refine lv_aload_n hx hb dL_ofProcedure_0 rfl (lv_at hl 3 rfl) ?_
  refine lv_iconst (v := 0) hx hb dL_ofProcedure_1 (by decide) ?_
  refine lv_aload_n hx hb dL_ofProcedure_2 rfl (lv_at hl 0 rfl) ?_
  refine lv_iload_n hx hb dL_ofProcedure_3 rfl (lv_at hl 1 rfl) ?_
  refine lv_iload_n hx hb dL_ofProcedure_4 rfl (lv_at hl 2 rfl) ?_
  refine cVi [] [(ao, .inl (cJ, 1, .inr (.inl (fun _ => 0))))] (As := [.int x1, .int 2]) (ci := 8) S (c_X8_ofProcedure_10 l D cI cZ cJ o u hst ra ga H.size x1 hi_x1) mi_X8_ofProcedure kw_6_19 rfl rfl ⟨Nat.le_of_ble_eq_true rfl, Nat.le_of_ble_eq_true rfl⟩ hP hD hK hS hA hB xW_0 rfl rfl hl.1 (Nat.le_of_ble_eq_true rfl) ⟨Nat.le_of_ble_eq_true rfl, Nat.le_of_ble_eq_true rfl⟩ dL_ofProcedure_5 (fun ce q9 H locs hz hP hD hS hce hcv hcl => ?_)
  refine vx_catch (name := "java/lang/IndexOutOfBoundsException") S.2.2.2.1 [] (⟨0, 10, 13, 13⟩ : ExceptionTableEntry) [(⟨0, 10, 17, 15⟩ : ExceptionTableEntry)] (htab.trans rfl) (fun _ h => absurd h List.not_mem_nil) (by decide) (by decide) (S.2.2.2.2 _ kw_5_176) (va_Nw.use rfl hB.c0) hce hcv hcl ?_
  have hP : va_P D vwCl ((xW o u cI cZ cJ) ++ [(ao, .inl (cJ, 1, .inr (.inl (fun _ => 0))))]) H := hP
  have hD : va_D A ((xW o u cI cZ cJ) ++ [(ao, .inl (cJ, 1, .inr (.inl (fun _ => 0))))]) := hD
  refine lv_astore (lv' := [(4, .ref q9), (0, .ref o), (1, .int x1), (2, .int 2), (3, .ref ao)]) hx hb dL_ofProcedure_13 hl (by decide) rfl (fun ls hl => ?_)
  refine lv_iconst (v := 1) hx hb dL_ofProcedure_15 (by decide) ?_
  exact vx_ret (wEnd S hr hlocks hP hD hS (Nat.le_of_ble_eq_true rfl) (Nat.le_of_ble_eq_true rfl) dL_ofProcedure_16 rfl)

set_option maxHeartbeats 8000000 in
set_option maxRecDepth 100000 in
theorem c_X9_ofProcedure_10 (l : Launch) (D : va_G) (cI cZ cJ : ClassId) (o : Nat) (q : Nat → Nat) (sz : Nat) (x1 : Int32) (hi_x1 : x1 ≤ (-1)) : Met l yX9_ofProcedure (uW yX9_ofProcedure cX9_ofProcedure 3 (some .int)) ({ frames := 2, cells := 0, slots := 0, locals := 43 }) (va_Pc [.ref o, .int x1, .int 2] (wS D (tyL cI cZ cJ) (mW o 0 q cI cZ) sz)) (wQi (0) D (mW o 1 q cI cZ) (va_A (mW o 0 q cI cZ) sz)) 0 0 (va_A (mW o 0 q cI cZ) sz) := by
  refine wStart (lv := [(0, .ref o), (1, .int x1), (2, .int 2)]) (Qc := fun A => wQi (0) D (mW o 1 q cI cZ) A) (by decide) (Nat.le_of_ble_eq_true rfl) rfl ?_
  intro p e s m args below meth c ls A H S hr hlocks hnm hl hK hP hD hS hA
  have hx := S.1
  have hb := S.2.1
  refine lv_aload_n hx hb dX9_ofProcedure_0 rfl (lv_at hl 0 rfl) ?_
  refine lv_iconst (v := 0) hx hb dX9_ofProcedure_1 (by decide) ?_
  refine xp (ci := 9) (v := .int 0) S inX9 tyX9 tyX9_ok nmX9 rfl hK hP hD hS mW_0 0 (by decide) kw_6_148 rfl rfl rfl rfl (Nat.le_of_ble_eq_true rfl) dX9_ofProcedure_2 (fun H locs hP hD hS => ?_)
  have hP : va_P D vwCl (mW o 0 q cI cZ) H := hP
  have hD : va_D A (mW o 0 q cI cZ) := hD
  refine lv_aload_n hx hb dX9_ofProcedure_5 rfl (lv_at hl 0 rfl) ?_
  refine lv_iload_n hx hb dX9_ofProcedure_6 rfl (lv_at hl 1 rfl) ?_
  refine rdV (As := [.int x1]) (ci := 9) S (c_X9_isProcedure_0 l D cI cZ cJ o q x1 hi_x1) mi_X9_isProcedure kw_7_97 ⟨rfl, rfl⟩ ⟨Nat.le_of_ble_eq_true rfl, Nat.le_of_ble_eq_true rfl⟩ hP hK mW_0 rfl rfl hl.1 (Nat.le_of_ble_eq_true rfl) ⟨Nat.le_of_ble_eq_true rfl, Nat.le_of_ble_eq_true rfl⟩ dX9_ofProcedure_7 ?_
  refine lv_if_ne (tgt := 19) hx hb dX9_ofProcedure_10 (by decide) (fun c => absurd c (by decide)) (fun _ => ?_)
  refine lv_aload_n hx hb dX9_ofProcedure_13 rfl (lv_at hl 0 rfl) ?_
  refine lv_iconst (v := 1) hx hb dX9_ofProcedure_14 (by decide) ?_
  refine wrV (As := [.int 1]) (ci := 9) S (c_X9_no_0 l D cI cZ cJ o q H.size) mi_X9_no kw_7_104 rfl rfl ⟨Nat.le_of_ble_eq_true rfl, Nat.le_of_ble_eq_true rfl⟩ hP hD hK hS hA mW_0 rfl rfl hl.1 (Nat.le_of_ble_eq_true rfl) ⟨Nat.le_of_ble_eq_true rfl, Nat.le_of_ble_eq_true rfl⟩ dX9_ofProcedure_15 (fun H locs hz hP hD hS => ?_)
  exact wEnd S hr hlocks hP hD hS (Nat.le_of_ble_eq_true rfl) (Nat.le_of_ble_eq_true rfl) dX9_ofProcedure_18 rfl

set_option maxHeartbeats 8000000 in
set_option maxRecDepth 100000 in
theorem h_ofProcedure_11 (l : Launch) (D : va_G) (cI cZ cJ : ClassId) (o : Nat) (u : Nat → Nat) (ao : Nat) (hst : l.stackTraces = false) (ra ga : Nat → Nat) (sz : Nat) (x1 : Int32) (lo_x1 : 1 ≤ x1) : vx_Met l yL_ofProcedure (uWh yL_ofProcedure cL_ofProcedure 5 (some .int) [(0, 10, 13, 13), (0, 10, 17, 15)]) ({ frames := 8, cells := 1, slots := 6, locals := 125 }) (va_Pc [.ref o, .int x1, .int 2, .ref ao] (lS ra ga D (tyL cI cZ cJ) ((xW o u cI cZ cJ) ++ [(ao, .inl (cJ, 1, .inr (.inl (fun _ => 0))))]) sz)) (wQi (1) D ((xW o u cI cZ cJ) ++ [(ao, .inl (cJ, 1, .inr (.inl (fun _ => 0))))]) (va_A ((xW o u cI cZ cJ) ++ [(ao, .inl (cJ, 1, .inr (.inl (fun _ => 0))))]) sz)) (xN (va_A ((xW o u cI cZ cJ) ++ [(ao, .inl (cJ, 1, .inr (.inl (fun _ => 0))))]) sz)) 1 6 (va_A ((xW o u cI cZ cJ) ++ [(ao, .inl (cJ, 1, .inr (.inl (fun _ => 0))))]) sz) := by
  refine hStart (l := l) (y := yL_ofProcedure) (b := cL_ofProcedure) (n := 5) (r := (some .int)) (hh := [(0, 10, 13, 13), (0, 10, 17, 15)]) (rm := ({ frames := 8, cells := 1, slots := 6, locals := 125 })) (mc := 1) (ms := 6) (ra := ra) (ga := ga) (D := D) (tys := tyL cI cZ cJ) (ws := ((xW o u cI cZ cJ) ++ [(ao, .inl (cJ, 1, .inr (.inl (fun _ => 0))))])) (av := [.ref o, .int x1, .int 2, .ref ao]) (sz := sz) (lv := [(0, .ref o), (1, .int x1), (2, .int 2), (3, .ref ao)]) (Qc := fun A => wQi (1) D ((xW o u cI cZ cJ) ++ [(ao, .inl (cJ, 1, .inr (.inl (fun _ => 0))))]) A) (by decide) (Nat.le_of_ble_eq_true rfl) rfl ?_
  intro p e s m args below meth c ls A H S hr hlocks htab hl hK hP hD hS hA hB hC
  have hx := S.1
  have hb := S.2.1
  refine lv_aload_n hx hb dL_ofProcedure_0 rfl (lv_at hl 3 rfl) ?_
  refine lv_iconst (v := 0) hx hb dL_ofProcedure_1 (by decide) ?_
  refine lv_aload_n hx hb dL_ofProcedure_2 rfl (lv_at hl 0 rfl) ?_
  refine lv_iload_n hx hb dL_ofProcedure_3 rfl (lv_at hl 1 rfl) ?_
  refine lv_iload_n hx hb dL_ofProcedure_4 rfl (lv_at hl 2 rfl) ?_
  refine cVi [] [(ao, .inl (cJ, 1, .inr (.inl (fun _ => 0))))] (As := [.int x1, .int 2]) (ci := 8) S (c_X8_ofProcedure_11 l D cI cZ cJ o u hst ra ga H.size x1 lo_x1) mi_X8_ofProcedure kw_6_19 rfl rfl ⟨Nat.le_of_ble_eq_true rfl, Nat.le_of_ble_eq_true rfl⟩ hP hD hK hS hA hB xW_0 rfl rfl hl.1 (Nat.le_of_ble_eq_true rfl) ⟨Nat.le_of_ble_eq_true rfl, Nat.le_of_ble_eq_true rfl⟩ dL_ofProcedure_5 (fun ce q9 H locs hz hP hD hS hce hcv hcl => ?_)
  refine vx_catch (name := "java/lang/IndexOutOfBoundsException") S.2.2.2.1 [] (⟨0, 10, 13, 13⟩ : ExceptionTableEntry) [(⟨0, 10, 17, 15⟩ : ExceptionTableEntry)] (htab.trans rfl) (fun _ h => absurd h List.not_mem_nil) (by decide) (by decide) (S.2.2.2.2 _ kw_5_176) (va_Nw.use rfl hB.c0) hce hcv hcl ?_
  have hP : va_P D vwCl ((xW o u cI cZ cJ) ++ [(ao, .inl (cJ, 1, .inr (.inl (fun _ => 0))))]) H := hP
  have hD : va_D A ((xW o u cI cZ cJ) ++ [(ao, .inl (cJ, 1, .inr (.inl (fun _ => 0))))]) := hD
  refine lv_astore (lv' := [(4, .ref q9), (0, .ref o), (1, .int x1), (2, .int 2), (3, .ref ao)]) hx hb dL_ofProcedure_13 hl (by decide) rfl (fun ls hl => ?_)
  refine lv_iconst (v := 1) hx hb dL_ofProcedure_15 (by decide) ?_
  exact vx_ret (wEnd S hr hlocks hP hD hS (Nat.le_of_ble_eq_true rfl) (Nat.le_of_ble_eq_true rfl) dL_ofProcedure_16 rfl)

set_option maxHeartbeats 8000000 in
set_option maxRecDepth 100000 in
theorem c_X9_ofProcedure_11 (l : Launch) (D : va_G) (cI cZ cJ : ClassId) (o : Nat) (q : Nat → Nat) (sz : Nat) (x1 : Int32) (lo_x1 : 1 ≤ x1) : Met l yX9_ofProcedure (uW yX9_ofProcedure cX9_ofProcedure 3 (some .int)) ({ frames := 2, cells := 0, slots := 0, locals := 43 }) (va_Pc [.ref o, .int x1, .int 2] (wS D (tyL cI cZ cJ) (mW o 0 q cI cZ) sz)) (wQi (0) D (mW o 1 q cI cZ) (va_A (mW o 0 q cI cZ) sz)) 0 0 (va_A (mW o 0 q cI cZ) sz) := by
  refine wStart (lv := [(0, .ref o), (1, .int x1), (2, .int 2)]) (Qc := fun A => wQi (0) D (mW o 1 q cI cZ) A) (by decide) (Nat.le_of_ble_eq_true rfl) rfl ?_
  intro p e s m args below meth c ls A H S hr hlocks hnm hl hK hP hD hS hA
  have hx := S.1
  have hb := S.2.1
  refine lv_aload_n hx hb dX9_ofProcedure_0 rfl (lv_at hl 0 rfl) ?_
  refine lv_iconst (v := 0) hx hb dX9_ofProcedure_1 (by decide) ?_
  refine xp (ci := 9) (v := .int 0) S inX9 tyX9 tyX9_ok nmX9 rfl hK hP hD hS mW_0 0 (by decide) kw_6_148 rfl rfl rfl rfl (Nat.le_of_ble_eq_true rfl) dX9_ofProcedure_2 (fun H locs hP hD hS => ?_)
  have hP : va_P D vwCl (mW o 0 q cI cZ) H := hP
  have hD : va_D A (mW o 0 q cI cZ) := hD
  refine lv_aload_n hx hb dX9_ofProcedure_5 rfl (lv_at hl 0 rfl) ?_
  refine lv_iload_n hx hb dX9_ofProcedure_6 rfl (lv_at hl 1 rfl) ?_
  refine rdV (As := [.int x1]) (ci := 9) S (c_X9_isProcedure_1 l D cI cZ cJ o q x1 lo_x1) mi_X9_isProcedure kw_7_97 ⟨rfl, rfl⟩ ⟨Nat.le_of_ble_eq_true rfl, Nat.le_of_ble_eq_true rfl⟩ hP hK mW_0 rfl rfl hl.1 (Nat.le_of_ble_eq_true rfl) ⟨Nat.le_of_ble_eq_true rfl, Nat.le_of_ble_eq_true rfl⟩ dX9_ofProcedure_7 ?_
  refine lv_if_ne (tgt := 19) hx hb dX9_ofProcedure_10 (by decide) (fun c => absurd c (by decide)) (fun _ => ?_)
  refine lv_aload_n hx hb dX9_ofProcedure_13 rfl (lv_at hl 0 rfl) ?_
  refine lv_iconst (v := 1) hx hb dX9_ofProcedure_14 (by decide) ?_
  refine wrV (As := [.int 1]) (ci := 9) S (c_X9_no_0 l D cI cZ cJ o q H.size) mi_X9_no kw_7_104 rfl rfl ⟨Nat.le_of_ble_eq_true rfl, Nat.le_of_ble_eq_true rfl⟩ hP hD hK hS hA mW_0 rfl rfl hl.1 (Nat.le_of_ble_eq_true rfl) ⟨Nat.le_of_ble_eq_true rfl, Nat.le_of_ble_eq_true rfl⟩ dX9_ofProcedure_15 (fun H locs hz hP hD hS => ?_)
  exact wEnd S hr hlocks hP hD hS (Nat.le_of_ble_eq_true rfl) (Nat.le_of_ble_eq_true rfl) dX9_ofProcedure_18 rfl

set_option maxHeartbeats 8000000 in
set_option maxRecDepth 100000 in
theorem h_ofProcedure_12 (l : Launch) (D : va_G) (cI cZ cJ : ClassId) (o : Nat) (u : Nat → Nat) (ao : Nat) (hst : l.stackTraces = false) (ra ga : Nat → Nat) (sz : Nat) : vx_Met l yL_ofProcedure (uWh yL_ofProcedure cL_ofProcedure 5 (some .int) [(0, 10, 13, 13), (0, 10, 17, 15)]) ({ frames := 5, cells := 0, slots := 0, locals := 107 }) (va_Pc [.ref o, .int 0, .int 2, .ref ao] (lS ra ga D (tyL cI cZ cJ) ((xW o u cI cZ cJ) ++ [(ao, .inl (cJ, 1, .inr (.inl (fun _ => 0))))]) sz)) (wQi (0) D ((((((((xW o u cI cZ cJ).set 0 (o, .inr (8, ((xF u).set 9 (.int 0))))).set 32 ((u 31), .inl (cZ, 10, .inl (upd (upd (upd (upd (upd (upd (upd (upd (upd (upd (fun _ => 0) (0 : Int32).toNatClampNeg 0) (1 : Int32).toNatClampNeg 0) (2 : Int32).toNatClampNeg 0) (3 : Int32).toNatClampNeg 0) (4 : Int32).toNatClampNeg 0) (5 : Int32).toNatClampNeg 0) (6 : Int32).toNatClampNeg 0) (7 : Int32).toNatClampNeg 0) (8 : Int32).toNatClampNeg 0) (9 : Int32).toNatClampNeg 0)))).set 34 ((u 33), .inr (2, ([.ref (u 0), .ref (u 12), .ref (u 19), .int 0, .ref (u 34), .ref (u 35), .ref (u 36), .ref (u 37), .int 0].set 3 (.int 1))))).set 35 ((u 34), .inl (cI, 120, .inl (upd (fun _ => 0) (0 : Int32).toNatClampNeg 10)))).set 36 ((u 35), .inl (cI, 120, .inl (upd (fun _ => 0) (0 : Int32).toNatClampNeg 0)))).set 37 ((u 36), .inl (cI, 120, .inl (upd (fun _ => 0) (0 : Int32).toNatClampNeg (-1))))) ++ [(ao, .inl (cJ, 1, .inr (.inl (vp_updL (fun _ => 0) (0 : Int32).toNatClampNeg 0))))]) (va_A ((xW o u cI cZ cJ) ++ [(ao, .inl (cJ, 1, .inr (.inl (fun _ => 0))))]) sz)) (xN (va_A ((xW o u cI cZ cJ) ++ [(ao, .inl (cJ, 1, .inr (.inl (fun _ => 0))))]) sz)) 0 0 (va_A ((xW o u cI cZ cJ) ++ [(ao, .inl (cJ, 1, .inr (.inl (fun _ => 0))))]) sz) := by
  refine hStart (l := l) (y := yL_ofProcedure) (b := cL_ofProcedure) (n := 5) (r := (some .int)) (hh := [(0, 10, 13, 13), (0, 10, 17, 15)]) (rm := ({ frames := 5, cells := 0, slots := 0, locals := 107 })) (mc := 0) (ms := 0) (ra := ra) (ga := ga) (D := D) (tys := tyL cI cZ cJ) (ws := ((xW o u cI cZ cJ) ++ [(ao, .inl (cJ, 1, .inr (.inl (fun _ => 0))))])) (av := [.ref o, .int 0, .int 2, .ref ao]) (sz := sz) (lv := [(0, .ref o), (1, .int 0), (2, .int 2), (3, .ref ao)]) (Qc := fun A => wQi (0) D ((((((((xW o u cI cZ cJ).set 0 (o, .inr (8, ((xF u).set 9 (.int 0))))).set 32 ((u 31), .inl (cZ, 10, .inl (upd (upd (upd (upd (upd (upd (upd (upd (upd (upd (fun _ => 0) (0 : Int32).toNatClampNeg 0) (1 : Int32).toNatClampNeg 0) (2 : Int32).toNatClampNeg 0) (3 : Int32).toNatClampNeg 0) (4 : Int32).toNatClampNeg 0) (5 : Int32).toNatClampNeg 0) (6 : Int32).toNatClampNeg 0) (7 : Int32).toNatClampNeg 0) (8 : Int32).toNatClampNeg 0) (9 : Int32).toNatClampNeg 0)))).set 34 ((u 33), .inr (2, ([.ref (u 0), .ref (u 12), .ref (u 19), .int 0, .ref (u 34), .ref (u 35), .ref (u 36), .ref (u 37), .int 0].set 3 (.int 1))))).set 35 ((u 34), .inl (cI, 120, .inl (upd (fun _ => 0) (0 : Int32).toNatClampNeg 10)))).set 36 ((u 35), .inl (cI, 120, .inl (upd (fun _ => 0) (0 : Int32).toNatClampNeg 0)))).set 37 ((u 36), .inl (cI, 120, .inl (upd (fun _ => 0) (0 : Int32).toNatClampNeg (-1))))) ++ [(ao, .inl (cJ, 1, .inr (.inl (vp_updL (fun _ => 0) (0 : Int32).toNatClampNeg 0))))]) A) (by decide) (Nat.le_of_ble_eq_true rfl) rfl ?_
  intro p e s m args below meth c ls A H S hr hlocks htab hl hK hP hD hS hA hB hC
  have hx := S.1
  have hb := S.2.1
  refine lv_aload_n hx hb dL_ofProcedure_0 rfl (lv_at hl 3 rfl) ?_
  refine lv_iconst (v := 0) hx hb dL_ofProcedure_1 (by decide) ?_
  refine lv_aload_n hx hb dL_ofProcedure_2 rfl (lv_at hl 0 rfl) ?_
  refine lv_iload_n hx hb dL_ofProcedure_3 rfl (lv_at hl 1 rfl) ?_
  refine lv_iload_n hx hb dL_ofProcedure_4 rfl (lv_at hl 2 rfl) ?_
  refine faVi [] [(ao, .inl (cJ, 1, .inr (.inl (fun _ => 0))))] (As := [.int 0, .int 2]) (ci := 8) S (c_X8_ofProcedure_12 l D cI cZ cJ o u ra ga H.size) mi_X8_ofProcedure kw_6_19 rfl rfl ⟨Nat.le_of_ble_eq_true rfl, Nat.le_of_ble_eq_true rfl⟩ hP hD hK hS hA hB xW_0 rfl rfl hl.1 (Nat.le_of_ble_eq_true rfl) ⟨Nat.le_of_ble_eq_true rfl, Nat.le_of_ble_eq_true rfl⟩ dL_ofProcedure_5 (fun H locs hz hP hD hS => ?_)
  have hP : va_P D vwCl ((((((((xW o u cI cZ cJ).set 0 (o, .inr (8, ((xF u).set 9 (.int 0))))).set 32 ((u 31), .inl (cZ, 10, .inl (upd (upd (upd (upd (upd (upd (upd (upd (upd (upd (fun _ => 0) (0 : Int32).toNatClampNeg 0) (1 : Int32).toNatClampNeg 0) (2 : Int32).toNatClampNeg 0) (3 : Int32).toNatClampNeg 0) (4 : Int32).toNatClampNeg 0) (5 : Int32).toNatClampNeg 0) (6 : Int32).toNatClampNeg 0) (7 : Int32).toNatClampNeg 0) (8 : Int32).toNatClampNeg 0) (9 : Int32).toNatClampNeg 0)))).set 34 ((u 33), .inr (2, ([.ref (u 0), .ref (u 12), .ref (u 19), .int 0, .ref (u 34), .ref (u 35), .ref (u 36), .ref (u 37), .int 0].set 3 (.int 1))))).set 35 ((u 34), .inl (cI, 120, .inl (upd (fun _ => 0) (0 : Int32).toNatClampNeg 10)))).set 36 ((u 35), .inl (cI, 120, .inl (upd (fun _ => 0) (0 : Int32).toNatClampNeg 0)))).set 37 ((u 36), .inl (cI, 120, .inl (upd (fun _ => 0) (0 : Int32).toNatClampNeg (-1))))) ++ [(ao, .inl (cJ, 1, .inr (.inl (fun _ => 0))))]) H := hP
  have hD : va_D A ((((((((xW o u cI cZ cJ).set 0 (o, .inr (8, ((xF u).set 9 (.int 0))))).set 32 ((u 31), .inl (cZ, 10, .inl (upd (upd (upd (upd (upd (upd (upd (upd (upd (upd (fun _ => 0) (0 : Int32).toNatClampNeg 0) (1 : Int32).toNatClampNeg 0) (2 : Int32).toNatClampNeg 0) (3 : Int32).toNatClampNeg 0) (4 : Int32).toNatClampNeg 0) (5 : Int32).toNatClampNeg 0) (6 : Int32).toNatClampNeg 0) (7 : Int32).toNatClampNeg 0) (8 : Int32).toNatClampNeg 0) (9 : Int32).toNatClampNeg 0)))).set 34 ((u 33), .inr (2, ([.ref (u 0), .ref (u 12), .ref (u 19), .int 0, .ref (u 34), .ref (u 35), .ref (u 36), .ref (u 37), .int 0].set 3 (.int 1))))).set 35 ((u 34), .inl (cI, 120, .inl (upd (fun _ => 0) (0 : Int32).toNatClampNeg 10)))).set 36 ((u 35), .inl (cI, 120, .inl (upd (fun _ => 0) (0 : Int32).toNatClampNeg 0)))).set 37 ((u 36), .inl (cI, 120, .inl (upd (fun _ => 0) (0 : Int32).toNatClampNeg (-1))))) ++ [(ao, .inl (cJ, 1, .inr (.inl (fun _ => 0))))]) := hD
  refine lv_i2l (v := 0) hx hb dL_ofProcedure_8 (by decide) ?_
  refine xlast (t0 := 2) S hK hP hD hS (q0 := 88) rfl rfl (vin rfl) dL_ofProcedure_9 (fun H locs hP hD hS => ?_)
  have hP : va_P D vwCl ((((((((xW o u cI cZ cJ).set 0 (o, .inr (8, ((xF u).set 9 (.int 0))))).set 32 ((u 31), .inl (cZ, 10, .inl (upd (upd (upd (upd (upd (upd (upd (upd (upd (upd (fun _ => 0) (0 : Int32).toNatClampNeg 0) (1 : Int32).toNatClampNeg 0) (2 : Int32).toNatClampNeg 0) (3 : Int32).toNatClampNeg 0) (4 : Int32).toNatClampNeg 0) (5 : Int32).toNatClampNeg 0) (6 : Int32).toNatClampNeg 0) (7 : Int32).toNatClampNeg 0) (8 : Int32).toNatClampNeg 0) (9 : Int32).toNatClampNeg 0)))).set 34 ((u 33), .inr (2, ([.ref (u 0), .ref (u 12), .ref (u 19), .int 0, .ref (u 34), .ref (u 35), .ref (u 36), .ref (u 37), .int 0].set 3 (.int 1))))).set 35 ((u 34), .inl (cI, 120, .inl (upd (fun _ => 0) (0 : Int32).toNatClampNeg 10)))).set 36 ((u 35), .inl (cI, 120, .inl (upd (fun _ => 0) (0 : Int32).toNatClampNeg 0)))).set 37 ((u 36), .inl (cI, 120, .inl (upd (fun _ => 0) (0 : Int32).toNatClampNeg (-1))))) ++ [(ao, .inl (cJ, 1, .inr (.inl (vp_updL (fun _ => 0) (0 : Int32).toNatClampNeg 0))))]) H := hP
  have hD : va_D A ((((((((xW o u cI cZ cJ).set 0 (o, .inr (8, ((xF u).set 9 (.int 0))))).set 32 ((u 31), .inl (cZ, 10, .inl (upd (upd (upd (upd (upd (upd (upd (upd (upd (upd (fun _ => 0) (0 : Int32).toNatClampNeg 0) (1 : Int32).toNatClampNeg 0) (2 : Int32).toNatClampNeg 0) (3 : Int32).toNatClampNeg 0) (4 : Int32).toNatClampNeg 0) (5 : Int32).toNatClampNeg 0) (6 : Int32).toNatClampNeg 0) (7 : Int32).toNatClampNeg 0) (8 : Int32).toNatClampNeg 0) (9 : Int32).toNatClampNeg 0)))).set 34 ((u 33), .inr (2, ([.ref (u 0), .ref (u 12), .ref (u 19), .int 0, .ref (u 34), .ref (u 35), .ref (u 36), .ref (u 37), .int 0].set 3 (.int 1))))).set 35 ((u 34), .inl (cI, 120, .inl (upd (fun _ => 0) (0 : Int32).toNatClampNeg 10)))).set 36 ((u 35), .inl (cI, 120, .inl (upd (fun _ => 0) (0 : Int32).toNatClampNeg 0)))).set 37 ((u 36), .inl (cI, 120, .inl (upd (fun _ => 0) (0 : Int32).toNatClampNeg (-1))))) ++ [(ao, .inl (cJ, 1, .inr (.inl (vp_updL (fun _ => 0) (0 : Int32).toNatClampNeg 0))))]) := hD
  refine lv_goto (tgt := 21) hx hb dL_ofProcedure_10 (by decide) ?_
  refine lv_iconst (v := 0) hx hb dL_ofProcedure_21 (by decide) ?_
  exact vx_ret (wEnd S hr hlocks hP hD hS (Nat.le_of_ble_eq_true rfl) (Nat.le_of_ble_eq_true rfl) dL_ofProcedure_22 rfl)

set_option maxHeartbeats 8000000 in
set_option maxRecDepth 100000 in
theorem c_X9_isIn_28 (l : Launch) (D : va_G) (cI cZ cJ : ClassId) (o : Nat) (q : Nat → Nat) : Met l yX9_isIn (uW yX9_isIn cX9_isIn 3 (some .boolean)) ({ frames := 0, cells := 0, slots := 0, locals := 0 }) (va_Pc [.int 2, .int 0, .int 7] (pS D (tyL cI cZ cJ) (mW o 0 q cI cZ))) (QcRead (1)) 0 0 (fun _ => False) := by
  refine rdStart (lv := [(0, .int 2), (1, .int 0), (2, .int 7)]) (by decide) (Nat.le_of_ble_eq_true rfl) rfl ?_
  intro p e s m args below meth c ls S hr hlocks hl hP hK
  have hx := S.1
  have hb := S.2.1
  refine lv_iload_n hx hb dX9_isIn_0 rfl (lv_at hl 0 rfl) ?_
  refine lv_iload_n hx hb dX9_isIn_1 rfl (lv_at hl 1 rfl) ?_
  refine lv_icmp_lt (tgt := 14) hx hb dX9_isIn_2 (by decide) (fun c => absurd c (by decide)) (fun _ => ?_)
  refine lv_iload_n hx hb dX9_isIn_5 rfl (lv_at hl 0 rfl) ?_
  refine lv_iload_n hx hb dX9_isIn_6 rfl (lv_at hl 2 rfl) ?_
  refine lv_icmp_gt (tgt := 14) hx hb dX9_isIn_7 (by decide) (fun c => absurd c (by decide)) (fun _ => ?_)
  refine lv_iconst (v := 1) hx hb dX9_isIn_10 (by decide) ?_
  refine lv_goto (tgt := 15) hx hb dX9_isIn_11 (by decide) ?_
  exact rdEndZ S hr hlocks dX9_isIn_15 rfl rfl

set_option maxHeartbeats 8000000 in
set_option maxRecDepth 100000 in
theorem c_X9_ofProcedureNow_3 (l : Launch) (D : va_G) (cI cZ cJ : ClassId) (o : Nat) (q : Nat → Nat) : Met l yX9_ofProcedureNow (uW yX9_ofProcedureNow cX9_ofProcedureNow 3 (some .int)) ({ frames := 0, cells := 0, slots := 0, locals := 0 }) (va_Pc [.ref o, .int 0, .int 2] (pS D (tyL cI cZ cJ) (mW o 0 q cI cZ))) (QcRead (0)) 0 0 (fun _ => False) := by
  refine rdStart (lv := [(0, .ref o), (1, .int 0), (2, .int 2)]) (by decide) (Nat.le_of_ble_eq_true rfl) rfl ?_
  intro p e s m args below meth c ls S hr hlocks hl hP hK
  have hx := S.1
  have hb := S.2.1
  refine lv_iload_n hx hb dX9_ofProcedureNow_0 rfl (lv_at hl 2 rfl) ?_
  refine lv_tableIn (off := 57) (tgt := 58) hx hb dX9_ofProcedureNow_1 (by decide) (by decide) (by decide) (by decide) ?_
  refine lv_aload_n hx hb dX9_ofProcedureNow_58 rfl (lv_at hl 0 rfl) ?_
  refine xg (ci := 9) S inX9 rfl hK hP mW_0 4 (by decide) mF_4 kw_6_152 rfl dX9_ofProcedureNow_59 ?_
  refine lv_iload_n hx hb dX9_ofProcedureNow_62 rfl (lv_at hl 1 rfl) ?_
  refine xiald (t0 := 0) (v := 0) S hK hP mW_3 rfl (vin rfl) rfl dX9_ofProcedureNow_63 ?_
  exact rdEnd S hr hlocks dX9_ofProcedureNow_64 rfl

set_option maxHeartbeats 8000000 in
set_option maxRecDepth 100000 in
theorem c_X9_ofProcedure_12 (l : Launch) (D : va_G) (cI cZ cJ : ClassId) (o : Nat) (q : Nat → Nat) (sz : Nat) : Met l yX9_ofProcedure (uW yX9_ofProcedure cX9_ofProcedure 3 (some .int)) ({ frames := 2, cells := 0, slots := 0, locals := 43 }) (va_Pc [.ref o, .int 0, .int 2] (wS D (tyL cI cZ cJ) (mW o 0 q cI cZ) sz)) (wQi (0) D (mW o 0 q cI cZ) (va_A (mW o 0 q cI cZ) sz)) 0 0 (va_A (mW o 0 q cI cZ) sz) := by
  refine wStart (lv := [(0, .ref o), (1, .int 0), (2, .int 2)]) (Qc := fun A => wQi (0) D (mW o 0 q cI cZ) A) (by decide) (Nat.le_of_ble_eq_true rfl) rfl ?_
  intro p e s m args below meth c ls A H S hr hlocks hnm hl hK hP hD hS hA
  have hx := S.1
  have hb := S.2.1
  refine lv_aload_n hx hb dX9_ofProcedure_0 rfl (lv_at hl 0 rfl) ?_
  refine lv_iconst (v := 0) hx hb dX9_ofProcedure_1 (by decide) ?_
  refine xp (ci := 9) (v := .int 0) S inX9 tyX9 tyX9_ok nmX9 rfl hK hP hD hS mW_0 0 (by decide) kw_6_148 rfl rfl rfl rfl (Nat.le_of_ble_eq_true rfl) dX9_ofProcedure_2 (fun H locs hP hD hS => ?_)
  have hP : va_P D vwCl (mW o 0 q cI cZ) H := hP
  have hD : va_D A (mW o 0 q cI cZ) := hD
  refine lv_aload_n hx hb dX9_ofProcedure_5 rfl (lv_at hl 0 rfl) ?_
  refine lv_iload_n hx hb dX9_ofProcedure_6 rfl (lv_at hl 1 rfl) ?_
  refine rdV (As := [.int 0]) (ci := 9) S (c_X9_isProcedure_2 l D cI cZ cJ o q) mi_X9_isProcedure kw_7_97 ⟨rfl, rfl⟩ ⟨Nat.le_of_ble_eq_true rfl, Nat.le_of_ble_eq_true rfl⟩ hP hK mW_0 rfl rfl hl.1 (Nat.le_of_ble_eq_true rfl) ⟨Nat.le_of_ble_eq_true rfl, Nat.le_of_ble_eq_true rfl⟩ dX9_ofProcedure_7 ?_
  refine lv_if_ne (tgt := 19) hx hb dX9_ofProcedure_10 (by decide) (fun _ => ?_) (fun c => absurd c (by decide))
  refine lv_iload_n hx hb dX9_ofProcedure_19 rfl (lv_at hl 2 rfl) ?_
  refine lv_iconst (v := 0) hx hb dX9_ofProcedure_20 (by decide) ?_
  refine lv_bipush (v := 7) hx hb dX9_ofProcedure_21 (by decide) ?_
  refine rdS (As := [.int 2, .int 0, .int 7]) S (c_X9_isIn_28 l D cI cZ cJ o q) ms_X9_isIn kw_7_101 ⟨rfl, rfl⟩ ⟨Nat.le_of_ble_eq_true rfl, Nat.le_of_ble_eq_true rfl⟩ hP hK hl.1 (Nat.le_of_ble_eq_true rfl) ⟨Nat.le_of_ble_eq_true rfl, Nat.le_of_ble_eq_true rfl⟩ dX9_ofProcedure_23 ?_
  refine lv_if_eq (tgt := 38) hx hb dX9_ofProcedure_26 (by decide) (fun c => absurd c (by decide)) (fun _ => ?_)
  refine lv_aload_n hx hb dX9_ofProcedure_29 rfl (lv_at hl 0 rfl) ?_
  refine lv_iload_n hx hb dX9_ofProcedure_30 rfl (lv_at hl 1 rfl) ?_
  refine lv_iload_n hx hb dX9_ofProcedure_31 rfl (lv_at hl 2 rfl) ?_
  refine rdV (As := [.int 0, .int 2]) (ci := 9) S (c_X9_ofProcedureNow_3 l D cI cZ cJ o q) mi_X9_ofProcedureNow kw_7_203 ⟨rfl, rfl⟩ ⟨Nat.le_of_ble_eq_true rfl, Nat.le_of_ble_eq_true rfl⟩ hP hK mW_0 rfl rfl hl.1 (Nat.le_of_ble_eq_true rfl) ⟨Nat.le_of_ble_eq_true rfl, Nat.le_of_ble_eq_true rfl⟩ dX9_ofProcedure_32 ?_
  refine lv_goto (tgt := 43) hx hb dX9_ofProcedure_35 (by decide) ?_
  exact wEnd S hr hlocks hP hD hS (Nat.le_of_ble_eq_true rfl) (Nat.le_of_ble_eq_true rfl) dX9_ofProcedure_43 rfl

set_option maxHeartbeats 8000000 in
set_option maxRecDepth 100000 in
theorem h_ofProcedure_13 (l : Launch) (D : va_G) (cI cZ cJ : ClassId) (o : Nat) (u : Nat → Nat) (ao : Nat) (hst : l.stackTraces = false) (ra ga : Nat → Nat) (sz : Nat) (x1 : Int32) (hi_x1 : x1 ≤ (-1)) : vx_Met l yL_ofProcedure (uWh yL_ofProcedure cL_ofProcedure 5 (some .int) [(0, 10, 13, 13), (0, 10, 17, 15)]) ({ frames := 8, cells := 1, slots := 6, locals := 125 }) (va_Pc [.ref o, .int x1, .int 3, .ref ao] (lS ra ga D (tyL cI cZ cJ) ((xW o u cI cZ cJ) ++ [(ao, .inl (cJ, 1, .inr (.inl (fun _ => 0))))]) sz)) (wQi (1) D ((xW o u cI cZ cJ) ++ [(ao, .inl (cJ, 1, .inr (.inl (fun _ => 0))))]) (va_A ((xW o u cI cZ cJ) ++ [(ao, .inl (cJ, 1, .inr (.inl (fun _ => 0))))]) sz)) (xN (va_A ((xW o u cI cZ cJ) ++ [(ao, .inl (cJ, 1, .inr (.inl (fun _ => 0))))]) sz)) 1 6 (va_A ((xW o u cI cZ cJ) ++ [(ao, .inl (cJ, 1, .inr (.inl (fun _ => 0))))]) sz) := by
  refine hStart (l := l) (y := yL_ofProcedure) (b := cL_ofProcedure) (n := 5) (r := (some .int)) (hh := [(0, 10, 13, 13), (0, 10, 17, 15)]) (rm := ({ frames := 8, cells := 1, slots := 6, locals := 125 })) (mc := 1) (ms := 6) (ra := ra) (ga := ga) (D := D) (tys := tyL cI cZ cJ) (ws := ((xW o u cI cZ cJ) ++ [(ao, .inl (cJ, 1, .inr (.inl (fun _ => 0))))])) (av := [.ref o, .int x1, .int 3, .ref ao]) (sz := sz) (lv := [(0, .ref o), (1, .int x1), (2, .int 3), (3, .ref ao)]) (Qc := fun A => wQi (1) D ((xW o u cI cZ cJ) ++ [(ao, .inl (cJ, 1, .inr (.inl (fun _ => 0))))]) A) (by decide) (Nat.le_of_ble_eq_true rfl) rfl ?_
  intro p e s m args below meth c ls A H S hr hlocks htab hl hK hP hD hS hA hB hC
  have hx := S.1
  have hb := S.2.1
  refine lv_aload_n hx hb dL_ofProcedure_0 rfl (lv_at hl 3 rfl) ?_
  refine lv_iconst (v := 0) hx hb dL_ofProcedure_1 (by decide) ?_
  refine lv_aload_n hx hb dL_ofProcedure_2 rfl (lv_at hl 0 rfl) ?_
  refine lv_iload_n hx hb dL_ofProcedure_3 rfl (lv_at hl 1 rfl) ?_
  refine lv_iload_n hx hb dL_ofProcedure_4 rfl (lv_at hl 2 rfl) ?_
  refine cVi [] [(ao, .inl (cJ, 1, .inr (.inl (fun _ => 0))))] (As := [.int x1, .int 3]) (ci := 8) S (c_X8_ofProcedure_13 l D cI cZ cJ o u hst ra ga H.size x1 hi_x1) mi_X8_ofProcedure kw_6_19 rfl rfl ⟨Nat.le_of_ble_eq_true rfl, Nat.le_of_ble_eq_true rfl⟩ hP hD hK hS hA hB xW_0 rfl rfl hl.1 (Nat.le_of_ble_eq_true rfl) ⟨Nat.le_of_ble_eq_true rfl, Nat.le_of_ble_eq_true rfl⟩ dL_ofProcedure_5 (fun ce q9 H locs hz hP hD hS hce hcv hcl => ?_)
  refine vx_catch (name := "java/lang/IndexOutOfBoundsException") S.2.2.2.1 [] (⟨0, 10, 13, 13⟩ : ExceptionTableEntry) [(⟨0, 10, 17, 15⟩ : ExceptionTableEntry)] (htab.trans rfl) (fun _ h => absurd h List.not_mem_nil) (by decide) (by decide) (S.2.2.2.2 _ kw_5_176) (va_Nw.use rfl hB.c0) hce hcv hcl ?_
  have hP : va_P D vwCl ((xW o u cI cZ cJ) ++ [(ao, .inl (cJ, 1, .inr (.inl (fun _ => 0))))]) H := hP
  have hD : va_D A ((xW o u cI cZ cJ) ++ [(ao, .inl (cJ, 1, .inr (.inl (fun _ => 0))))]) := hD
  refine lv_astore (lv' := [(4, .ref q9), (0, .ref o), (1, .int x1), (2, .int 3), (3, .ref ao)]) hx hb dL_ofProcedure_13 hl (by decide) rfl (fun ls hl => ?_)
  refine lv_iconst (v := 1) hx hb dL_ofProcedure_15 (by decide) ?_
  exact vx_ret (wEnd S hr hlocks hP hD hS (Nat.le_of_ble_eq_true rfl) (Nat.le_of_ble_eq_true rfl) dL_ofProcedure_16 rfl)

set_option maxHeartbeats 8000000 in
set_option maxRecDepth 100000 in
theorem c_X9_ofProcedure_13 (l : Launch) (D : va_G) (cI cZ cJ : ClassId) (o : Nat) (q : Nat → Nat) (sz : Nat) (x1 : Int32) (hi_x1 : x1 ≤ (-1)) : Met l yX9_ofProcedure (uW yX9_ofProcedure cX9_ofProcedure 3 (some .int)) ({ frames := 2, cells := 0, slots := 0, locals := 43 }) (va_Pc [.ref o, .int x1, .int 3] (wS D (tyL cI cZ cJ) (mW o 0 q cI cZ) sz)) (wQi (0) D (mW o 1 q cI cZ) (va_A (mW o 0 q cI cZ) sz)) 0 0 (va_A (mW o 0 q cI cZ) sz) := by
  refine wStart (lv := [(0, .ref o), (1, .int x1), (2, .int 3)]) (Qc := fun A => wQi (0) D (mW o 1 q cI cZ) A) (by decide) (Nat.le_of_ble_eq_true rfl) rfl ?_
  intro p e s m args below meth c ls A H S hr hlocks hnm hl hK hP hD hS hA
  have hx := S.1
  have hb := S.2.1
  refine lv_aload_n hx hb dX9_ofProcedure_0 rfl (lv_at hl 0 rfl) ?_
  refine lv_iconst (v := 0) hx hb dX9_ofProcedure_1 (by decide) ?_
  refine xp (ci := 9) (v := .int 0) S inX9 tyX9 tyX9_ok nmX9 rfl hK hP hD hS mW_0 0 (by decide) kw_6_148 rfl rfl rfl rfl (Nat.le_of_ble_eq_true rfl) dX9_ofProcedure_2 (fun H locs hP hD hS => ?_)
  have hP : va_P D vwCl (mW o 0 q cI cZ) H := hP
  have hD : va_D A (mW o 0 q cI cZ) := hD
  refine lv_aload_n hx hb dX9_ofProcedure_5 rfl (lv_at hl 0 rfl) ?_
  refine lv_iload_n hx hb dX9_ofProcedure_6 rfl (lv_at hl 1 rfl) ?_
  refine rdV (As := [.int x1]) (ci := 9) S (c_X9_isProcedure_0 l D cI cZ cJ o q x1 hi_x1) mi_X9_isProcedure kw_7_97 ⟨rfl, rfl⟩ ⟨Nat.le_of_ble_eq_true rfl, Nat.le_of_ble_eq_true rfl⟩ hP hK mW_0 rfl rfl hl.1 (Nat.le_of_ble_eq_true rfl) ⟨Nat.le_of_ble_eq_true rfl, Nat.le_of_ble_eq_true rfl⟩ dX9_ofProcedure_7 ?_
  refine lv_if_ne (tgt := 19) hx hb dX9_ofProcedure_10 (by decide) (fun c => absurd c (by decide)) (fun _ => ?_)
  refine lv_aload_n hx hb dX9_ofProcedure_13 rfl (lv_at hl 0 rfl) ?_
  refine lv_iconst (v := 1) hx hb dX9_ofProcedure_14 (by decide) ?_
  refine wrV (As := [.int 1]) (ci := 9) S (c_X9_no_0 l D cI cZ cJ o q H.size) mi_X9_no kw_7_104 rfl rfl ⟨Nat.le_of_ble_eq_true rfl, Nat.le_of_ble_eq_true rfl⟩ hP hD hK hS hA mW_0 rfl rfl hl.1 (Nat.le_of_ble_eq_true rfl) ⟨Nat.le_of_ble_eq_true rfl, Nat.le_of_ble_eq_true rfl⟩ dX9_ofProcedure_15 (fun H locs hz hP hD hS => ?_)
  exact wEnd S hr hlocks hP hD hS (Nat.le_of_ble_eq_true rfl) (Nat.le_of_ble_eq_true rfl) dX9_ofProcedure_18 rfl

set_option maxHeartbeats 8000000 in
set_option maxRecDepth 100000 in
theorem h_ofProcedure_14 (l : Launch) (D : va_G) (cI cZ cJ : ClassId) (o : Nat) (u : Nat → Nat) (ao : Nat) (hst : l.stackTraces = false) (ra ga : Nat → Nat) (sz : Nat) (x1 : Int32) (lo_x1 : 1 ≤ x1) : vx_Met l yL_ofProcedure (uWh yL_ofProcedure cL_ofProcedure 5 (some .int) [(0, 10, 13, 13), (0, 10, 17, 15)]) ({ frames := 8, cells := 1, slots := 6, locals := 125 }) (va_Pc [.ref o, .int x1, .int 3, .ref ao] (lS ra ga D (tyL cI cZ cJ) ((xW o u cI cZ cJ) ++ [(ao, .inl (cJ, 1, .inr (.inl (fun _ => 0))))]) sz)) (wQi (1) D ((xW o u cI cZ cJ) ++ [(ao, .inl (cJ, 1, .inr (.inl (fun _ => 0))))]) (va_A ((xW o u cI cZ cJ) ++ [(ao, .inl (cJ, 1, .inr (.inl (fun _ => 0))))]) sz)) (xN (va_A ((xW o u cI cZ cJ) ++ [(ao, .inl (cJ, 1, .inr (.inl (fun _ => 0))))]) sz)) 1 6 (va_A ((xW o u cI cZ cJ) ++ [(ao, .inl (cJ, 1, .inr (.inl (fun _ => 0))))]) sz) := by
  refine hStart (l := l) (y := yL_ofProcedure) (b := cL_ofProcedure) (n := 5) (r := (some .int)) (hh := [(0, 10, 13, 13), (0, 10, 17, 15)]) (rm := ({ frames := 8, cells := 1, slots := 6, locals := 125 })) (mc := 1) (ms := 6) (ra := ra) (ga := ga) (D := D) (tys := tyL cI cZ cJ) (ws := ((xW o u cI cZ cJ) ++ [(ao, .inl (cJ, 1, .inr (.inl (fun _ => 0))))])) (av := [.ref o, .int x1, .int 3, .ref ao]) (sz := sz) (lv := [(0, .ref o), (1, .int x1), (2, .int 3), (3, .ref ao)]) (Qc := fun A => wQi (1) D ((xW o u cI cZ cJ) ++ [(ao, .inl (cJ, 1, .inr (.inl (fun _ => 0))))]) A) (by decide) (Nat.le_of_ble_eq_true rfl) rfl ?_
  intro p e s m args below meth c ls A H S hr hlocks htab hl hK hP hD hS hA hB hC
  have hx := S.1
  have hb := S.2.1
  refine lv_aload_n hx hb dL_ofProcedure_0 rfl (lv_at hl 3 rfl) ?_
  refine lv_iconst (v := 0) hx hb dL_ofProcedure_1 (by decide) ?_
  refine lv_aload_n hx hb dL_ofProcedure_2 rfl (lv_at hl 0 rfl) ?_
  refine lv_iload_n hx hb dL_ofProcedure_3 rfl (lv_at hl 1 rfl) ?_
  refine lv_iload_n hx hb dL_ofProcedure_4 rfl (lv_at hl 2 rfl) ?_
  refine cVi [] [(ao, .inl (cJ, 1, .inr (.inl (fun _ => 0))))] (As := [.int x1, .int 3]) (ci := 8) S (c_X8_ofProcedure_14 l D cI cZ cJ o u hst ra ga H.size x1 lo_x1) mi_X8_ofProcedure kw_6_19 rfl rfl ⟨Nat.le_of_ble_eq_true rfl, Nat.le_of_ble_eq_true rfl⟩ hP hD hK hS hA hB xW_0 rfl rfl hl.1 (Nat.le_of_ble_eq_true rfl) ⟨Nat.le_of_ble_eq_true rfl, Nat.le_of_ble_eq_true rfl⟩ dL_ofProcedure_5 (fun ce q9 H locs hz hP hD hS hce hcv hcl => ?_)
  refine vx_catch (name := "java/lang/IndexOutOfBoundsException") S.2.2.2.1 [] (⟨0, 10, 13, 13⟩ : ExceptionTableEntry) [(⟨0, 10, 17, 15⟩ : ExceptionTableEntry)] (htab.trans rfl) (fun _ h => absurd h List.not_mem_nil) (by decide) (by decide) (S.2.2.2.2 _ kw_5_176) (va_Nw.use rfl hB.c0) hce hcv hcl ?_
  have hP : va_P D vwCl ((xW o u cI cZ cJ) ++ [(ao, .inl (cJ, 1, .inr (.inl (fun _ => 0))))]) H := hP
  have hD : va_D A ((xW o u cI cZ cJ) ++ [(ao, .inl (cJ, 1, .inr (.inl (fun _ => 0))))]) := hD
  refine lv_astore (lv' := [(4, .ref q9), (0, .ref o), (1, .int x1), (2, .int 3), (3, .ref ao)]) hx hb dL_ofProcedure_13 hl (by decide) rfl (fun ls hl => ?_)
  refine lv_iconst (v := 1) hx hb dL_ofProcedure_15 (by decide) ?_
  exact vx_ret (wEnd S hr hlocks hP hD hS (Nat.le_of_ble_eq_true rfl) (Nat.le_of_ble_eq_true rfl) dL_ofProcedure_16 rfl)

set_option maxHeartbeats 8000000 in
set_option maxRecDepth 100000 in
theorem c_X9_ofProcedure_14 (l : Launch) (D : va_G) (cI cZ cJ : ClassId) (o : Nat) (q : Nat → Nat) (sz : Nat) (x1 : Int32) (lo_x1 : 1 ≤ x1) : Met l yX9_ofProcedure (uW yX9_ofProcedure cX9_ofProcedure 3 (some .int)) ({ frames := 2, cells := 0, slots := 0, locals := 43 }) (va_Pc [.ref o, .int x1, .int 3] (wS D (tyL cI cZ cJ) (mW o 0 q cI cZ) sz)) (wQi (0) D (mW o 1 q cI cZ) (va_A (mW o 0 q cI cZ) sz)) 0 0 (va_A (mW o 0 q cI cZ) sz) := by
  refine wStart (lv := [(0, .ref o), (1, .int x1), (2, .int 3)]) (Qc := fun A => wQi (0) D (mW o 1 q cI cZ) A) (by decide) (Nat.le_of_ble_eq_true rfl) rfl ?_
  intro p e s m args below meth c ls A H S hr hlocks hnm hl hK hP hD hS hA
  have hx := S.1
  have hb := S.2.1
  refine lv_aload_n hx hb dX9_ofProcedure_0 rfl (lv_at hl 0 rfl) ?_
  refine lv_iconst (v := 0) hx hb dX9_ofProcedure_1 (by decide) ?_
  refine xp (ci := 9) (v := .int 0) S inX9 tyX9 tyX9_ok nmX9 rfl hK hP hD hS mW_0 0 (by decide) kw_6_148 rfl rfl rfl rfl (Nat.le_of_ble_eq_true rfl) dX9_ofProcedure_2 (fun H locs hP hD hS => ?_)
  have hP : va_P D vwCl (mW o 0 q cI cZ) H := hP
  have hD : va_D A (mW o 0 q cI cZ) := hD
  refine lv_aload_n hx hb dX9_ofProcedure_5 rfl (lv_at hl 0 rfl) ?_
  refine lv_iload_n hx hb dX9_ofProcedure_6 rfl (lv_at hl 1 rfl) ?_
  refine rdV (As := [.int x1]) (ci := 9) S (c_X9_isProcedure_1 l D cI cZ cJ o q x1 lo_x1) mi_X9_isProcedure kw_7_97 ⟨rfl, rfl⟩ ⟨Nat.le_of_ble_eq_true rfl, Nat.le_of_ble_eq_true rfl⟩ hP hK mW_0 rfl rfl hl.1 (Nat.le_of_ble_eq_true rfl) ⟨Nat.le_of_ble_eq_true rfl, Nat.le_of_ble_eq_true rfl⟩ dX9_ofProcedure_7 ?_
  refine lv_if_ne (tgt := 19) hx hb dX9_ofProcedure_10 (by decide) (fun c => absurd c (by decide)) (fun _ => ?_)
  refine lv_aload_n hx hb dX9_ofProcedure_13 rfl (lv_at hl 0 rfl) ?_
  refine lv_iconst (v := 1) hx hb dX9_ofProcedure_14 (by decide) ?_
  refine wrV (As := [.int 1]) (ci := 9) S (c_X9_no_0 l D cI cZ cJ o q H.size) mi_X9_no kw_7_104 rfl rfl ⟨Nat.le_of_ble_eq_true rfl, Nat.le_of_ble_eq_true rfl⟩ hP hD hK hS hA mW_0 rfl rfl hl.1 (Nat.le_of_ble_eq_true rfl) ⟨Nat.le_of_ble_eq_true rfl, Nat.le_of_ble_eq_true rfl⟩ dX9_ofProcedure_15 (fun H locs hz hP hD hS => ?_)
  exact wEnd S hr hlocks hP hD hS (Nat.le_of_ble_eq_true rfl) (Nat.le_of_ble_eq_true rfl) dX9_ofProcedure_18 rfl

set_option maxHeartbeats 8000000 in
set_option maxRecDepth 100000 in
theorem h_ofProcedure_15 (l : Launch) (D : va_G) (cI cZ cJ : ClassId) (o : Nat) (u : Nat → Nat) (ao : Nat) (hst : l.stackTraces = false) (ra ga : Nat → Nat) (sz : Nat) : vx_Met l yL_ofProcedure (uWh yL_ofProcedure cL_ofProcedure 5 (some .int) [(0, 10, 13, 13), (0, 10, 17, 15)]) ({ frames := 5, cells := 0, slots := 0, locals := 107 }) (va_Pc [.ref o, .int 0, .int 3, .ref ao] (lS ra ga D (tyL cI cZ cJ) ((xW o u cI cZ cJ) ++ [(ao, .inl (cJ, 1, .inr (.inl (fun _ => 0))))]) sz)) (wQi (0) D ((((((((xW o u cI cZ cJ).set 0 (o, .inr (8, ((xF u).set 9 (.int 0))))).set 32 ((u 31), .inl (cZ, 10, .inl (upd (upd (upd (upd (upd (upd (upd (upd (upd (upd (fun _ => 0) (0 : Int32).toNatClampNeg 0) (1 : Int32).toNatClampNeg 0) (2 : Int32).toNatClampNeg 0) (3 : Int32).toNatClampNeg 0) (4 : Int32).toNatClampNeg 0) (5 : Int32).toNatClampNeg 0) (6 : Int32).toNatClampNeg 0) (7 : Int32).toNatClampNeg 0) (8 : Int32).toNatClampNeg 0) (9 : Int32).toNatClampNeg 0)))).set 34 ((u 33), .inr (2, ([.ref (u 0), .ref (u 12), .ref (u 19), .int 0, .ref (u 34), .ref (u 35), .ref (u 36), .ref (u 37), .int 0].set 3 (.int 1))))).set 35 ((u 34), .inl (cI, 120, .inl (upd (fun _ => 0) (0 : Int32).toNatClampNeg 10)))).set 36 ((u 35), .inl (cI, 120, .inl (upd (fun _ => 0) (0 : Int32).toNatClampNeg 0)))).set 37 ((u 36), .inl (cI, 120, .inl (upd (fun _ => 0) (0 : Int32).toNatClampNeg (-1))))) ++ [(ao, .inl (cJ, 1, .inr (.inl (vp_updL (fun _ => 0) (0 : Int32).toNatClampNeg 0))))]) (va_A ((xW o u cI cZ cJ) ++ [(ao, .inl (cJ, 1, .inr (.inl (fun _ => 0))))]) sz)) (xN (va_A ((xW o u cI cZ cJ) ++ [(ao, .inl (cJ, 1, .inr (.inl (fun _ => 0))))]) sz)) 0 0 (va_A ((xW o u cI cZ cJ) ++ [(ao, .inl (cJ, 1, .inr (.inl (fun _ => 0))))]) sz) := by
  refine hStart (l := l) (y := yL_ofProcedure) (b := cL_ofProcedure) (n := 5) (r := (some .int)) (hh := [(0, 10, 13, 13), (0, 10, 17, 15)]) (rm := ({ frames := 5, cells := 0, slots := 0, locals := 107 })) (mc := 0) (ms := 0) (ra := ra) (ga := ga) (D := D) (tys := tyL cI cZ cJ) (ws := ((xW o u cI cZ cJ) ++ [(ao, .inl (cJ, 1, .inr (.inl (fun _ => 0))))])) (av := [.ref o, .int 0, .int 3, .ref ao]) (sz := sz) (lv := [(0, .ref o), (1, .int 0), (2, .int 3), (3, .ref ao)]) (Qc := fun A => wQi (0) D ((((((((xW o u cI cZ cJ).set 0 (o, .inr (8, ((xF u).set 9 (.int 0))))).set 32 ((u 31), .inl (cZ, 10, .inl (upd (upd (upd (upd (upd (upd (upd (upd (upd (upd (fun _ => 0) (0 : Int32).toNatClampNeg 0) (1 : Int32).toNatClampNeg 0) (2 : Int32).toNatClampNeg 0) (3 : Int32).toNatClampNeg 0) (4 : Int32).toNatClampNeg 0) (5 : Int32).toNatClampNeg 0) (6 : Int32).toNatClampNeg 0) (7 : Int32).toNatClampNeg 0) (8 : Int32).toNatClampNeg 0) (9 : Int32).toNatClampNeg 0)))).set 34 ((u 33), .inr (2, ([.ref (u 0), .ref (u 12), .ref (u 19), .int 0, .ref (u 34), .ref (u 35), .ref (u 36), .ref (u 37), .int 0].set 3 (.int 1))))).set 35 ((u 34), .inl (cI, 120, .inl (upd (fun _ => 0) (0 : Int32).toNatClampNeg 10)))).set 36 ((u 35), .inl (cI, 120, .inl (upd (fun _ => 0) (0 : Int32).toNatClampNeg 0)))).set 37 ((u 36), .inl (cI, 120, .inl (upd (fun _ => 0) (0 : Int32).toNatClampNeg (-1))))) ++ [(ao, .inl (cJ, 1, .inr (.inl (vp_updL (fun _ => 0) (0 : Int32).toNatClampNeg 0))))]) A) (by decide) (Nat.le_of_ble_eq_true rfl) rfl ?_
  intro p e s m args below meth c ls A H S hr hlocks htab hl hK hP hD hS hA hB hC
  have hx := S.1
  have hb := S.2.1
  refine lv_aload_n hx hb dL_ofProcedure_0 rfl (lv_at hl 3 rfl) ?_
  refine lv_iconst (v := 0) hx hb dL_ofProcedure_1 (by decide) ?_
  refine lv_aload_n hx hb dL_ofProcedure_2 rfl (lv_at hl 0 rfl) ?_
  refine lv_iload_n hx hb dL_ofProcedure_3 rfl (lv_at hl 1 rfl) ?_
  refine lv_iload_n hx hb dL_ofProcedure_4 rfl (lv_at hl 2 rfl) ?_
  refine faVi [] [(ao, .inl (cJ, 1, .inr (.inl (fun _ => 0))))] (As := [.int 0, .int 3]) (ci := 8) S (c_X8_ofProcedure_15 l D cI cZ cJ o u ra ga H.size) mi_X8_ofProcedure kw_6_19 rfl rfl ⟨Nat.le_of_ble_eq_true rfl, Nat.le_of_ble_eq_true rfl⟩ hP hD hK hS hA hB xW_0 rfl rfl hl.1 (Nat.le_of_ble_eq_true rfl) ⟨Nat.le_of_ble_eq_true rfl, Nat.le_of_ble_eq_true rfl⟩ dL_ofProcedure_5 (fun H locs hz hP hD hS => ?_)
  have hP : va_P D vwCl ((((((((xW o u cI cZ cJ).set 0 (o, .inr (8, ((xF u).set 9 (.int 0))))).set 32 ((u 31), .inl (cZ, 10, .inl (upd (upd (upd (upd (upd (upd (upd (upd (upd (upd (fun _ => 0) (0 : Int32).toNatClampNeg 0) (1 : Int32).toNatClampNeg 0) (2 : Int32).toNatClampNeg 0) (3 : Int32).toNatClampNeg 0) (4 : Int32).toNatClampNeg 0) (5 : Int32).toNatClampNeg 0) (6 : Int32).toNatClampNeg 0) (7 : Int32).toNatClampNeg 0) (8 : Int32).toNatClampNeg 0) (9 : Int32).toNatClampNeg 0)))).set 34 ((u 33), .inr (2, ([.ref (u 0), .ref (u 12), .ref (u 19), .int 0, .ref (u 34), .ref (u 35), .ref (u 36), .ref (u 37), .int 0].set 3 (.int 1))))).set 35 ((u 34), .inl (cI, 120, .inl (upd (fun _ => 0) (0 : Int32).toNatClampNeg 10)))).set 36 ((u 35), .inl (cI, 120, .inl (upd (fun _ => 0) (0 : Int32).toNatClampNeg 0)))).set 37 ((u 36), .inl (cI, 120, .inl (upd (fun _ => 0) (0 : Int32).toNatClampNeg (-1))))) ++ [(ao, .inl (cJ, 1, .inr (.inl (fun _ => 0))))]) H := hP
  have hD : va_D A ((((((((xW o u cI cZ cJ).set 0 (o, .inr (8, ((xF u).set 9 (.int 0))))).set 32 ((u 31), .inl (cZ, 10, .inl (upd (upd (upd (upd (upd (upd (upd (upd (upd (upd (fun _ => 0) (0 : Int32).toNatClampNeg 0) (1 : Int32).toNatClampNeg 0) (2 : Int32).toNatClampNeg 0) (3 : Int32).toNatClampNeg 0) (4 : Int32).toNatClampNeg 0) (5 : Int32).toNatClampNeg 0) (6 : Int32).toNatClampNeg 0) (7 : Int32).toNatClampNeg 0) (8 : Int32).toNatClampNeg 0) (9 : Int32).toNatClampNeg 0)))).set 34 ((u 33), .inr (2, ([.ref (u 0), .ref (u 12), .ref (u 19), .int 0, .ref (u 34), .ref (u 35), .ref (u 36), .ref (u 37), .int 0].set 3 (.int 1))))).set 35 ((u 34), .inl (cI, 120, .inl (upd (fun _ => 0) (0 : Int32).toNatClampNeg 10)))).set 36 ((u 35), .inl (cI, 120, .inl (upd (fun _ => 0) (0 : Int32).toNatClampNeg 0)))).set 37 ((u 36), .inl (cI, 120, .inl (upd (fun _ => 0) (0 : Int32).toNatClampNeg (-1))))) ++ [(ao, .inl (cJ, 1, .inr (.inl (fun _ => 0))))]) := hD
  refine lv_i2l (v := 0) hx hb dL_ofProcedure_8 (by decide) ?_
  refine xlast (t0 := 2) S hK hP hD hS (q0 := 88) rfl rfl (vin rfl) dL_ofProcedure_9 (fun H locs hP hD hS => ?_)
  have hP : va_P D vwCl ((((((((xW o u cI cZ cJ).set 0 (o, .inr (8, ((xF u).set 9 (.int 0))))).set 32 ((u 31), .inl (cZ, 10, .inl (upd (upd (upd (upd (upd (upd (upd (upd (upd (upd (fun _ => 0) (0 : Int32).toNatClampNeg 0) (1 : Int32).toNatClampNeg 0) (2 : Int32).toNatClampNeg 0) (3 : Int32).toNatClampNeg 0) (4 : Int32).toNatClampNeg 0) (5 : Int32).toNatClampNeg 0) (6 : Int32).toNatClampNeg 0) (7 : Int32).toNatClampNeg 0) (8 : Int32).toNatClampNeg 0) (9 : Int32).toNatClampNeg 0)))).set 34 ((u 33), .inr (2, ([.ref (u 0), .ref (u 12), .ref (u 19), .int 0, .ref (u 34), .ref (u 35), .ref (u 36), .ref (u 37), .int 0].set 3 (.int 1))))).set 35 ((u 34), .inl (cI, 120, .inl (upd (fun _ => 0) (0 : Int32).toNatClampNeg 10)))).set 36 ((u 35), .inl (cI, 120, .inl (upd (fun _ => 0) (0 : Int32).toNatClampNeg 0)))).set 37 ((u 36), .inl (cI, 120, .inl (upd (fun _ => 0) (0 : Int32).toNatClampNeg (-1))))) ++ [(ao, .inl (cJ, 1, .inr (.inl (vp_updL (fun _ => 0) (0 : Int32).toNatClampNeg 0))))]) H := hP
  have hD : va_D A ((((((((xW o u cI cZ cJ).set 0 (o, .inr (8, ((xF u).set 9 (.int 0))))).set 32 ((u 31), .inl (cZ, 10, .inl (upd (upd (upd (upd (upd (upd (upd (upd (upd (upd (fun _ => 0) (0 : Int32).toNatClampNeg 0) (1 : Int32).toNatClampNeg 0) (2 : Int32).toNatClampNeg 0) (3 : Int32).toNatClampNeg 0) (4 : Int32).toNatClampNeg 0) (5 : Int32).toNatClampNeg 0) (6 : Int32).toNatClampNeg 0) (7 : Int32).toNatClampNeg 0) (8 : Int32).toNatClampNeg 0) (9 : Int32).toNatClampNeg 0)))).set 34 ((u 33), .inr (2, ([.ref (u 0), .ref (u 12), .ref (u 19), .int 0, .ref (u 34), .ref (u 35), .ref (u 36), .ref (u 37), .int 0].set 3 (.int 1))))).set 35 ((u 34), .inl (cI, 120, .inl (upd (fun _ => 0) (0 : Int32).toNatClampNeg 10)))).set 36 ((u 35), .inl (cI, 120, .inl (upd (fun _ => 0) (0 : Int32).toNatClampNeg 0)))).set 37 ((u 36), .inl (cI, 120, .inl (upd (fun _ => 0) (0 : Int32).toNatClampNeg (-1))))) ++ [(ao, .inl (cJ, 1, .inr (.inl (vp_updL (fun _ => 0) (0 : Int32).toNatClampNeg 0))))]) := hD
  refine lv_goto (tgt := 21) hx hb dL_ofProcedure_10 (by decide) ?_
  refine lv_iconst (v := 0) hx hb dL_ofProcedure_21 (by decide) ?_
  exact vx_ret (wEnd S hr hlocks hP hD hS (Nat.le_of_ble_eq_true rfl) (Nat.le_of_ble_eq_true rfl) dL_ofProcedure_22 rfl)

set_option maxHeartbeats 8000000 in
set_option maxRecDepth 100000 in
theorem c_X9_isIn_29 (l : Launch) (D : va_G) (cI cZ cJ : ClassId) (o : Nat) (q : Nat → Nat) : Met l yX9_isIn (uW yX9_isIn cX9_isIn 3 (some .boolean)) ({ frames := 0, cells := 0, slots := 0, locals := 0 }) (va_Pc [.int 3, .int 0, .int 7] (pS D (tyL cI cZ cJ) (mW o 0 q cI cZ))) (QcRead (1)) 0 0 (fun _ => False) := by
  refine rdStart (lv := [(0, .int 3), (1, .int 0), (2, .int 7)]) (by decide) (Nat.le_of_ble_eq_true rfl) rfl ?_
  intro p e s m args below meth c ls S hr hlocks hl hP hK
  have hx := S.1
  have hb := S.2.1
  refine lv_iload_n hx hb dX9_isIn_0 rfl (lv_at hl 0 rfl) ?_
  refine lv_iload_n hx hb dX9_isIn_1 rfl (lv_at hl 1 rfl) ?_
  refine lv_icmp_lt (tgt := 14) hx hb dX9_isIn_2 (by decide) (fun c => absurd c (by decide)) (fun _ => ?_)
  refine lv_iload_n hx hb dX9_isIn_5 rfl (lv_at hl 0 rfl) ?_
  refine lv_iload_n hx hb dX9_isIn_6 rfl (lv_at hl 2 rfl) ?_
  refine lv_icmp_gt (tgt := 14) hx hb dX9_isIn_7 (by decide) (fun c => absurd c (by decide)) (fun _ => ?_)
  refine lv_iconst (v := 1) hx hb dX9_isIn_10 (by decide) ?_
  refine lv_goto (tgt := 15) hx hb dX9_isIn_11 (by decide) ?_
  exact rdEndZ S hr hlocks dX9_isIn_15 rfl rfl

set_option maxHeartbeats 8000000 in
set_option maxRecDepth 100000 in
theorem c_X9_ofProcedureNow_4 (l : Launch) (D : va_G) (cI cZ cJ : ClassId) (o : Nat) (q : Nat → Nat) : Met l yX9_ofProcedureNow (uW yX9_ofProcedureNow cX9_ofProcedureNow 3 (some .int)) ({ frames := 0, cells := 0, slots := 0, locals := 0 }) (va_Pc [.ref o, .int 0, .int 3] (pS D (tyL cI cZ cJ) (mW o 0 q cI cZ))) (QcRead (0)) 0 0 (fun _ => False) := by
  refine rdStart (lv := [(0, .ref o), (1, .int 0), (2, .int 3)]) (by decide) (Nat.le_of_ble_eq_true rfl) rfl ?_
  intro p e s m args below meth c ls S hr hlocks hl hP hK
  have hx := S.1
  have hb := S.2.1
  refine lv_iload_n hx hb dX9_ofProcedureNow_0 rfl (lv_at hl 2 rfl) ?_
  refine lv_tableIn (off := 64) (tgt := 65) hx hb dX9_ofProcedureNow_1 (by decide) (by decide) (by decide) (by decide) ?_
  refine lv_aload_n hx hb dX9_ofProcedureNow_65 rfl (lv_at hl 0 rfl) ?_
  refine xg (ci := 9) S inX9 rfl hK hP mW_0 5 (by decide) mF_5 kw_6_153 rfl dX9_ofProcedureNow_66 ?_
  refine lv_iload_n hx hb dX9_ofProcedureNow_69 rfl (lv_at hl 1 rfl) ?_
  refine xiald (t0 := 0) (v := 0) S hK hP mW_4 rfl (vin rfl) rfl dX9_ofProcedureNow_70 ?_
  exact rdEnd S hr hlocks dX9_ofProcedureNow_71 rfl

set_option maxHeartbeats 8000000 in
set_option maxRecDepth 100000 in
theorem c_X9_ofProcedure_15 (l : Launch) (D : va_G) (cI cZ cJ : ClassId) (o : Nat) (q : Nat → Nat) (sz : Nat) : Met l yX9_ofProcedure (uW yX9_ofProcedure cX9_ofProcedure 3 (some .int)) ({ frames := 2, cells := 0, slots := 0, locals := 43 }) (va_Pc [.ref o, .int 0, .int 3] (wS D (tyL cI cZ cJ) (mW o 0 q cI cZ) sz)) (wQi (0) D (mW o 0 q cI cZ) (va_A (mW o 0 q cI cZ) sz)) 0 0 (va_A (mW o 0 q cI cZ) sz) := by
  refine wStart (lv := [(0, .ref o), (1, .int 0), (2, .int 3)]) (Qc := fun A => wQi (0) D (mW o 0 q cI cZ) A) (by decide) (Nat.le_of_ble_eq_true rfl) rfl ?_
  intro p e s m args below meth c ls A H S hr hlocks hnm hl hK hP hD hS hA
  have hx := S.1
  have hb := S.2.1
  refine lv_aload_n hx hb dX9_ofProcedure_0 rfl (lv_at hl 0 rfl) ?_
  refine lv_iconst (v := 0) hx hb dX9_ofProcedure_1 (by decide) ?_
  refine xp (ci := 9) (v := .int 0) S inX9 tyX9 tyX9_ok nmX9 rfl hK hP hD hS mW_0 0 (by decide) kw_6_148 rfl rfl rfl rfl (Nat.le_of_ble_eq_true rfl) dX9_ofProcedure_2 (fun H locs hP hD hS => ?_)
  have hP : va_P D vwCl (mW o 0 q cI cZ) H := hP
  have hD : va_D A (mW o 0 q cI cZ) := hD
  refine lv_aload_n hx hb dX9_ofProcedure_5 rfl (lv_at hl 0 rfl) ?_
  refine lv_iload_n hx hb dX9_ofProcedure_6 rfl (lv_at hl 1 rfl) ?_
  refine rdV (As := [.int 0]) (ci := 9) S (c_X9_isProcedure_2 l D cI cZ cJ o q) mi_X9_isProcedure kw_7_97 ⟨rfl, rfl⟩ ⟨Nat.le_of_ble_eq_true rfl, Nat.le_of_ble_eq_true rfl⟩ hP hK mW_0 rfl rfl hl.1 (Nat.le_of_ble_eq_true rfl) ⟨Nat.le_of_ble_eq_true rfl, Nat.le_of_ble_eq_true rfl⟩ dX9_ofProcedure_7 ?_
  refine lv_if_ne (tgt := 19) hx hb dX9_ofProcedure_10 (by decide) (fun _ => ?_) (fun c => absurd c (by decide))
  refine lv_iload_n hx hb dX9_ofProcedure_19 rfl (lv_at hl 2 rfl) ?_
  refine lv_iconst (v := 0) hx hb dX9_ofProcedure_20 (by decide) ?_
  refine lv_bipush (v := 7) hx hb dX9_ofProcedure_21 (by decide) ?_
  refine rdS (As := [.int 3, .int 0, .int 7]) S (c_X9_isIn_29 l D cI cZ cJ o q) ms_X9_isIn kw_7_101 ⟨rfl, rfl⟩ ⟨Nat.le_of_ble_eq_true rfl, Nat.le_of_ble_eq_true rfl⟩ hP hK hl.1 (Nat.le_of_ble_eq_true rfl) ⟨Nat.le_of_ble_eq_true rfl, Nat.le_of_ble_eq_true rfl⟩ dX9_ofProcedure_23 ?_
  refine lv_if_eq (tgt := 38) hx hb dX9_ofProcedure_26 (by decide) (fun c => absurd c (by decide)) (fun _ => ?_)
  refine lv_aload_n hx hb dX9_ofProcedure_29 rfl (lv_at hl 0 rfl) ?_
  refine lv_iload_n hx hb dX9_ofProcedure_30 rfl (lv_at hl 1 rfl) ?_
  refine lv_iload_n hx hb dX9_ofProcedure_31 rfl (lv_at hl 2 rfl) ?_
  refine rdV (As := [.int 0, .int 3]) (ci := 9) S (c_X9_ofProcedureNow_4 l D cI cZ cJ o q) mi_X9_ofProcedureNow kw_7_203 ⟨rfl, rfl⟩ ⟨Nat.le_of_ble_eq_true rfl, Nat.le_of_ble_eq_true rfl⟩ hP hK mW_0 rfl rfl hl.1 (Nat.le_of_ble_eq_true rfl) ⟨Nat.le_of_ble_eq_true rfl, Nat.le_of_ble_eq_true rfl⟩ dX9_ofProcedure_32 ?_
  refine lv_goto (tgt := 43) hx hb dX9_ofProcedure_35 (by decide) ?_
  exact wEnd S hr hlocks hP hD hS (Nat.le_of_ble_eq_true rfl) (Nat.le_of_ble_eq_true rfl) dX9_ofProcedure_43 rfl

set_option maxHeartbeats 8000000 in
set_option maxRecDepth 100000 in
theorem h_ofProcedure_16 (l : Launch) (D : va_G) (cI cZ cJ : ClassId) (o : Nat) (u : Nat → Nat) (ao : Nat) (hst : l.stackTraces = false) (ra ga : Nat → Nat) (sz : Nat) (x1 : Int32) (hi_x1 : x1 ≤ (-1)) : vx_Met l yL_ofProcedure (uWh yL_ofProcedure cL_ofProcedure 5 (some .int) [(0, 10, 13, 13), (0, 10, 17, 15)]) ({ frames := 8, cells := 1, slots := 6, locals := 125 }) (va_Pc [.ref o, .int x1, .int 4, .ref ao] (lS ra ga D (tyL cI cZ cJ) ((xW o u cI cZ cJ) ++ [(ao, .inl (cJ, 1, .inr (.inl (fun _ => 0))))]) sz)) (wQi (1) D ((xW o u cI cZ cJ) ++ [(ao, .inl (cJ, 1, .inr (.inl (fun _ => 0))))]) (va_A ((xW o u cI cZ cJ) ++ [(ao, .inl (cJ, 1, .inr (.inl (fun _ => 0))))]) sz)) (xN (va_A ((xW o u cI cZ cJ) ++ [(ao, .inl (cJ, 1, .inr (.inl (fun _ => 0))))]) sz)) 1 6 (va_A ((xW o u cI cZ cJ) ++ [(ao, .inl (cJ, 1, .inr (.inl (fun _ => 0))))]) sz) := by
  refine hStart (l := l) (y := yL_ofProcedure) (b := cL_ofProcedure) (n := 5) (r := (some .int)) (hh := [(0, 10, 13, 13), (0, 10, 17, 15)]) (rm := ({ frames := 8, cells := 1, slots := 6, locals := 125 })) (mc := 1) (ms := 6) (ra := ra) (ga := ga) (D := D) (tys := tyL cI cZ cJ) (ws := ((xW o u cI cZ cJ) ++ [(ao, .inl (cJ, 1, .inr (.inl (fun _ => 0))))])) (av := [.ref o, .int x1, .int 4, .ref ao]) (sz := sz) (lv := [(0, .ref o), (1, .int x1), (2, .int 4), (3, .ref ao)]) (Qc := fun A => wQi (1) D ((xW o u cI cZ cJ) ++ [(ao, .inl (cJ, 1, .inr (.inl (fun _ => 0))))]) A) (by decide) (Nat.le_of_ble_eq_true rfl) rfl ?_
  intro p e s m args below meth c ls A H S hr hlocks htab hl hK hP hD hS hA hB hC
  have hx := S.1
  have hb := S.2.1
  refine lv_aload_n hx hb dL_ofProcedure_0 rfl (lv_at hl 3 rfl) ?_
  refine lv_iconst (v := 0) hx hb dL_ofProcedure_1 (by decide) ?_
  refine lv_aload_n hx hb dL_ofProcedure_2 rfl (lv_at hl 0 rfl) ?_
  refine lv_iload_n hx hb dL_ofProcedure_3 rfl (lv_at hl 1 rfl) ?_
  refine lv_iload_n hx hb dL_ofProcedure_4 rfl (lv_at hl 2 rfl) ?_
  refine cVi [] [(ao, .inl (cJ, 1, .inr (.inl (fun _ => 0))))] (As := [.int x1, .int 4]) (ci := 8) S (c_X8_ofProcedure_16 l D cI cZ cJ o u hst ra ga H.size x1 hi_x1) mi_X8_ofProcedure kw_6_19 rfl rfl ⟨Nat.le_of_ble_eq_true rfl, Nat.le_of_ble_eq_true rfl⟩ hP hD hK hS hA hB xW_0 rfl rfl hl.1 (Nat.le_of_ble_eq_true rfl) ⟨Nat.le_of_ble_eq_true rfl, Nat.le_of_ble_eq_true rfl⟩ dL_ofProcedure_5 (fun ce q9 H locs hz hP hD hS hce hcv hcl => ?_)
  refine vx_catch (name := "java/lang/IndexOutOfBoundsException") S.2.2.2.1 [] (⟨0, 10, 13, 13⟩ : ExceptionTableEntry) [(⟨0, 10, 17, 15⟩ : ExceptionTableEntry)] (htab.trans rfl) (fun _ h => absurd h List.not_mem_nil) (by decide) (by decide) (S.2.2.2.2 _ kw_5_176) (va_Nw.use rfl hB.c0) hce hcv hcl ?_
  have hP : va_P D vwCl ((xW o u cI cZ cJ) ++ [(ao, .inl (cJ, 1, .inr (.inl (fun _ => 0))))]) H := hP
  have hD : va_D A ((xW o u cI cZ cJ) ++ [(ao, .inl (cJ, 1, .inr (.inl (fun _ => 0))))]) := hD
  refine lv_astore (lv' := [(4, .ref q9), (0, .ref o), (1, .int x1), (2, .int 4), (3, .ref ao)]) hx hb dL_ofProcedure_13 hl (by decide) rfl (fun ls hl => ?_)
  refine lv_iconst (v := 1) hx hb dL_ofProcedure_15 (by decide) ?_
  exact vx_ret (wEnd S hr hlocks hP hD hS (Nat.le_of_ble_eq_true rfl) (Nat.le_of_ble_eq_true rfl) dL_ofProcedure_16 rfl)

set_option maxHeartbeats 8000000 in
set_option maxRecDepth 100000 in
theorem c_X9_ofProcedure_16 (l : Launch) (D : va_G) (cI cZ cJ : ClassId) (o : Nat) (q : Nat → Nat) (sz : Nat) (x1 : Int32) (hi_x1 : x1 ≤ (-1)) : Met l yX9_ofProcedure (uW yX9_ofProcedure cX9_ofProcedure 3 (some .int)) ({ frames := 2, cells := 0, slots := 0, locals := 43 }) (va_Pc [.ref o, .int x1, .int 4] (wS D (tyL cI cZ cJ) (mW o 0 q cI cZ) sz)) (wQi (0) D (mW o 1 q cI cZ) (va_A (mW o 0 q cI cZ) sz)) 0 0 (va_A (mW o 0 q cI cZ) sz) := by
  refine wStart (lv := [(0, .ref o), (1, .int x1), (2, .int 4)]) (Qc := fun A => wQi (0) D (mW o 1 q cI cZ) A) (by decide) (Nat.le_of_ble_eq_true rfl) rfl ?_
  intro p e s m args below meth c ls A H S hr hlocks hnm hl hK hP hD hS hA
  have hx := S.1
  have hb := S.2.1
  refine lv_aload_n hx hb dX9_ofProcedure_0 rfl (lv_at hl 0 rfl) ?_
  refine lv_iconst (v := 0) hx hb dX9_ofProcedure_1 (by decide) ?_
  refine xp (ci := 9) (v := .int 0) S inX9 tyX9 tyX9_ok nmX9 rfl hK hP hD hS mW_0 0 (by decide) kw_6_148 rfl rfl rfl rfl (Nat.le_of_ble_eq_true rfl) dX9_ofProcedure_2 (fun H locs hP hD hS => ?_)
  have hP : va_P D vwCl (mW o 0 q cI cZ) H := hP
  have hD : va_D A (mW o 0 q cI cZ) := hD
  refine lv_aload_n hx hb dX9_ofProcedure_5 rfl (lv_at hl 0 rfl) ?_
  refine lv_iload_n hx hb dX9_ofProcedure_6 rfl (lv_at hl 1 rfl) ?_
  refine rdV (As := [.int x1]) (ci := 9) S (c_X9_isProcedure_0 l D cI cZ cJ o q x1 hi_x1) mi_X9_isProcedure kw_7_97 ⟨rfl, rfl⟩ ⟨Nat.le_of_ble_eq_true rfl, Nat.le_of_ble_eq_true rfl⟩ hP hK mW_0 rfl rfl hl.1 (Nat.le_of_ble_eq_true rfl) ⟨Nat.le_of_ble_eq_true rfl, Nat.le_of_ble_eq_true rfl⟩ dX9_ofProcedure_7 ?_
  refine lv_if_ne (tgt := 19) hx hb dX9_ofProcedure_10 (by decide) (fun c => absurd c (by decide)) (fun _ => ?_)
  refine lv_aload_n hx hb dX9_ofProcedure_13 rfl (lv_at hl 0 rfl) ?_
  refine lv_iconst (v := 1) hx hb dX9_ofProcedure_14 (by decide) ?_
  refine wrV (As := [.int 1]) (ci := 9) S (c_X9_no_0 l D cI cZ cJ o q H.size) mi_X9_no kw_7_104 rfl rfl ⟨Nat.le_of_ble_eq_true rfl, Nat.le_of_ble_eq_true rfl⟩ hP hD hK hS hA mW_0 rfl rfl hl.1 (Nat.le_of_ble_eq_true rfl) ⟨Nat.le_of_ble_eq_true rfl, Nat.le_of_ble_eq_true rfl⟩ dX9_ofProcedure_15 (fun H locs hz hP hD hS => ?_)
  exact wEnd S hr hlocks hP hD hS (Nat.le_of_ble_eq_true rfl) (Nat.le_of_ble_eq_true rfl) dX9_ofProcedure_18 rfl

set_option maxHeartbeats 8000000 in
set_option maxRecDepth 100000 in
theorem h_ofProcedure_17 (l : Launch) (D : va_G) (cI cZ cJ : ClassId) (o : Nat) (u : Nat → Nat) (ao : Nat) (hst : l.stackTraces = false) (ra ga : Nat → Nat) (sz : Nat) (x1 : Int32) (lo_x1 : 1 ≤ x1) : vx_Met l yL_ofProcedure (uWh yL_ofProcedure cL_ofProcedure 5 (some .int) [(0, 10, 13, 13), (0, 10, 17, 15)]) ({ frames := 8, cells := 1, slots := 6, locals := 125 }) (va_Pc [.ref o, .int x1, .int 4, .ref ao] (lS ra ga D (tyL cI cZ cJ) ((xW o u cI cZ cJ) ++ [(ao, .inl (cJ, 1, .inr (.inl (fun _ => 0))))]) sz)) (wQi (1) D ((xW o u cI cZ cJ) ++ [(ao, .inl (cJ, 1, .inr (.inl (fun _ => 0))))]) (va_A ((xW o u cI cZ cJ) ++ [(ao, .inl (cJ, 1, .inr (.inl (fun _ => 0))))]) sz)) (xN (va_A ((xW o u cI cZ cJ) ++ [(ao, .inl (cJ, 1, .inr (.inl (fun _ => 0))))]) sz)) 1 6 (va_A ((xW o u cI cZ cJ) ++ [(ao, .inl (cJ, 1, .inr (.inl (fun _ => 0))))]) sz) := by
  refine hStart (l := l) (y := yL_ofProcedure) (b := cL_ofProcedure) (n := 5) (r := (some .int)) (hh := [(0, 10, 13, 13), (0, 10, 17, 15)]) (rm := ({ frames := 8, cells := 1, slots := 6, locals := 125 })) (mc := 1) (ms := 6) (ra := ra) (ga := ga) (D := D) (tys := tyL cI cZ cJ) (ws := ((xW o u cI cZ cJ) ++ [(ao, .inl (cJ, 1, .inr (.inl (fun _ => 0))))])) (av := [.ref o, .int x1, .int 4, .ref ao]) (sz := sz) (lv := [(0, .ref o), (1, .int x1), (2, .int 4), (3, .ref ao)]) (Qc := fun A => wQi (1) D ((xW o u cI cZ cJ) ++ [(ao, .inl (cJ, 1, .inr (.inl (fun _ => 0))))]) A) (by decide) (Nat.le_of_ble_eq_true rfl) rfl ?_
  intro p e s m args below meth c ls A H S hr hlocks htab hl hK hP hD hS hA hB hC
  have hx := S.1
  have hb := S.2.1
  refine lv_aload_n hx hb dL_ofProcedure_0 rfl (lv_at hl 3 rfl) ?_
  refine lv_iconst (v := 0) hx hb dL_ofProcedure_1 (by decide) ?_
  refine lv_aload_n hx hb dL_ofProcedure_2 rfl (lv_at hl 0 rfl) ?_
  refine lv_iload_n hx hb dL_ofProcedure_3 rfl (lv_at hl 1 rfl) ?_
  refine lv_iload_n hx hb dL_ofProcedure_4 rfl (lv_at hl 2 rfl) ?_
  refine cVi [] [(ao, .inl (cJ, 1, .inr (.inl (fun _ => 0))))] (As := [.int x1, .int 4]) (ci := 8) S (c_X8_ofProcedure_17 l D cI cZ cJ o u hst ra ga H.size x1 lo_x1) mi_X8_ofProcedure kw_6_19 rfl rfl ⟨Nat.le_of_ble_eq_true rfl, Nat.le_of_ble_eq_true rfl⟩ hP hD hK hS hA hB xW_0 rfl rfl hl.1 (Nat.le_of_ble_eq_true rfl) ⟨Nat.le_of_ble_eq_true rfl, Nat.le_of_ble_eq_true rfl⟩ dL_ofProcedure_5 (fun ce q9 H locs hz hP hD hS hce hcv hcl => ?_)
  refine vx_catch (name := "java/lang/IndexOutOfBoundsException") S.2.2.2.1 [] (⟨0, 10, 13, 13⟩ : ExceptionTableEntry) [(⟨0, 10, 17, 15⟩ : ExceptionTableEntry)] (htab.trans rfl) (fun _ h => absurd h List.not_mem_nil) (by decide) (by decide) (S.2.2.2.2 _ kw_5_176) (va_Nw.use rfl hB.c0) hce hcv hcl ?_
  have hP : va_P D vwCl ((xW o u cI cZ cJ) ++ [(ao, .inl (cJ, 1, .inr (.inl (fun _ => 0))))]) H := hP
  have hD : va_D A ((xW o u cI cZ cJ) ++ [(ao, .inl (cJ, 1, .inr (.inl (fun _ => 0))))]) := hD
  refine lv_astore (lv' := [(4, .ref q9), (0, .ref o), (1, .int x1), (2, .int 4), (3, .ref ao)]) hx hb dL_ofProcedure_13 hl (by decide) rfl (fun ls hl => ?_)
  refine lv_iconst (v := 1) hx hb dL_ofProcedure_15 (by decide) ?_
  exact vx_ret (wEnd S hr hlocks hP hD hS (Nat.le_of_ble_eq_true rfl) (Nat.le_of_ble_eq_true rfl) dL_ofProcedure_16 rfl)

set_option maxHeartbeats 8000000 in
set_option maxRecDepth 100000 in
theorem c_X9_ofProcedure_17 (l : Launch) (D : va_G) (cI cZ cJ : ClassId) (o : Nat) (q : Nat → Nat) (sz : Nat) (x1 : Int32) (lo_x1 : 1 ≤ x1) : Met l yX9_ofProcedure (uW yX9_ofProcedure cX9_ofProcedure 3 (some .int)) ({ frames := 2, cells := 0, slots := 0, locals := 43 }) (va_Pc [.ref o, .int x1, .int 4] (wS D (tyL cI cZ cJ) (mW o 0 q cI cZ) sz)) (wQi (0) D (mW o 1 q cI cZ) (va_A (mW o 0 q cI cZ) sz)) 0 0 (va_A (mW o 0 q cI cZ) sz) := by
  refine wStart (lv := [(0, .ref o), (1, .int x1), (2, .int 4)]) (Qc := fun A => wQi (0) D (mW o 1 q cI cZ) A) (by decide) (Nat.le_of_ble_eq_true rfl) rfl ?_
  intro p e s m args below meth c ls A H S hr hlocks hnm hl hK hP hD hS hA
  have hx := S.1
  have hb := S.2.1
  refine lv_aload_n hx hb dX9_ofProcedure_0 rfl (lv_at hl 0 rfl) ?_
  refine lv_iconst (v := 0) hx hb dX9_ofProcedure_1 (by decide) ?_
  refine xp (ci := 9) (v := .int 0) S inX9 tyX9 tyX9_ok nmX9 rfl hK hP hD hS mW_0 0 (by decide) kw_6_148 rfl rfl rfl rfl (Nat.le_of_ble_eq_true rfl) dX9_ofProcedure_2 (fun H locs hP hD hS => ?_)
  have hP : va_P D vwCl (mW o 0 q cI cZ) H := hP
  have hD : va_D A (mW o 0 q cI cZ) := hD
  refine lv_aload_n hx hb dX9_ofProcedure_5 rfl (lv_at hl 0 rfl) ?_
  refine lv_iload_n hx hb dX9_ofProcedure_6 rfl (lv_at hl 1 rfl) ?_
  refine rdV (As := [.int x1]) (ci := 9) S (c_X9_isProcedure_1 l D cI cZ cJ o q x1 lo_x1) mi_X9_isProcedure kw_7_97 ⟨rfl, rfl⟩ ⟨Nat.le_of_ble_eq_true rfl, Nat.le_of_ble_eq_true rfl⟩ hP hK mW_0 rfl rfl hl.1 (Nat.le_of_ble_eq_true rfl) ⟨Nat.le_of_ble_eq_true rfl, Nat.le_of_ble_eq_true rfl⟩ dX9_ofProcedure_7 ?_
  refine lv_if_ne (tgt := 19) hx hb dX9_ofProcedure_10 (by decide) (fun c => absurd c (by decide)) (fun _ => ?_)
  refine lv_aload_n hx hb dX9_ofProcedure_13 rfl (lv_at hl 0 rfl) ?_
  refine lv_iconst (v := 1) hx hb dX9_ofProcedure_14 (by decide) ?_
  refine wrV (As := [.int 1]) (ci := 9) S (c_X9_no_0 l D cI cZ cJ o q H.size) mi_X9_no kw_7_104 rfl rfl ⟨Nat.le_of_ble_eq_true rfl, Nat.le_of_ble_eq_true rfl⟩ hP hD hK hS hA mW_0 rfl rfl hl.1 (Nat.le_of_ble_eq_true rfl) ⟨Nat.le_of_ble_eq_true rfl, Nat.le_of_ble_eq_true rfl⟩ dX9_ofProcedure_15 (fun H locs hz hP hD hS => ?_)
  exact wEnd S hr hlocks hP hD hS (Nat.le_of_ble_eq_true rfl) (Nat.le_of_ble_eq_true rfl) dX9_ofProcedure_18 rfl

set_option maxHeartbeats 8000000 in
set_option maxRecDepth 100000 in
theorem h_ofProcedure_18 (l : Launch) (D : va_G) (cI cZ cJ : ClassId) (o : Nat) (u : Nat → Nat) (ao : Nat) (hst : l.stackTraces = false) (ra ga : Nat → Nat) (sz : Nat) : vx_Met l yL_ofProcedure (uWh yL_ofProcedure cL_ofProcedure 5 (some .int) [(0, 10, 13, 13), (0, 10, 17, 15)]) ({ frames := 5, cells := 0, slots := 0, locals := 107 }) (va_Pc [.ref o, .int 0, .int 4, .ref ao] (lS ra ga D (tyL cI cZ cJ) ((xW o u cI cZ cJ) ++ [(ao, .inl (cJ, 1, .inr (.inl (fun _ => 0))))]) sz)) (wQi (0) D ((((((((xW o u cI cZ cJ).set 0 (o, .inr (8, ((xF u).set 9 (.int 0))))).set 32 ((u 31), .inl (cZ, 10, .inl (upd (upd (upd (upd (upd (upd (upd (upd (upd (upd (fun _ => 0) (0 : Int32).toNatClampNeg 0) (1 : Int32).toNatClampNeg 0) (2 : Int32).toNatClampNeg 0) (3 : Int32).toNatClampNeg 0) (4 : Int32).toNatClampNeg 0) (5 : Int32).toNatClampNeg 0) (6 : Int32).toNatClampNeg 0) (7 : Int32).toNatClampNeg 0) (8 : Int32).toNatClampNeg 0) (9 : Int32).toNatClampNeg 0)))).set 34 ((u 33), .inr (2, ([.ref (u 0), .ref (u 12), .ref (u 19), .int 0, .ref (u 34), .ref (u 35), .ref (u 36), .ref (u 37), .int 0].set 3 (.int 1))))).set 35 ((u 34), .inl (cI, 120, .inl (upd (fun _ => 0) (0 : Int32).toNatClampNeg 10)))).set 36 ((u 35), .inl (cI, 120, .inl (upd (fun _ => 0) (0 : Int32).toNatClampNeg 0)))).set 37 ((u 36), .inl (cI, 120, .inl (upd (fun _ => 0) (0 : Int32).toNatClampNeg (-1))))) ++ [(ao, .inl (cJ, 1, .inr (.inl (vp_updL (fun _ => 0) (0 : Int32).toNatClampNeg 0))))]) (va_A ((xW o u cI cZ cJ) ++ [(ao, .inl (cJ, 1, .inr (.inl (fun _ => 0))))]) sz)) (xN (va_A ((xW o u cI cZ cJ) ++ [(ao, .inl (cJ, 1, .inr (.inl (fun _ => 0))))]) sz)) 0 0 (va_A ((xW o u cI cZ cJ) ++ [(ao, .inl (cJ, 1, .inr (.inl (fun _ => 0))))]) sz) := by
  refine hStart (l := l) (y := yL_ofProcedure) (b := cL_ofProcedure) (n := 5) (r := (some .int)) (hh := [(0, 10, 13, 13), (0, 10, 17, 15)]) (rm := ({ frames := 5, cells := 0, slots := 0, locals := 107 })) (mc := 0) (ms := 0) (ra := ra) (ga := ga) (D := D) (tys := tyL cI cZ cJ) (ws := ((xW o u cI cZ cJ) ++ [(ao, .inl (cJ, 1, .inr (.inl (fun _ => 0))))])) (av := [.ref o, .int 0, .int 4, .ref ao]) (sz := sz) (lv := [(0, .ref o), (1, .int 0), (2, .int 4), (3, .ref ao)]) (Qc := fun A => wQi (0) D ((((((((xW o u cI cZ cJ).set 0 (o, .inr (8, ((xF u).set 9 (.int 0))))).set 32 ((u 31), .inl (cZ, 10, .inl (upd (upd (upd (upd (upd (upd (upd (upd (upd (upd (fun _ => 0) (0 : Int32).toNatClampNeg 0) (1 : Int32).toNatClampNeg 0) (2 : Int32).toNatClampNeg 0) (3 : Int32).toNatClampNeg 0) (4 : Int32).toNatClampNeg 0) (5 : Int32).toNatClampNeg 0) (6 : Int32).toNatClampNeg 0) (7 : Int32).toNatClampNeg 0) (8 : Int32).toNatClampNeg 0) (9 : Int32).toNatClampNeg 0)))).set 34 ((u 33), .inr (2, ([.ref (u 0), .ref (u 12), .ref (u 19), .int 0, .ref (u 34), .ref (u 35), .ref (u 36), .ref (u 37), .int 0].set 3 (.int 1))))).set 35 ((u 34), .inl (cI, 120, .inl (upd (fun _ => 0) (0 : Int32).toNatClampNeg 10)))).set 36 ((u 35), .inl (cI, 120, .inl (upd (fun _ => 0) (0 : Int32).toNatClampNeg 0)))).set 37 ((u 36), .inl (cI, 120, .inl (upd (fun _ => 0) (0 : Int32).toNatClampNeg (-1))))) ++ [(ao, .inl (cJ, 1, .inr (.inl (vp_updL (fun _ => 0) (0 : Int32).toNatClampNeg 0))))]) A) (by decide) (Nat.le_of_ble_eq_true rfl) rfl ?_
  intro p e s m args below meth c ls A H S hr hlocks htab hl hK hP hD hS hA hB hC
  have hx := S.1
  have hb := S.2.1
  refine lv_aload_n hx hb dL_ofProcedure_0 rfl (lv_at hl 3 rfl) ?_
  refine lv_iconst (v := 0) hx hb dL_ofProcedure_1 (by decide) ?_
  refine lv_aload_n hx hb dL_ofProcedure_2 rfl (lv_at hl 0 rfl) ?_
  refine lv_iload_n hx hb dL_ofProcedure_3 rfl (lv_at hl 1 rfl) ?_
  refine lv_iload_n hx hb dL_ofProcedure_4 rfl (lv_at hl 2 rfl) ?_
  refine faVi [] [(ao, .inl (cJ, 1, .inr (.inl (fun _ => 0))))] (As := [.int 0, .int 4]) (ci := 8) S (c_X8_ofProcedure_18 l D cI cZ cJ o u ra ga H.size) mi_X8_ofProcedure kw_6_19 rfl rfl ⟨Nat.le_of_ble_eq_true rfl, Nat.le_of_ble_eq_true rfl⟩ hP hD hK hS hA hB xW_0 rfl rfl hl.1 (Nat.le_of_ble_eq_true rfl) ⟨Nat.le_of_ble_eq_true rfl, Nat.le_of_ble_eq_true rfl⟩ dL_ofProcedure_5 (fun H locs hz hP hD hS => ?_)
  have hP : va_P D vwCl ((((((((xW o u cI cZ cJ).set 0 (o, .inr (8, ((xF u).set 9 (.int 0))))).set 32 ((u 31), .inl (cZ, 10, .inl (upd (upd (upd (upd (upd (upd (upd (upd (upd (upd (fun _ => 0) (0 : Int32).toNatClampNeg 0) (1 : Int32).toNatClampNeg 0) (2 : Int32).toNatClampNeg 0) (3 : Int32).toNatClampNeg 0) (4 : Int32).toNatClampNeg 0) (5 : Int32).toNatClampNeg 0) (6 : Int32).toNatClampNeg 0) (7 : Int32).toNatClampNeg 0) (8 : Int32).toNatClampNeg 0) (9 : Int32).toNatClampNeg 0)))).set 34 ((u 33), .inr (2, ([.ref (u 0), .ref (u 12), .ref (u 19), .int 0, .ref (u 34), .ref (u 35), .ref (u 36), .ref (u 37), .int 0].set 3 (.int 1))))).set 35 ((u 34), .inl (cI, 120, .inl (upd (fun _ => 0) (0 : Int32).toNatClampNeg 10)))).set 36 ((u 35), .inl (cI, 120, .inl (upd (fun _ => 0) (0 : Int32).toNatClampNeg 0)))).set 37 ((u 36), .inl (cI, 120, .inl (upd (fun _ => 0) (0 : Int32).toNatClampNeg (-1))))) ++ [(ao, .inl (cJ, 1, .inr (.inl (fun _ => 0))))]) H := hP
  have hD : va_D A ((((((((xW o u cI cZ cJ).set 0 (o, .inr (8, ((xF u).set 9 (.int 0))))).set 32 ((u 31), .inl (cZ, 10, .inl (upd (upd (upd (upd (upd (upd (upd (upd (upd (upd (fun _ => 0) (0 : Int32).toNatClampNeg 0) (1 : Int32).toNatClampNeg 0) (2 : Int32).toNatClampNeg 0) (3 : Int32).toNatClampNeg 0) (4 : Int32).toNatClampNeg 0) (5 : Int32).toNatClampNeg 0) (6 : Int32).toNatClampNeg 0) (7 : Int32).toNatClampNeg 0) (8 : Int32).toNatClampNeg 0) (9 : Int32).toNatClampNeg 0)))).set 34 ((u 33), .inr (2, ([.ref (u 0), .ref (u 12), .ref (u 19), .int 0, .ref (u 34), .ref (u 35), .ref (u 36), .ref (u 37), .int 0].set 3 (.int 1))))).set 35 ((u 34), .inl (cI, 120, .inl (upd (fun _ => 0) (0 : Int32).toNatClampNeg 10)))).set 36 ((u 35), .inl (cI, 120, .inl (upd (fun _ => 0) (0 : Int32).toNatClampNeg 0)))).set 37 ((u 36), .inl (cI, 120, .inl (upd (fun _ => 0) (0 : Int32).toNatClampNeg (-1))))) ++ [(ao, .inl (cJ, 1, .inr (.inl (fun _ => 0))))]) := hD
  refine lv_i2l (v := 0) hx hb dL_ofProcedure_8 (by decide) ?_
  refine xlast (t0 := 2) S hK hP hD hS (q0 := 88) rfl rfl (vin rfl) dL_ofProcedure_9 (fun H locs hP hD hS => ?_)
  have hP : va_P D vwCl ((((((((xW o u cI cZ cJ).set 0 (o, .inr (8, ((xF u).set 9 (.int 0))))).set 32 ((u 31), .inl (cZ, 10, .inl (upd (upd (upd (upd (upd (upd (upd (upd (upd (upd (fun _ => 0) (0 : Int32).toNatClampNeg 0) (1 : Int32).toNatClampNeg 0) (2 : Int32).toNatClampNeg 0) (3 : Int32).toNatClampNeg 0) (4 : Int32).toNatClampNeg 0) (5 : Int32).toNatClampNeg 0) (6 : Int32).toNatClampNeg 0) (7 : Int32).toNatClampNeg 0) (8 : Int32).toNatClampNeg 0) (9 : Int32).toNatClampNeg 0)))).set 34 ((u 33), .inr (2, ([.ref (u 0), .ref (u 12), .ref (u 19), .int 0, .ref (u 34), .ref (u 35), .ref (u 36), .ref (u 37), .int 0].set 3 (.int 1))))).set 35 ((u 34), .inl (cI, 120, .inl (upd (fun _ => 0) (0 : Int32).toNatClampNeg 10)))).set 36 ((u 35), .inl (cI, 120, .inl (upd (fun _ => 0) (0 : Int32).toNatClampNeg 0)))).set 37 ((u 36), .inl (cI, 120, .inl (upd (fun _ => 0) (0 : Int32).toNatClampNeg (-1))))) ++ [(ao, .inl (cJ, 1, .inr (.inl (vp_updL (fun _ => 0) (0 : Int32).toNatClampNeg 0))))]) H := hP
  have hD : va_D A ((((((((xW o u cI cZ cJ).set 0 (o, .inr (8, ((xF u).set 9 (.int 0))))).set 32 ((u 31), .inl (cZ, 10, .inl (upd (upd (upd (upd (upd (upd (upd (upd (upd (upd (fun _ => 0) (0 : Int32).toNatClampNeg 0) (1 : Int32).toNatClampNeg 0) (2 : Int32).toNatClampNeg 0) (3 : Int32).toNatClampNeg 0) (4 : Int32).toNatClampNeg 0) (5 : Int32).toNatClampNeg 0) (6 : Int32).toNatClampNeg 0) (7 : Int32).toNatClampNeg 0) (8 : Int32).toNatClampNeg 0) (9 : Int32).toNatClampNeg 0)))).set 34 ((u 33), .inr (2, ([.ref (u 0), .ref (u 12), .ref (u 19), .int 0, .ref (u 34), .ref (u 35), .ref (u 36), .ref (u 37), .int 0].set 3 (.int 1))))).set 35 ((u 34), .inl (cI, 120, .inl (upd (fun _ => 0) (0 : Int32).toNatClampNeg 10)))).set 36 ((u 35), .inl (cI, 120, .inl (upd (fun _ => 0) (0 : Int32).toNatClampNeg 0)))).set 37 ((u 36), .inl (cI, 120, .inl (upd (fun _ => 0) (0 : Int32).toNatClampNeg (-1))))) ++ [(ao, .inl (cJ, 1, .inr (.inl (vp_updL (fun _ => 0) (0 : Int32).toNatClampNeg 0))))]) := hD
  refine lv_goto (tgt := 21) hx hb dL_ofProcedure_10 (by decide) ?_
  refine lv_iconst (v := 0) hx hb dL_ofProcedure_21 (by decide) ?_
  exact vx_ret (wEnd S hr hlocks hP hD hS (Nat.le_of_ble_eq_true rfl) (Nat.le_of_ble_eq_true rfl) dL_ofProcedure_22 rfl)

set_option maxHeartbeats 8000000 in
set_option maxRecDepth 100000 in
theorem c_X9_isIn_30 (l : Launch) (D : va_G) (cI cZ cJ : ClassId) (o : Nat) (q : Nat → Nat) : Met l yX9_isIn (uW yX9_isIn cX9_isIn 3 (some .boolean)) ({ frames := 0, cells := 0, slots := 0, locals := 0 }) (va_Pc [.int 4, .int 0, .int 7] (pS D (tyL cI cZ cJ) (mW o 0 q cI cZ))) (QcRead (1)) 0 0 (fun _ => False) := by
  refine rdStart (lv := [(0, .int 4), (1, .int 0), (2, .int 7)]) (by decide) (Nat.le_of_ble_eq_true rfl) rfl ?_
  intro p e s m args below meth c ls S hr hlocks hl hP hK
  have hx := S.1
  have hb := S.2.1
  refine lv_iload_n hx hb dX9_isIn_0 rfl (lv_at hl 0 rfl) ?_
  refine lv_iload_n hx hb dX9_isIn_1 rfl (lv_at hl 1 rfl) ?_
  refine lv_icmp_lt (tgt := 14) hx hb dX9_isIn_2 (by decide) (fun c => absurd c (by decide)) (fun _ => ?_)
  refine lv_iload_n hx hb dX9_isIn_5 rfl (lv_at hl 0 rfl) ?_
  refine lv_iload_n hx hb dX9_isIn_6 rfl (lv_at hl 2 rfl) ?_
  refine lv_icmp_gt (tgt := 14) hx hb dX9_isIn_7 (by decide) (fun c => absurd c (by decide)) (fun _ => ?_)
  refine lv_iconst (v := 1) hx hb dX9_isIn_10 (by decide) ?_
  refine lv_goto (tgt := 15) hx hb dX9_isIn_11 (by decide) ?_
  exact rdEndZ S hr hlocks dX9_isIn_15 rfl rfl

set_option maxHeartbeats 8000000 in
set_option maxRecDepth 100000 in
theorem c_X9_escapes_0 (l : Launch) (D : va_G) (cI cZ cJ : ClassId) (o : Nat) (q : Nat → Nat) : Met l yX9_escapes (uW yX9_escapes cX9_escapes 4 (some .int)) ({ frames := 0, cells := 0, slots := 0, locals := 0 }) (va_Pc [.ref o, .int 0] (pS D (tyL cI cZ cJ) (mW o 0 q cI cZ))) (QcRead (0)) 0 0 (fun _ => False) := by
  refine rdStart (lv := [(0, .ref o), (1, .int 0)]) (by decide) (Nat.le_of_ble_eq_true rfl) rfl ?_
  intro p e s m args below meth c ls S hr hlocks hl hP hK
  have hx := S.1
  have hb := S.2.1
  refine lv_iconst (v := 0) hx hb dX9_escapes_0 (by decide) ?_
  refine lv_istore_n (lv' := [(2, .int 0), (0, .ref o), (1, .int 0)]) hx hb dX9_escapes_1 rfl hl (by decide) rfl (fun ls hl => ?_)
  refine lv_iconst (v := 0) hx hb dX9_escapes_2 (by decide) ?_
  refine lv_istore_n (lv' := [(3, .int 0), (2, .int 0), (0, .ref o), (1, .int 0)]) hx hb dX9_escapes_3 rfl hl (by decide) rfl (fun ls hl => ?_)
  refine lv_iload_n hx hb dX9_escapes_4 rfl (lv_at hl 0 rfl) ?_
  refine lv_aload_n hx hb dX9_escapes_5 rfl (lv_at hl 2 rfl) ?_
  refine xg (ci := 9) S inX9 rfl hK hP mW_0 13 (by decide) mF_13 kw_6_161 rfl dX9_escapes_6 ?_
  refine lv_icmp_ge (tgt := 130) hx hb dX9_escapes_9 (by decide) (fun _ => ?_) (fun c => absurd c (by decide))
  refine lv_iload_n hx hb dX9_escapes_130 rfl (lv_at hl 1 rfl) ?_
  exact rdEnd S hr hlocks dX9_escapes_131 rfl

set_option maxHeartbeats 8000000 in
set_option maxRecDepth 100000 in
theorem c_X9_ofProcedureNow_5 (l : Launch) (D : va_G) (cI cZ cJ : ClassId) (o : Nat) (q : Nat → Nat) : Met l yX9_ofProcedureNow (uW yX9_ofProcedureNow cX9_ofProcedureNow 3 (some .int)) ({ frames := 1, cells := 0, slots := 0, locals := 23 }) (va_Pc [.ref o, .int 0, .int 4] (pS D (tyL cI cZ cJ) (mW o 0 q cI cZ))) (QcRead (0)) 0 0 (fun _ => False) := by
  refine rdStart (lv := [(0, .ref o), (1, .int 0), (2, .int 4)]) (by decide) (Nat.le_of_ble_eq_true rfl) rfl ?_
  intro p e s m args below meth c ls S hr hlocks hl hP hK
  have hx := S.1
  have hb := S.2.1
  refine lv_iload_n hx hb dX9_ofProcedureNow_0 rfl (lv_at hl 2 rfl) ?_
  refine lv_tableIn (off := 71) (tgt := 72) hx hb dX9_ofProcedureNow_1 (by decide) (by decide) (by decide) (by decide) ?_
  refine lv_aload_n hx hb dX9_ofProcedureNow_72 rfl (lv_at hl 0 rfl) ?_
  refine lv_iload_n hx hb dX9_ofProcedureNow_73 rfl (lv_at hl 1 rfl) ?_
  refine rdV (As := [.int 0]) (ci := 9) S (c_X9_escapes_0 l D cI cZ cJ o q) mi_X9_escapes kw_7_207 ⟨rfl, rfl⟩ ⟨Nat.le_of_ble_eq_true rfl, Nat.le_of_ble_eq_true rfl⟩ hP hK mW_0 rfl rfl hl.1 (Nat.le_of_ble_eq_true rfl) ⟨Nat.le_of_ble_eq_true rfl, Nat.le_of_ble_eq_true rfl⟩ dX9_ofProcedureNow_74 ?_
  exact rdEnd S hr hlocks dX9_ofProcedureNow_77 rfl

set_option maxHeartbeats 8000000 in
set_option maxRecDepth 100000 in
theorem c_X9_ofProcedure_18 (l : Launch) (D : va_G) (cI cZ cJ : ClassId) (o : Nat) (q : Nat → Nat) (sz : Nat) : Met l yX9_ofProcedure (uW yX9_ofProcedure cX9_ofProcedure 3 (some .int)) ({ frames := 2, cells := 0, slots := 0, locals := 45 }) (va_Pc [.ref o, .int 0, .int 4] (wS D (tyL cI cZ cJ) (mW o 0 q cI cZ) sz)) (wQi (0) D (mW o 0 q cI cZ) (va_A (mW o 0 q cI cZ) sz)) 0 0 (va_A (mW o 0 q cI cZ) sz) := by
  refine wStart (lv := [(0, .ref o), (1, .int 0), (2, .int 4)]) (Qc := fun A => wQi (0) D (mW o 0 q cI cZ) A) (by decide) (Nat.le_of_ble_eq_true rfl) rfl ?_
  intro p e s m args below meth c ls A H S hr hlocks hnm hl hK hP hD hS hA
  have hx := S.1
  have hb := S.2.1
  refine lv_aload_n hx hb dX9_ofProcedure_0 rfl (lv_at hl 0 rfl) ?_
  refine lv_iconst (v := 0) hx hb dX9_ofProcedure_1 (by decide) ?_
  refine xp (ci := 9) (v := .int 0) S inX9 tyX9 tyX9_ok nmX9 rfl hK hP hD hS mW_0 0 (by decide) kw_6_148 rfl rfl rfl rfl (Nat.le_of_ble_eq_true rfl) dX9_ofProcedure_2 (fun H locs hP hD hS => ?_)
  have hP : va_P D vwCl (mW o 0 q cI cZ) H := hP
  have hD : va_D A (mW o 0 q cI cZ) := hD
  refine lv_aload_n hx hb dX9_ofProcedure_5 rfl (lv_at hl 0 rfl) ?_
  refine lv_iload_n hx hb dX9_ofProcedure_6 rfl (lv_at hl 1 rfl) ?_
  refine rdV (As := [.int 0]) (ci := 9) S (c_X9_isProcedure_2 l D cI cZ cJ o q) mi_X9_isProcedure kw_7_97 ⟨rfl, rfl⟩ ⟨Nat.le_of_ble_eq_true rfl, Nat.le_of_ble_eq_true rfl⟩ hP hK mW_0 rfl rfl hl.1 (Nat.le_of_ble_eq_true rfl) ⟨Nat.le_of_ble_eq_true rfl, Nat.le_of_ble_eq_true rfl⟩ dX9_ofProcedure_7 ?_
  refine lv_if_ne (tgt := 19) hx hb dX9_ofProcedure_10 (by decide) (fun _ => ?_) (fun c => absurd c (by decide))
  refine lv_iload_n hx hb dX9_ofProcedure_19 rfl (lv_at hl 2 rfl) ?_
  refine lv_iconst (v := 0) hx hb dX9_ofProcedure_20 (by decide) ?_
  refine lv_bipush (v := 7) hx hb dX9_ofProcedure_21 (by decide) ?_
  refine rdS (As := [.int 4, .int 0, .int 7]) S (c_X9_isIn_30 l D cI cZ cJ o q) ms_X9_isIn kw_7_101 ⟨rfl, rfl⟩ ⟨Nat.le_of_ble_eq_true rfl, Nat.le_of_ble_eq_true rfl⟩ hP hK hl.1 (Nat.le_of_ble_eq_true rfl) ⟨Nat.le_of_ble_eq_true rfl, Nat.le_of_ble_eq_true rfl⟩ dX9_ofProcedure_23 ?_
  refine lv_if_eq (tgt := 38) hx hb dX9_ofProcedure_26 (by decide) (fun c => absurd c (by decide)) (fun _ => ?_)
  refine lv_aload_n hx hb dX9_ofProcedure_29 rfl (lv_at hl 0 rfl) ?_
  refine lv_iload_n hx hb dX9_ofProcedure_30 rfl (lv_at hl 1 rfl) ?_
  refine lv_iload_n hx hb dX9_ofProcedure_31 rfl (lv_at hl 2 rfl) ?_
  refine rdV (As := [.int 0, .int 4]) (ci := 9) S (c_X9_ofProcedureNow_5 l D cI cZ cJ o q) mi_X9_ofProcedureNow kw_7_203 ⟨rfl, rfl⟩ ⟨Nat.le_of_ble_eq_true rfl, Nat.le_of_ble_eq_true rfl⟩ hP hK mW_0 rfl rfl hl.1 (Nat.le_of_ble_eq_true rfl) ⟨Nat.le_of_ble_eq_true rfl, Nat.le_of_ble_eq_true rfl⟩ dX9_ofProcedure_32 ?_
  refine lv_goto (tgt := 43) hx hb dX9_ofProcedure_35 (by decide) ?_
  exact wEnd S hr hlocks hP hD hS (Nat.le_of_ble_eq_true rfl) (Nat.le_of_ble_eq_true rfl) dX9_ofProcedure_43 rfl

set_option maxHeartbeats 8000000 in
set_option maxRecDepth 100000 in
theorem h_ofProcedure_19 (l : Launch) (D : va_G) (cI cZ cJ : ClassId) (o : Nat) (u : Nat → Nat) (ao : Nat) (hst : l.stackTraces = false) (ra ga : Nat → Nat) (sz : Nat) (x1 : Int32) (hi_x1 : x1 ≤ (-1)) : vx_Met l yL_ofProcedure (uWh yL_ofProcedure cL_ofProcedure 5 (some .int) [(0, 10, 13, 13), (0, 10, 17, 15)]) ({ frames := 8, cells := 1, slots := 6, locals := 125 }) (va_Pc [.ref o, .int x1, .int 5, .ref ao] (lS ra ga D (tyL cI cZ cJ) ((xW o u cI cZ cJ) ++ [(ao, .inl (cJ, 1, .inr (.inl (fun _ => 0))))]) sz)) (wQi (1) D ((xW o u cI cZ cJ) ++ [(ao, .inl (cJ, 1, .inr (.inl (fun _ => 0))))]) (va_A ((xW o u cI cZ cJ) ++ [(ao, .inl (cJ, 1, .inr (.inl (fun _ => 0))))]) sz)) (xN (va_A ((xW o u cI cZ cJ) ++ [(ao, .inl (cJ, 1, .inr (.inl (fun _ => 0))))]) sz)) 1 6 (va_A ((xW o u cI cZ cJ) ++ [(ao, .inl (cJ, 1, .inr (.inl (fun _ => 0))))]) sz) := by
  refine hStart (l := l) (y := yL_ofProcedure) (b := cL_ofProcedure) (n := 5) (r := (some .int)) (hh := [(0, 10, 13, 13), (0, 10, 17, 15)]) (rm := ({ frames := 8, cells := 1, slots := 6, locals := 125 })) (mc := 1) (ms := 6) (ra := ra) (ga := ga) (D := D) (tys := tyL cI cZ cJ) (ws := ((xW o u cI cZ cJ) ++ [(ao, .inl (cJ, 1, .inr (.inl (fun _ => 0))))])) (av := [.ref o, .int x1, .int 5, .ref ao]) (sz := sz) (lv := [(0, .ref o), (1, .int x1), (2, .int 5), (3, .ref ao)]) (Qc := fun A => wQi (1) D ((xW o u cI cZ cJ) ++ [(ao, .inl (cJ, 1, .inr (.inl (fun _ => 0))))]) A) (by decide) (Nat.le_of_ble_eq_true rfl) rfl ?_
  intro p e s m args below meth c ls A H S hr hlocks htab hl hK hP hD hS hA hB hC
  have hx := S.1
  have hb := S.2.1
  refine lv_aload_n hx hb dL_ofProcedure_0 rfl (lv_at hl 3 rfl) ?_
  refine lv_iconst (v := 0) hx hb dL_ofProcedure_1 (by decide) ?_
  refine lv_aload_n hx hb dL_ofProcedure_2 rfl (lv_at hl 0 rfl) ?_
  refine lv_iload_n hx hb dL_ofProcedure_3 rfl (lv_at hl 1 rfl) ?_
  refine lv_iload_n hx hb dL_ofProcedure_4 rfl (lv_at hl 2 rfl) ?_
  refine cVi [] [(ao, .inl (cJ, 1, .inr (.inl (fun _ => 0))))] (As := [.int x1, .int 5]) (ci := 8) S (c_X8_ofProcedure_19 l D cI cZ cJ o u hst ra ga H.size x1 hi_x1) mi_X8_ofProcedure kw_6_19 rfl rfl ⟨Nat.le_of_ble_eq_true rfl, Nat.le_of_ble_eq_true rfl⟩ hP hD hK hS hA hB xW_0 rfl rfl hl.1 (Nat.le_of_ble_eq_true rfl) ⟨Nat.le_of_ble_eq_true rfl, Nat.le_of_ble_eq_true rfl⟩ dL_ofProcedure_5 (fun ce q9 H locs hz hP hD hS hce hcv hcl => ?_)
  refine vx_catch (name := "java/lang/IndexOutOfBoundsException") S.2.2.2.1 [] (⟨0, 10, 13, 13⟩ : ExceptionTableEntry) [(⟨0, 10, 17, 15⟩ : ExceptionTableEntry)] (htab.trans rfl) (fun _ h => absurd h List.not_mem_nil) (by decide) (by decide) (S.2.2.2.2 _ kw_5_176) (va_Nw.use rfl hB.c0) hce hcv hcl ?_
  have hP : va_P D vwCl ((xW o u cI cZ cJ) ++ [(ao, .inl (cJ, 1, .inr (.inl (fun _ => 0))))]) H := hP
  have hD : va_D A ((xW o u cI cZ cJ) ++ [(ao, .inl (cJ, 1, .inr (.inl (fun _ => 0))))]) := hD
  refine lv_astore (lv' := [(4, .ref q9), (0, .ref o), (1, .int x1), (2, .int 5), (3, .ref ao)]) hx hb dL_ofProcedure_13 hl (by decide) rfl (fun ls hl => ?_)
  refine lv_iconst (v := 1) hx hb dL_ofProcedure_15 (by decide) ?_
  exact vx_ret (wEnd S hr hlocks hP hD hS (Nat.le_of_ble_eq_true rfl) (Nat.le_of_ble_eq_true rfl) dL_ofProcedure_16 rfl)

set_option maxHeartbeats 8000000 in
set_option maxRecDepth 100000 in
theorem c_X9_ofProcedure_19 (l : Launch) (D : va_G) (cI cZ cJ : ClassId) (o : Nat) (q : Nat → Nat) (sz : Nat) (x1 : Int32) (hi_x1 : x1 ≤ (-1)) : Met l yX9_ofProcedure (uW yX9_ofProcedure cX9_ofProcedure 3 (some .int)) ({ frames := 2, cells := 0, slots := 0, locals := 43 }) (va_Pc [.ref o, .int x1, .int 5] (wS D (tyL cI cZ cJ) (mW o 0 q cI cZ) sz)) (wQi (0) D (mW o 1 q cI cZ) (va_A (mW o 0 q cI cZ) sz)) 0 0 (va_A (mW o 0 q cI cZ) sz) := by
  refine wStart (lv := [(0, .ref o), (1, .int x1), (2, .int 5)]) (Qc := fun A => wQi (0) D (mW o 1 q cI cZ) A) (by decide) (Nat.le_of_ble_eq_true rfl) rfl ?_
  intro p e s m args below meth c ls A H S hr hlocks hnm hl hK hP hD hS hA
  have hx := S.1
  have hb := S.2.1
  refine lv_aload_n hx hb dX9_ofProcedure_0 rfl (lv_at hl 0 rfl) ?_
  refine lv_iconst (v := 0) hx hb dX9_ofProcedure_1 (by decide) ?_
  refine xp (ci := 9) (v := .int 0) S inX9 tyX9 tyX9_ok nmX9 rfl hK hP hD hS mW_0 0 (by decide) kw_6_148 rfl rfl rfl rfl (Nat.le_of_ble_eq_true rfl) dX9_ofProcedure_2 (fun H locs hP hD hS => ?_)
  have hP : va_P D vwCl (mW o 0 q cI cZ) H := hP
  have hD : va_D A (mW o 0 q cI cZ) := hD
  refine lv_aload_n hx hb dX9_ofProcedure_5 rfl (lv_at hl 0 rfl) ?_
  refine lv_iload_n hx hb dX9_ofProcedure_6 rfl (lv_at hl 1 rfl) ?_
  refine rdV (As := [.int x1]) (ci := 9) S (c_X9_isProcedure_0 l D cI cZ cJ o q x1 hi_x1) mi_X9_isProcedure kw_7_97 ⟨rfl, rfl⟩ ⟨Nat.le_of_ble_eq_true rfl, Nat.le_of_ble_eq_true rfl⟩ hP hK mW_0 rfl rfl hl.1 (Nat.le_of_ble_eq_true rfl) ⟨Nat.le_of_ble_eq_true rfl, Nat.le_of_ble_eq_true rfl⟩ dX9_ofProcedure_7 ?_
  refine lv_if_ne (tgt := 19) hx hb dX9_ofProcedure_10 (by decide) (fun c => absurd c (by decide)) (fun _ => ?_)
  refine lv_aload_n hx hb dX9_ofProcedure_13 rfl (lv_at hl 0 rfl) ?_
  refine lv_iconst (v := 1) hx hb dX9_ofProcedure_14 (by decide) ?_
  refine wrV (As := [.int 1]) (ci := 9) S (c_X9_no_0 l D cI cZ cJ o q H.size) mi_X9_no kw_7_104 rfl rfl ⟨Nat.le_of_ble_eq_true rfl, Nat.le_of_ble_eq_true rfl⟩ hP hD hK hS hA mW_0 rfl rfl hl.1 (Nat.le_of_ble_eq_true rfl) ⟨Nat.le_of_ble_eq_true rfl, Nat.le_of_ble_eq_true rfl⟩ dX9_ofProcedure_15 (fun H locs hz hP hD hS => ?_)
  exact wEnd S hr hlocks hP hD hS (Nat.le_of_ble_eq_true rfl) (Nat.le_of_ble_eq_true rfl) dX9_ofProcedure_18 rfl

set_option maxHeartbeats 8000000 in
set_option maxRecDepth 100000 in
theorem h_ofProcedure_20 (l : Launch) (D : va_G) (cI cZ cJ : ClassId) (o : Nat) (u : Nat → Nat) (ao : Nat) (hst : l.stackTraces = false) (ra ga : Nat → Nat) (sz : Nat) (x1 : Int32) (lo_x1 : 1 ≤ x1) : vx_Met l yL_ofProcedure (uWh yL_ofProcedure cL_ofProcedure 5 (some .int) [(0, 10, 13, 13), (0, 10, 17, 15)]) ({ frames := 8, cells := 1, slots := 6, locals := 125 }) (va_Pc [.ref o, .int x1, .int 5, .ref ao] (lS ra ga D (tyL cI cZ cJ) ((xW o u cI cZ cJ) ++ [(ao, .inl (cJ, 1, .inr (.inl (fun _ => 0))))]) sz)) (wQi (1) D ((xW o u cI cZ cJ) ++ [(ao, .inl (cJ, 1, .inr (.inl (fun _ => 0))))]) (va_A ((xW o u cI cZ cJ) ++ [(ao, .inl (cJ, 1, .inr (.inl (fun _ => 0))))]) sz)) (xN (va_A ((xW o u cI cZ cJ) ++ [(ao, .inl (cJ, 1, .inr (.inl (fun _ => 0))))]) sz)) 1 6 (va_A ((xW o u cI cZ cJ) ++ [(ao, .inl (cJ, 1, .inr (.inl (fun _ => 0))))]) sz) := by
  refine hStart (l := l) (y := yL_ofProcedure) (b := cL_ofProcedure) (n := 5) (r := (some .int)) (hh := [(0, 10, 13, 13), (0, 10, 17, 15)]) (rm := ({ frames := 8, cells := 1, slots := 6, locals := 125 })) (mc := 1) (ms := 6) (ra := ra) (ga := ga) (D := D) (tys := tyL cI cZ cJ) (ws := ((xW o u cI cZ cJ) ++ [(ao, .inl (cJ, 1, .inr (.inl (fun _ => 0))))])) (av := [.ref o, .int x1, .int 5, .ref ao]) (sz := sz) (lv := [(0, .ref o), (1, .int x1), (2, .int 5), (3, .ref ao)]) (Qc := fun A => wQi (1) D ((xW o u cI cZ cJ) ++ [(ao, .inl (cJ, 1, .inr (.inl (fun _ => 0))))]) A) (by decide) (Nat.le_of_ble_eq_true rfl) rfl ?_
  intro p e s m args below meth c ls A H S hr hlocks htab hl hK hP hD hS hA hB hC
  have hx := S.1
  have hb := S.2.1
  refine lv_aload_n hx hb dL_ofProcedure_0 rfl (lv_at hl 3 rfl) ?_
  refine lv_iconst (v := 0) hx hb dL_ofProcedure_1 (by decide) ?_
  refine lv_aload_n hx hb dL_ofProcedure_2 rfl (lv_at hl 0 rfl) ?_
  refine lv_iload_n hx hb dL_ofProcedure_3 rfl (lv_at hl 1 rfl) ?_
  refine lv_iload_n hx hb dL_ofProcedure_4 rfl (lv_at hl 2 rfl) ?_
  refine cVi [] [(ao, .inl (cJ, 1, .inr (.inl (fun _ => 0))))] (As := [.int x1, .int 5]) (ci := 8) S (c_X8_ofProcedure_20 l D cI cZ cJ o u hst ra ga H.size x1 lo_x1) mi_X8_ofProcedure kw_6_19 rfl rfl ⟨Nat.le_of_ble_eq_true rfl, Nat.le_of_ble_eq_true rfl⟩ hP hD hK hS hA hB xW_0 rfl rfl hl.1 (Nat.le_of_ble_eq_true rfl) ⟨Nat.le_of_ble_eq_true rfl, Nat.le_of_ble_eq_true rfl⟩ dL_ofProcedure_5 (fun ce q9 H locs hz hP hD hS hce hcv hcl => ?_)
  refine vx_catch (name := "java/lang/IndexOutOfBoundsException") S.2.2.2.1 [] (⟨0, 10, 13, 13⟩ : ExceptionTableEntry) [(⟨0, 10, 17, 15⟩ : ExceptionTableEntry)] (htab.trans rfl) (fun _ h => absurd h List.not_mem_nil) (by decide) (by decide) (S.2.2.2.2 _ kw_5_176) (va_Nw.use rfl hB.c0) hce hcv hcl ?_
  have hP : va_P D vwCl ((xW o u cI cZ cJ) ++ [(ao, .inl (cJ, 1, .inr (.inl (fun _ => 0))))]) H := hP
  have hD : va_D A ((xW o u cI cZ cJ) ++ [(ao, .inl (cJ, 1, .inr (.inl (fun _ => 0))))]) := hD
  refine lv_astore (lv' := [(4, .ref q9), (0, .ref o), (1, .int x1), (2, .int 5), (3, .ref ao)]) hx hb dL_ofProcedure_13 hl (by decide) rfl (fun ls hl => ?_)
  refine lv_iconst (v := 1) hx hb dL_ofProcedure_15 (by decide) ?_
  exact vx_ret (wEnd S hr hlocks hP hD hS (Nat.le_of_ble_eq_true rfl) (Nat.le_of_ble_eq_true rfl) dL_ofProcedure_16 rfl)

set_option maxHeartbeats 8000000 in
set_option maxRecDepth 100000 in
theorem c_X9_ofProcedure_20 (l : Launch) (D : va_G) (cI cZ cJ : ClassId) (o : Nat) (q : Nat → Nat) (sz : Nat) (x1 : Int32) (lo_x1 : 1 ≤ x1) : Met l yX9_ofProcedure (uW yX9_ofProcedure cX9_ofProcedure 3 (some .int)) ({ frames := 2, cells := 0, slots := 0, locals := 43 }) (va_Pc [.ref o, .int x1, .int 5] (wS D (tyL cI cZ cJ) (mW o 0 q cI cZ) sz)) (wQi (0) D (mW o 1 q cI cZ) (va_A (mW o 0 q cI cZ) sz)) 0 0 (va_A (mW o 0 q cI cZ) sz) := by
  refine wStart (lv := [(0, .ref o), (1, .int x1), (2, .int 5)]) (Qc := fun A => wQi (0) D (mW o 1 q cI cZ) A) (by decide) (Nat.le_of_ble_eq_true rfl) rfl ?_
  intro p e s m args below meth c ls A H S hr hlocks hnm hl hK hP hD hS hA
  have hx := S.1
  have hb := S.2.1
  refine lv_aload_n hx hb dX9_ofProcedure_0 rfl (lv_at hl 0 rfl) ?_
  refine lv_iconst (v := 0) hx hb dX9_ofProcedure_1 (by decide) ?_
  refine xp (ci := 9) (v := .int 0) S inX9 tyX9 tyX9_ok nmX9 rfl hK hP hD hS mW_0 0 (by decide) kw_6_148 rfl rfl rfl rfl (Nat.le_of_ble_eq_true rfl) dX9_ofProcedure_2 (fun H locs hP hD hS => ?_)
  have hP : va_P D vwCl (mW o 0 q cI cZ) H := hP
  have hD : va_D A (mW o 0 q cI cZ) := hD
  refine lv_aload_n hx hb dX9_ofProcedure_5 rfl (lv_at hl 0 rfl) ?_
  refine lv_iload_n hx hb dX9_ofProcedure_6 rfl (lv_at hl 1 rfl) ?_
  refine rdV (As := [.int x1]) (ci := 9) S (c_X9_isProcedure_1 l D cI cZ cJ o q x1 lo_x1) mi_X9_isProcedure kw_7_97 ⟨rfl, rfl⟩ ⟨Nat.le_of_ble_eq_true rfl, Nat.le_of_ble_eq_true rfl⟩ hP hK mW_0 rfl rfl hl.1 (Nat.le_of_ble_eq_true rfl) ⟨Nat.le_of_ble_eq_true rfl, Nat.le_of_ble_eq_true rfl⟩ dX9_ofProcedure_7 ?_
  refine lv_if_ne (tgt := 19) hx hb dX9_ofProcedure_10 (by decide) (fun c => absurd c (by decide)) (fun _ => ?_)
  refine lv_aload_n hx hb dX9_ofProcedure_13 rfl (lv_at hl 0 rfl) ?_
  refine lv_iconst (v := 1) hx hb dX9_ofProcedure_14 (by decide) ?_
  refine wrV (As := [.int 1]) (ci := 9) S (c_X9_no_0 l D cI cZ cJ o q H.size) mi_X9_no kw_7_104 rfl rfl ⟨Nat.le_of_ble_eq_true rfl, Nat.le_of_ble_eq_true rfl⟩ hP hD hK hS hA mW_0 rfl rfl hl.1 (Nat.le_of_ble_eq_true rfl) ⟨Nat.le_of_ble_eq_true rfl, Nat.le_of_ble_eq_true rfl⟩ dX9_ofProcedure_15 (fun H locs hz hP hD hS => ?_)
  exact wEnd S hr hlocks hP hD hS (Nat.le_of_ble_eq_true rfl) (Nat.le_of_ble_eq_true rfl) dX9_ofProcedure_18 rfl

set_option maxHeartbeats 8000000 in
set_option maxRecDepth 100000 in
theorem h_ofProcedure_21 (l : Launch) (D : va_G) (cI cZ cJ : ClassId) (o : Nat) (u : Nat → Nat) (ao : Nat) (hst : l.stackTraces = false) (ra ga : Nat → Nat) (sz : Nat) : vx_Met l yL_ofProcedure (uWh yL_ofProcedure cL_ofProcedure 5 (some .int) [(0, 10, 13, 13), (0, 10, 17, 15)]) ({ frames := 5, cells := 0, slots := 0, locals := 107 }) (va_Pc [.ref o, .int 0, .int 5, .ref ao] (lS ra ga D (tyL cI cZ cJ) ((xW o u cI cZ cJ) ++ [(ao, .inl (cJ, 1, .inr (.inl (fun _ => 0))))]) sz)) (wQi (0) D ((((((((xW o u cI cZ cJ).set 0 (o, .inr (8, ((xF u).set 9 (.int 0))))).set 32 ((u 31), .inl (cZ, 10, .inl (upd (upd (upd (upd (upd (upd (upd (upd (upd (upd (fun _ => 0) (0 : Int32).toNatClampNeg 0) (1 : Int32).toNatClampNeg 0) (2 : Int32).toNatClampNeg 0) (3 : Int32).toNatClampNeg 0) (4 : Int32).toNatClampNeg 0) (5 : Int32).toNatClampNeg 0) (6 : Int32).toNatClampNeg 0) (7 : Int32).toNatClampNeg 0) (8 : Int32).toNatClampNeg 0) (9 : Int32).toNatClampNeg 0)))).set 34 ((u 33), .inr (2, ([.ref (u 0), .ref (u 12), .ref (u 19), .int 0, .ref (u 34), .ref (u 35), .ref (u 36), .ref (u 37), .int 0].set 3 (.int 1))))).set 35 ((u 34), .inl (cI, 120, .inl (upd (fun _ => 0) (0 : Int32).toNatClampNeg 10)))).set 36 ((u 35), .inl (cI, 120, .inl (upd (fun _ => 0) (0 : Int32).toNatClampNeg 0)))).set 37 ((u 36), .inl (cI, 120, .inl (upd (fun _ => 0) (0 : Int32).toNatClampNeg (-1))))) ++ [(ao, .inl (cJ, 1, .inr (.inl (vp_updL (fun _ => 0) (0 : Int32).toNatClampNeg 0))))]) (va_A ((xW o u cI cZ cJ) ++ [(ao, .inl (cJ, 1, .inr (.inl (fun _ => 0))))]) sz)) (xN (va_A ((xW o u cI cZ cJ) ++ [(ao, .inl (cJ, 1, .inr (.inl (fun _ => 0))))]) sz)) 0 0 (va_A ((xW o u cI cZ cJ) ++ [(ao, .inl (cJ, 1, .inr (.inl (fun _ => 0))))]) sz) := by
  refine hStart (l := l) (y := yL_ofProcedure) (b := cL_ofProcedure) (n := 5) (r := (some .int)) (hh := [(0, 10, 13, 13), (0, 10, 17, 15)]) (rm := ({ frames := 5, cells := 0, slots := 0, locals := 107 })) (mc := 0) (ms := 0) (ra := ra) (ga := ga) (D := D) (tys := tyL cI cZ cJ) (ws := ((xW o u cI cZ cJ) ++ [(ao, .inl (cJ, 1, .inr (.inl (fun _ => 0))))])) (av := [.ref o, .int 0, .int 5, .ref ao]) (sz := sz) (lv := [(0, .ref o), (1, .int 0), (2, .int 5), (3, .ref ao)]) (Qc := fun A => wQi (0) D ((((((((xW o u cI cZ cJ).set 0 (o, .inr (8, ((xF u).set 9 (.int 0))))).set 32 ((u 31), .inl (cZ, 10, .inl (upd (upd (upd (upd (upd (upd (upd (upd (upd (upd (fun _ => 0) (0 : Int32).toNatClampNeg 0) (1 : Int32).toNatClampNeg 0) (2 : Int32).toNatClampNeg 0) (3 : Int32).toNatClampNeg 0) (4 : Int32).toNatClampNeg 0) (5 : Int32).toNatClampNeg 0) (6 : Int32).toNatClampNeg 0) (7 : Int32).toNatClampNeg 0) (8 : Int32).toNatClampNeg 0) (9 : Int32).toNatClampNeg 0)))).set 34 ((u 33), .inr (2, ([.ref (u 0), .ref (u 12), .ref (u 19), .int 0, .ref (u 34), .ref (u 35), .ref (u 36), .ref (u 37), .int 0].set 3 (.int 1))))).set 35 ((u 34), .inl (cI, 120, .inl (upd (fun _ => 0) (0 : Int32).toNatClampNeg 10)))).set 36 ((u 35), .inl (cI, 120, .inl (upd (fun _ => 0) (0 : Int32).toNatClampNeg 0)))).set 37 ((u 36), .inl (cI, 120, .inl (upd (fun _ => 0) (0 : Int32).toNatClampNeg (-1))))) ++ [(ao, .inl (cJ, 1, .inr (.inl (vp_updL (fun _ => 0) (0 : Int32).toNatClampNeg 0))))]) A) (by decide) (Nat.le_of_ble_eq_true rfl) rfl ?_
  intro p e s m args below meth c ls A H S hr hlocks htab hl hK hP hD hS hA hB hC
  have hx := S.1
  have hb := S.2.1
  refine lv_aload_n hx hb dL_ofProcedure_0 rfl (lv_at hl 3 rfl) ?_
  refine lv_iconst (v := 0) hx hb dL_ofProcedure_1 (by decide) ?_
  refine lv_aload_n hx hb dL_ofProcedure_2 rfl (lv_at hl 0 rfl) ?_
  refine lv_iload_n hx hb dL_ofProcedure_3 rfl (lv_at hl 1 rfl) ?_
  refine lv_iload_n hx hb dL_ofProcedure_4 rfl (lv_at hl 2 rfl) ?_
  refine faVi [] [(ao, .inl (cJ, 1, .inr (.inl (fun _ => 0))))] (As := [.int 0, .int 5]) (ci := 8) S (c_X8_ofProcedure_21 l D cI cZ cJ o u ra ga H.size) mi_X8_ofProcedure kw_6_19 rfl rfl ⟨Nat.le_of_ble_eq_true rfl, Nat.le_of_ble_eq_true rfl⟩ hP hD hK hS hA hB xW_0 rfl rfl hl.1 (Nat.le_of_ble_eq_true rfl) ⟨Nat.le_of_ble_eq_true rfl, Nat.le_of_ble_eq_true rfl⟩ dL_ofProcedure_5 (fun H locs hz hP hD hS => ?_)
  have hP : va_P D vwCl ((((((((xW o u cI cZ cJ).set 0 (o, .inr (8, ((xF u).set 9 (.int 0))))).set 32 ((u 31), .inl (cZ, 10, .inl (upd (upd (upd (upd (upd (upd (upd (upd (upd (upd (fun _ => 0) (0 : Int32).toNatClampNeg 0) (1 : Int32).toNatClampNeg 0) (2 : Int32).toNatClampNeg 0) (3 : Int32).toNatClampNeg 0) (4 : Int32).toNatClampNeg 0) (5 : Int32).toNatClampNeg 0) (6 : Int32).toNatClampNeg 0) (7 : Int32).toNatClampNeg 0) (8 : Int32).toNatClampNeg 0) (9 : Int32).toNatClampNeg 0)))).set 34 ((u 33), .inr (2, ([.ref (u 0), .ref (u 12), .ref (u 19), .int 0, .ref (u 34), .ref (u 35), .ref (u 36), .ref (u 37), .int 0].set 3 (.int 1))))).set 35 ((u 34), .inl (cI, 120, .inl (upd (fun _ => 0) (0 : Int32).toNatClampNeg 10)))).set 36 ((u 35), .inl (cI, 120, .inl (upd (fun _ => 0) (0 : Int32).toNatClampNeg 0)))).set 37 ((u 36), .inl (cI, 120, .inl (upd (fun _ => 0) (0 : Int32).toNatClampNeg (-1))))) ++ [(ao, .inl (cJ, 1, .inr (.inl (fun _ => 0))))]) H := hP
  have hD : va_D A ((((((((xW o u cI cZ cJ).set 0 (o, .inr (8, ((xF u).set 9 (.int 0))))).set 32 ((u 31), .inl (cZ, 10, .inl (upd (upd (upd (upd (upd (upd (upd (upd (upd (upd (fun _ => 0) (0 : Int32).toNatClampNeg 0) (1 : Int32).toNatClampNeg 0) (2 : Int32).toNatClampNeg 0) (3 : Int32).toNatClampNeg 0) (4 : Int32).toNatClampNeg 0) (5 : Int32).toNatClampNeg 0) (6 : Int32).toNatClampNeg 0) (7 : Int32).toNatClampNeg 0) (8 : Int32).toNatClampNeg 0) (9 : Int32).toNatClampNeg 0)))).set 34 ((u 33), .inr (2, ([.ref (u 0), .ref (u 12), .ref (u 19), .int 0, .ref (u 34), .ref (u 35), .ref (u 36), .ref (u 37), .int 0].set 3 (.int 1))))).set 35 ((u 34), .inl (cI, 120, .inl (upd (fun _ => 0) (0 : Int32).toNatClampNeg 10)))).set 36 ((u 35), .inl (cI, 120, .inl (upd (fun _ => 0) (0 : Int32).toNatClampNeg 0)))).set 37 ((u 36), .inl (cI, 120, .inl (upd (fun _ => 0) (0 : Int32).toNatClampNeg (-1))))) ++ [(ao, .inl (cJ, 1, .inr (.inl (fun _ => 0))))]) := hD
  refine lv_i2l (v := 0) hx hb dL_ofProcedure_8 (by decide) ?_
  refine xlast (t0 := 2) S hK hP hD hS (q0 := 88) rfl rfl (vin rfl) dL_ofProcedure_9 (fun H locs hP hD hS => ?_)
  have hP : va_P D vwCl ((((((((xW o u cI cZ cJ).set 0 (o, .inr (8, ((xF u).set 9 (.int 0))))).set 32 ((u 31), .inl (cZ, 10, .inl (upd (upd (upd (upd (upd (upd (upd (upd (upd (upd (fun _ => 0) (0 : Int32).toNatClampNeg 0) (1 : Int32).toNatClampNeg 0) (2 : Int32).toNatClampNeg 0) (3 : Int32).toNatClampNeg 0) (4 : Int32).toNatClampNeg 0) (5 : Int32).toNatClampNeg 0) (6 : Int32).toNatClampNeg 0) (7 : Int32).toNatClampNeg 0) (8 : Int32).toNatClampNeg 0) (9 : Int32).toNatClampNeg 0)))).set 34 ((u 33), .inr (2, ([.ref (u 0), .ref (u 12), .ref (u 19), .int 0, .ref (u 34), .ref (u 35), .ref (u 36), .ref (u 37), .int 0].set 3 (.int 1))))).set 35 ((u 34), .inl (cI, 120, .inl (upd (fun _ => 0) (0 : Int32).toNatClampNeg 10)))).set 36 ((u 35), .inl (cI, 120, .inl (upd (fun _ => 0) (0 : Int32).toNatClampNeg 0)))).set 37 ((u 36), .inl (cI, 120, .inl (upd (fun _ => 0) (0 : Int32).toNatClampNeg (-1))))) ++ [(ao, .inl (cJ, 1, .inr (.inl (vp_updL (fun _ => 0) (0 : Int32).toNatClampNeg 0))))]) H := hP
  have hD : va_D A ((((((((xW o u cI cZ cJ).set 0 (o, .inr (8, ((xF u).set 9 (.int 0))))).set 32 ((u 31), .inl (cZ, 10, .inl (upd (upd (upd (upd (upd (upd (upd (upd (upd (upd (fun _ => 0) (0 : Int32).toNatClampNeg 0) (1 : Int32).toNatClampNeg 0) (2 : Int32).toNatClampNeg 0) (3 : Int32).toNatClampNeg 0) (4 : Int32).toNatClampNeg 0) (5 : Int32).toNatClampNeg 0) (6 : Int32).toNatClampNeg 0) (7 : Int32).toNatClampNeg 0) (8 : Int32).toNatClampNeg 0) (9 : Int32).toNatClampNeg 0)))).set 34 ((u 33), .inr (2, ([.ref (u 0), .ref (u 12), .ref (u 19), .int 0, .ref (u 34), .ref (u 35), .ref (u 36), .ref (u 37), .int 0].set 3 (.int 1))))).set 35 ((u 34), .inl (cI, 120, .inl (upd (fun _ => 0) (0 : Int32).toNatClampNeg 10)))).set 36 ((u 35), .inl (cI, 120, .inl (upd (fun _ => 0) (0 : Int32).toNatClampNeg 0)))).set 37 ((u 36), .inl (cI, 120, .inl (upd (fun _ => 0) (0 : Int32).toNatClampNeg (-1))))) ++ [(ao, .inl (cJ, 1, .inr (.inl (vp_updL (fun _ => 0) (0 : Int32).toNatClampNeg 0))))]) := hD
  refine lv_goto (tgt := 21) hx hb dL_ofProcedure_10 (by decide) ?_
  refine lv_iconst (v := 0) hx hb dL_ofProcedure_21 (by decide) ?_
  exact vx_ret (wEnd S hr hlocks hP hD hS (Nat.le_of_ble_eq_true rfl) (Nat.le_of_ble_eq_true rfl) dL_ofProcedure_22 rfl)

set_option maxHeartbeats 8000000 in
set_option maxRecDepth 100000 in
theorem c_X9_isIn_31 (l : Launch) (D : va_G) (cI cZ cJ : ClassId) (o : Nat) (q : Nat → Nat) : Met l yX9_isIn (uW yX9_isIn cX9_isIn 3 (some .boolean)) ({ frames := 0, cells := 0, slots := 0, locals := 0 }) (va_Pc [.int 5, .int 0, .int 7] (pS D (tyL cI cZ cJ) (mW o 0 q cI cZ))) (QcRead (1)) 0 0 (fun _ => False) := by
  refine rdStart (lv := [(0, .int 5), (1, .int 0), (2, .int 7)]) (by decide) (Nat.le_of_ble_eq_true rfl) rfl ?_
  intro p e s m args below meth c ls S hr hlocks hl hP hK
  have hx := S.1
  have hb := S.2.1
  refine lv_iload_n hx hb dX9_isIn_0 rfl (lv_at hl 0 rfl) ?_
  refine lv_iload_n hx hb dX9_isIn_1 rfl (lv_at hl 1 rfl) ?_
  refine lv_icmp_lt (tgt := 14) hx hb dX9_isIn_2 (by decide) (fun c => absurd c (by decide)) (fun _ => ?_)
  refine lv_iload_n hx hb dX9_isIn_5 rfl (lv_at hl 0 rfl) ?_
  refine lv_iload_n hx hb dX9_isIn_6 rfl (lv_at hl 2 rfl) ?_
  refine lv_icmp_gt (tgt := 14) hx hb dX9_isIn_7 (by decide) (fun c => absurd c (by decide)) (fun _ => ?_)
  refine lv_iconst (v := 1) hx hb dX9_isIn_10 (by decide) ?_
  refine lv_goto (tgt := 15) hx hb dX9_isIn_11 (by decide) ?_
  exact rdEndZ S hr hlocks dX9_isIn_15 rfl rfl

set_option maxHeartbeats 8000000 in
set_option maxRecDepth 100000 in
theorem c_X9_isHandedOn_0 (l : Launch) (D : va_G) (cI cZ cJ : ClassId) (o : Nat) (q : Nat → Nat) : Met l yX9_isHandedOn (uW yX9_isHandedOn cX9_isHandedOn 3 (some .boolean)) ({ frames := 0, cells := 0, slots := 0, locals := 0 }) (va_Pc [.ref o, .int 0] (pS D (tyL cI cZ cJ) (mW o 0 q cI cZ))) (QcRead (0)) 0 0 (fun _ => False) := by
  refine rdStart (lv := [(0, .ref o), (1, .int 0)]) (by decide) (Nat.le_of_ble_eq_true rfl) rfl ?_
  intro p e s m args below meth c ls S hr hlocks hl hP hK
  have hx := S.1
  have hb := S.2.1
  refine lv_iconst (v := 0) hx hb dX9_isHandedOn_0 (by decide) ?_
  refine lv_istore_n (lv' := [(2, .int 0), (0, .ref o), (1, .int 0)]) hx hb dX9_isHandedOn_1 rfl hl (by decide) rfl (fun ls hl => ?_)
  refine lv_iload_n hx hb dX9_isHandedOn_2 rfl (lv_at hl 0 rfl) ?_
  refine lv_aload_n hx hb dX9_isHandedOn_3 rfl (lv_at hl 1 rfl) ?_
  refine xg (ci := 9) S inX9 rfl hK hP mW_0 13 (by decide) mF_13 kw_6_161 rfl dX9_isHandedOn_4 ?_
  refine lv_icmp_ge (tgt := 77) hx hb dX9_isHandedOn_7 (by decide) (fun _ => ?_) (fun c => absurd c (by decide))
  refine lv_iconst (v := 0) hx hb dX9_isHandedOn_77 (by decide) ?_
  exact rdEndZ S hr hlocks dX9_isHandedOn_78 rfl rfl

set_option maxHeartbeats 8000000 in
set_option maxRecDepth 100000 in
theorem c_X9_ofProcedureNow_6 (l : Launch) (D : va_G) (cI cZ cJ : ClassId) (o : Nat) (q : Nat → Nat) : Met l yX9_ofProcedureNow (uW yX9_ofProcedureNow cX9_ofProcedureNow 3 (some .int)) ({ frames := 1, cells := 0, slots := 0, locals := 22 }) (va_Pc [.ref o, .int 0, .int 5] (pS D (tyL cI cZ cJ) (mW o 0 q cI cZ))) (QcRead (0)) 0 0 (fun _ => False) := by
  refine rdStart (lv := [(0, .ref o), (1, .int 0), (2, .int 5)]) (by decide) (Nat.le_of_ble_eq_true rfl) rfl ?_
  intro p e s m args below meth c ls S hr hlocks hl hP hK
  have hx := S.1
  have hb := S.2.1
  refine lv_iload_n hx hb dX9_ofProcedureNow_0 rfl (lv_at hl 2 rfl) ?_
  refine lv_tableIn (off := 77) (tgt := 78) hx hb dX9_ofProcedureNow_1 (by decide) (by decide) (by decide) (by decide) ?_
  refine lv_aload_n hx hb dX9_ofProcedureNow_78 rfl (lv_at hl 0 rfl) ?_
  refine lv_iload_n hx hb dX9_ofProcedureNow_79 rfl (lv_at hl 1 rfl) ?_
  refine rdV (As := [.int 0]) (ci := 9) S (c_X9_isHandedOn_0 l D cI cZ cJ o q) mi_X9_isHandedOn kw_7_226 ⟨rfl, rfl⟩ ⟨Nat.le_of_ble_eq_true rfl, Nat.le_of_ble_eq_true rfl⟩ hP hK mW_0 rfl rfl hl.1 (Nat.le_of_ble_eq_true rfl) ⟨Nat.le_of_ble_eq_true rfl, Nat.le_of_ble_eq_true rfl⟩ dX9_ofProcedureNow_80 ?_
  refine lv_if_eq (tgt := 90) hx hb dX9_ofProcedureNow_83 (by decide) (fun _ => ?_) (fun c => absurd c (by decide))
  refine lv_iconst (v := 0) hx hb dX9_ofProcedureNow_90 (by decide) ?_
  exact rdEnd S hr hlocks dX9_ofProcedureNow_91 rfl

set_option maxHeartbeats 8000000 in
set_option maxRecDepth 100000 in
theorem c_X9_ofProcedure_21 (l : Launch) (D : va_G) (cI cZ cJ : ClassId) (o : Nat) (q : Nat → Nat) (sz : Nat) : Met l yX9_ofProcedure (uW yX9_ofProcedure cX9_ofProcedure 3 (some .int)) ({ frames := 2, cells := 0, slots := 0, locals := 44 }) (va_Pc [.ref o, .int 0, .int 5] (wS D (tyL cI cZ cJ) (mW o 0 q cI cZ) sz)) (wQi (0) D (mW o 0 q cI cZ) (va_A (mW o 0 q cI cZ) sz)) 0 0 (va_A (mW o 0 q cI cZ) sz) := by
  refine wStart (lv := [(0, .ref o), (1, .int 0), (2, .int 5)]) (Qc := fun A => wQi (0) D (mW o 0 q cI cZ) A) (by decide) (Nat.le_of_ble_eq_true rfl) rfl ?_
  intro p e s m args below meth c ls A H S hr hlocks hnm hl hK hP hD hS hA
  have hx := S.1
  have hb := S.2.1
  refine lv_aload_n hx hb dX9_ofProcedure_0 rfl (lv_at hl 0 rfl) ?_
  refine lv_iconst (v := 0) hx hb dX9_ofProcedure_1 (by decide) ?_
  refine xp (ci := 9) (v := .int 0) S inX9 tyX9 tyX9_ok nmX9 rfl hK hP hD hS mW_0 0 (by decide) kw_6_148 rfl rfl rfl rfl (Nat.le_of_ble_eq_true rfl) dX9_ofProcedure_2 (fun H locs hP hD hS => ?_)
  have hP : va_P D vwCl (mW o 0 q cI cZ) H := hP
  have hD : va_D A (mW o 0 q cI cZ) := hD
  refine lv_aload_n hx hb dX9_ofProcedure_5 rfl (lv_at hl 0 rfl) ?_
  refine lv_iload_n hx hb dX9_ofProcedure_6 rfl (lv_at hl 1 rfl) ?_
  refine rdV (As := [.int 0]) (ci := 9) S (c_X9_isProcedure_2 l D cI cZ cJ o q) mi_X9_isProcedure kw_7_97 ⟨rfl, rfl⟩ ⟨Nat.le_of_ble_eq_true rfl, Nat.le_of_ble_eq_true rfl⟩ hP hK mW_0 rfl rfl hl.1 (Nat.le_of_ble_eq_true rfl) ⟨Nat.le_of_ble_eq_true rfl, Nat.le_of_ble_eq_true rfl⟩ dX9_ofProcedure_7 ?_
  refine lv_if_ne (tgt := 19) hx hb dX9_ofProcedure_10 (by decide) (fun _ => ?_) (fun c => absurd c (by decide))
  refine lv_iload_n hx hb dX9_ofProcedure_19 rfl (lv_at hl 2 rfl) ?_
  refine lv_iconst (v := 0) hx hb dX9_ofProcedure_20 (by decide) ?_
  refine lv_bipush (v := 7) hx hb dX9_ofProcedure_21 (by decide) ?_
  refine rdS (As := [.int 5, .int 0, .int 7]) S (c_X9_isIn_31 l D cI cZ cJ o q) ms_X9_isIn kw_7_101 ⟨rfl, rfl⟩ ⟨Nat.le_of_ble_eq_true rfl, Nat.le_of_ble_eq_true rfl⟩ hP hK hl.1 (Nat.le_of_ble_eq_true rfl) ⟨Nat.le_of_ble_eq_true rfl, Nat.le_of_ble_eq_true rfl⟩ dX9_ofProcedure_23 ?_
  refine lv_if_eq (tgt := 38) hx hb dX9_ofProcedure_26 (by decide) (fun c => absurd c (by decide)) (fun _ => ?_)
  refine lv_aload_n hx hb dX9_ofProcedure_29 rfl (lv_at hl 0 rfl) ?_
  refine lv_iload_n hx hb dX9_ofProcedure_30 rfl (lv_at hl 1 rfl) ?_
  refine lv_iload_n hx hb dX9_ofProcedure_31 rfl (lv_at hl 2 rfl) ?_
  refine rdV (As := [.int 0, .int 5]) (ci := 9) S (c_X9_ofProcedureNow_6 l D cI cZ cJ o q) mi_X9_ofProcedureNow kw_7_203 ⟨rfl, rfl⟩ ⟨Nat.le_of_ble_eq_true rfl, Nat.le_of_ble_eq_true rfl⟩ hP hK mW_0 rfl rfl hl.1 (Nat.le_of_ble_eq_true rfl) ⟨Nat.le_of_ble_eq_true rfl, Nat.le_of_ble_eq_true rfl⟩ dX9_ofProcedure_32 ?_
  refine lv_goto (tgt := 43) hx hb dX9_ofProcedure_35 (by decide) ?_
  exact wEnd S hr hlocks hP hD hS (Nat.le_of_ble_eq_true rfl) (Nat.le_of_ble_eq_true rfl) dX9_ofProcedure_43 rfl

set_option maxHeartbeats 8000000 in
set_option maxRecDepth 100000 in
theorem h_ofProcedure_22 (l : Launch) (D : va_G) (cI cZ cJ : ClassId) (o : Nat) (u : Nat → Nat) (ao : Nat) (hst : l.stackTraces = false) (ra ga : Nat → Nat) (sz : Nat) (x1 : Int32) (x2 : Int32) (hi_x1 : x1 ≤ (-1)) (hi_x2 : x2 ≤ 6) (ne_x2_0 : ¬ x2 = 0) (ne_x2_1 : ¬ x2 = 1) (ne_x2_2 : ¬ x2 = 2) (ne_x2_3 : ¬ x2 = 3) (ne_x2_4 : ¬ x2 = 4) (ne_x2_5 : ¬ x2 = 5) : vx_Met l yL_ofProcedure (uWh yL_ofProcedure cL_ofProcedure 5 (some .int) [(0, 10, 13, 13), (0, 10, 17, 15)]) ({ frames := 8, cells := 1, slots := 6, locals := 125 }) (va_Pc [.ref o, .int x1, .int x2, .ref ao] (lS ra ga D (tyL cI cZ cJ) ((xW o u cI cZ cJ) ++ [(ao, .inl (cJ, 1, .inr (.inl (fun _ => 0))))]) sz)) (wQi (1) D ((xW o u cI cZ cJ) ++ [(ao, .inl (cJ, 1, .inr (.inl (fun _ => 0))))]) (va_A ((xW o u cI cZ cJ) ++ [(ao, .inl (cJ, 1, .inr (.inl (fun _ => 0))))]) sz)) (xN (va_A ((xW o u cI cZ cJ) ++ [(ao, .inl (cJ, 1, .inr (.inl (fun _ => 0))))]) sz)) 1 6 (va_A ((xW o u cI cZ cJ) ++ [(ao, .inl (cJ, 1, .inr (.inl (fun _ => 0))))]) sz) := by
  refine hStart (l := l) (y := yL_ofProcedure) (b := cL_ofProcedure) (n := 5) (r := (some .int)) (hh := [(0, 10, 13, 13), (0, 10, 17, 15)]) (rm := ({ frames := 8, cells := 1, slots := 6, locals := 125 })) (mc := 1) (ms := 6) (ra := ra) (ga := ga) (D := D) (tys := tyL cI cZ cJ) (ws := ((xW o u cI cZ cJ) ++ [(ao, .inl (cJ, 1, .inr (.inl (fun _ => 0))))])) (av := [.ref o, .int x1, .int x2, .ref ao]) (sz := sz) (lv := [(0, .ref o), (1, .int x1), (2, .int x2), (3, .ref ao)]) (Qc := fun A => wQi (1) D ((xW o u cI cZ cJ) ++ [(ao, .inl (cJ, 1, .inr (.inl (fun _ => 0))))]) A) (by decide) (Nat.le_of_ble_eq_true rfl) rfl ?_
  intro p e s m args below meth c ls A H S hr hlocks htab hl hK hP hD hS hA hB hC
  have hx := S.1
  have hb := S.2.1
  refine lv_aload_n hx hb dL_ofProcedure_0 rfl (lv_at hl 3 rfl) ?_
  refine lv_iconst (v := 0) hx hb dL_ofProcedure_1 (by decide) ?_
  refine lv_aload_n hx hb dL_ofProcedure_2 rfl (lv_at hl 0 rfl) ?_
  refine lv_iload_n hx hb dL_ofProcedure_3 rfl (lv_at hl 1 rfl) ?_
  refine lv_iload_n hx hb dL_ofProcedure_4 rfl (lv_at hl 2 rfl) ?_
  refine cVi [] [(ao, .inl (cJ, 1, .inr (.inl (fun _ => 0))))] (As := [.int x1, .int x2]) (ci := 8) S (c_X8_ofProcedure_22 l D cI cZ cJ o u hst ra ga H.size x1 x2 hi_x1 hi_x2 ne_x2_0 ne_x2_1 ne_x2_2 ne_x2_3 ne_x2_4 ne_x2_5) mi_X8_ofProcedure kw_6_19 rfl rfl ⟨Nat.le_of_ble_eq_true rfl, Nat.le_of_ble_eq_true rfl⟩ hP hD hK hS hA hB xW_0 rfl rfl hl.1 (Nat.le_of_ble_eq_true rfl) ⟨Nat.le_of_ble_eq_true rfl, Nat.le_of_ble_eq_true rfl⟩ dL_ofProcedure_5 (fun ce q9 H locs hz hP hD hS hce hcv hcl => ?_)
  refine vx_catch (name := "java/lang/IndexOutOfBoundsException") S.2.2.2.1 [] (⟨0, 10, 13, 13⟩ : ExceptionTableEntry) [(⟨0, 10, 17, 15⟩ : ExceptionTableEntry)] (htab.trans rfl) (fun _ h => absurd h List.not_mem_nil) (by decide) (by decide) (S.2.2.2.2 _ kw_5_176) (va_Nw.use rfl hB.c0) hce hcv hcl ?_
  have hP : va_P D vwCl ((xW o u cI cZ cJ) ++ [(ao, .inl (cJ, 1, .inr (.inl (fun _ => 0))))]) H := hP
  have hD : va_D A ((xW o u cI cZ cJ) ++ [(ao, .inl (cJ, 1, .inr (.inl (fun _ => 0))))]) := hD
  refine lv_astore (lv' := [(4, .ref q9), (0, .ref o), (1, .int x1), (2, .int x2), (3, .ref ao)]) hx hb dL_ofProcedure_13 hl (by decide) rfl (fun ls hl => ?_)
  refine lv_iconst (v := 1) hx hb dL_ofProcedure_15 (by decide) ?_
  exact vx_ret (wEnd S hr hlocks hP hD hS (Nat.le_of_ble_eq_true rfl) (Nat.le_of_ble_eq_true rfl) dL_ofProcedure_16 rfl)

set_option maxHeartbeats 8000000 in
set_option maxRecDepth 100000 in
theorem c_X9_ofProcedure_22 (l : Launch) (D : va_G) (cI cZ cJ : ClassId) (o : Nat) (q : Nat → Nat) (sz : Nat) (x1 : Int32) (x2 : Int32) (hi_x1 : x1 ≤ (-1)) (hi_x2 : x2 ≤ 6) (ne_x2_0 : ¬ x2 = 0) (ne_x2_1 : ¬ x2 = 1) (ne_x2_2 : ¬ x2 = 2) (ne_x2_3 : ¬ x2 = 3) (ne_x2_4 : ¬ x2 = 4) (ne_x2_5 : ¬ x2 = 5) : Met l yX9_ofProcedure (uW yX9_ofProcedure cX9_ofProcedure 3 (some .int)) ({ frames := 2, cells := 0, slots := 0, locals := 43 }) (va_Pc [.ref o, .int x1, .int x2] (wS D (tyL cI cZ cJ) (mW o 0 q cI cZ) sz)) (wQi (0) D (mW o 1 q cI cZ) (va_A (mW o 0 q cI cZ) sz)) 0 0 (va_A (mW o 0 q cI cZ) sz) := by
  refine wStart (lv := [(0, .ref o), (1, .int x1), (2, .int x2)]) (Qc := fun A => wQi (0) D (mW o 1 q cI cZ) A) (by decide) (Nat.le_of_ble_eq_true rfl) rfl ?_
  intro p e s m args below meth c ls A H S hr hlocks hnm hl hK hP hD hS hA
  have hx := S.1
  have hb := S.2.1
  refine lv_aload_n hx hb dX9_ofProcedure_0 rfl (lv_at hl 0 rfl) ?_
  refine lv_iconst (v := 0) hx hb dX9_ofProcedure_1 (by decide) ?_
  refine xp (ci := 9) (v := .int 0) S inX9 tyX9 tyX9_ok nmX9 rfl hK hP hD hS mW_0 0 (by decide) kw_6_148 rfl rfl rfl rfl (Nat.le_of_ble_eq_true rfl) dX9_ofProcedure_2 (fun H locs hP hD hS => ?_)
  have hP : va_P D vwCl (mW o 0 q cI cZ) H := hP
  have hD : va_D A (mW o 0 q cI cZ) := hD
  refine lv_aload_n hx hb dX9_ofProcedure_5 rfl (lv_at hl 0 rfl) ?_
  refine lv_iload_n hx hb dX9_ofProcedure_6 rfl (lv_at hl 1 rfl) ?_
  refine rdV (As := [.int x1]) (ci := 9) S (c_X9_isProcedure_0 l D cI cZ cJ o q x1 hi_x1) mi_X9_isProcedure kw_7_97 ⟨rfl, rfl⟩ ⟨Nat.le_of_ble_eq_true rfl, Nat.le_of_ble_eq_true rfl⟩ hP hK mW_0 rfl rfl hl.1 (Nat.le_of_ble_eq_true rfl) ⟨Nat.le_of_ble_eq_true rfl, Nat.le_of_ble_eq_true rfl⟩ dX9_ofProcedure_7 ?_
  refine lv_if_ne (tgt := 19) hx hb dX9_ofProcedure_10 (by decide) (fun c => absurd c (by decide)) (fun _ => ?_)
  refine lv_aload_n hx hb dX9_ofProcedure_13 rfl (lv_at hl 0 rfl) ?_
  refine lv_iconst (v := 1) hx hb dX9_ofProcedure_14 (by decide) ?_
  refine wrV (As := [.int 1]) (ci := 9) S (c_X9_no_0 l D cI cZ cJ o q H.size) mi_X9_no kw_7_104 rfl rfl ⟨Nat.le_of_ble_eq_true rfl, Nat.le_of_ble_eq_true rfl⟩ hP hD hK hS hA mW_0 rfl rfl hl.1 (Nat.le_of_ble_eq_true rfl) ⟨Nat.le_of_ble_eq_true rfl, Nat.le_of_ble_eq_true rfl⟩ dX9_ofProcedure_15 (fun H locs hz hP hD hS => ?_)
  exact wEnd S hr hlocks hP hD hS (Nat.le_of_ble_eq_true rfl) (Nat.le_of_ble_eq_true rfl) dX9_ofProcedure_18 rfl

set_option maxHeartbeats 8000000 in
set_option maxRecDepth 100000 in
theorem h_ofProcedure_23 (l : Launch) (D : va_G) (cI cZ cJ : ClassId) (o : Nat) (u : Nat → Nat) (ao : Nat) (hst : l.stackTraces = false) (ra ga : Nat → Nat) (sz : Nat) (x1 : Int32) (x2 : Int32) (lo_x1 : 1 ≤ x1) (hi_x2 : x2 ≤ 6) (ne_x2_0 : ¬ x2 = 0) (ne_x2_1 : ¬ x2 = 1) (ne_x2_2 : ¬ x2 = 2) (ne_x2_3 : ¬ x2 = 3) (ne_x2_4 : ¬ x2 = 4) (ne_x2_5 : ¬ x2 = 5) : vx_Met l yL_ofProcedure (uWh yL_ofProcedure cL_ofProcedure 5 (some .int) [(0, 10, 13, 13), (0, 10, 17, 15)]) ({ frames := 8, cells := 1, slots := 6, locals := 125 }) (va_Pc [.ref o, .int x1, .int x2, .ref ao] (lS ra ga D (tyL cI cZ cJ) ((xW o u cI cZ cJ) ++ [(ao, .inl (cJ, 1, .inr (.inl (fun _ => 0))))]) sz)) (wQi (1) D ((xW o u cI cZ cJ) ++ [(ao, .inl (cJ, 1, .inr (.inl (fun _ => 0))))]) (va_A ((xW o u cI cZ cJ) ++ [(ao, .inl (cJ, 1, .inr (.inl (fun _ => 0))))]) sz)) (xN (va_A ((xW o u cI cZ cJ) ++ [(ao, .inl (cJ, 1, .inr (.inl (fun _ => 0))))]) sz)) 1 6 (va_A ((xW o u cI cZ cJ) ++ [(ao, .inl (cJ, 1, .inr (.inl (fun _ => 0))))]) sz) := by
  refine hStart (l := l) (y := yL_ofProcedure) (b := cL_ofProcedure) (n := 5) (r := (some .int)) (hh := [(0, 10, 13, 13), (0, 10, 17, 15)]) (rm := ({ frames := 8, cells := 1, slots := 6, locals := 125 })) (mc := 1) (ms := 6) (ra := ra) (ga := ga) (D := D) (tys := tyL cI cZ cJ) (ws := ((xW o u cI cZ cJ) ++ [(ao, .inl (cJ, 1, .inr (.inl (fun _ => 0))))])) (av := [.ref o, .int x1, .int x2, .ref ao]) (sz := sz) (lv := [(0, .ref o), (1, .int x1), (2, .int x2), (3, .ref ao)]) (Qc := fun A => wQi (1) D ((xW o u cI cZ cJ) ++ [(ao, .inl (cJ, 1, .inr (.inl (fun _ => 0))))]) A) (by decide) (Nat.le_of_ble_eq_true rfl) rfl ?_
  intro p e s m args below meth c ls A H S hr hlocks htab hl hK hP hD hS hA hB hC
  have hx := S.1
  have hb := S.2.1
  refine lv_aload_n hx hb dL_ofProcedure_0 rfl (lv_at hl 3 rfl) ?_
  refine lv_iconst (v := 0) hx hb dL_ofProcedure_1 (by decide) ?_
  refine lv_aload_n hx hb dL_ofProcedure_2 rfl (lv_at hl 0 rfl) ?_
  refine lv_iload_n hx hb dL_ofProcedure_3 rfl (lv_at hl 1 rfl) ?_
  refine lv_iload_n hx hb dL_ofProcedure_4 rfl (lv_at hl 2 rfl) ?_
  refine cVi [] [(ao, .inl (cJ, 1, .inr (.inl (fun _ => 0))))] (As := [.int x1, .int x2]) (ci := 8) S (c_X8_ofProcedure_23 l D cI cZ cJ o u hst ra ga H.size x1 x2 lo_x1 hi_x2 ne_x2_0 ne_x2_1 ne_x2_2 ne_x2_3 ne_x2_4 ne_x2_5) mi_X8_ofProcedure kw_6_19 rfl rfl ⟨Nat.le_of_ble_eq_true rfl, Nat.le_of_ble_eq_true rfl⟩ hP hD hK hS hA hB xW_0 rfl rfl hl.1 (Nat.le_of_ble_eq_true rfl) ⟨Nat.le_of_ble_eq_true rfl, Nat.le_of_ble_eq_true rfl⟩ dL_ofProcedure_5 (fun ce q9 H locs hz hP hD hS hce hcv hcl => ?_)
  refine vx_catch (name := "java/lang/IndexOutOfBoundsException") S.2.2.2.1 [] (⟨0, 10, 13, 13⟩ : ExceptionTableEntry) [(⟨0, 10, 17, 15⟩ : ExceptionTableEntry)] (htab.trans rfl) (fun _ h => absurd h List.not_mem_nil) (by decide) (by decide) (S.2.2.2.2 _ kw_5_176) (va_Nw.use rfl hB.c0) hce hcv hcl ?_
  have hP : va_P D vwCl ((xW o u cI cZ cJ) ++ [(ao, .inl (cJ, 1, .inr (.inl (fun _ => 0))))]) H := hP
  have hD : va_D A ((xW o u cI cZ cJ) ++ [(ao, .inl (cJ, 1, .inr (.inl (fun _ => 0))))]) := hD
  refine lv_astore (lv' := [(4, .ref q9), (0, .ref o), (1, .int x1), (2, .int x2), (3, .ref ao)]) hx hb dL_ofProcedure_13 hl (by decide) rfl (fun ls hl => ?_)
  refine lv_iconst (v := 1) hx hb dL_ofProcedure_15 (by decide) ?_
  exact vx_ret (wEnd S hr hlocks hP hD hS (Nat.le_of_ble_eq_true rfl) (Nat.le_of_ble_eq_true rfl) dL_ofProcedure_16 rfl)

set_option maxHeartbeats 8000000 in
set_option maxRecDepth 100000 in
theorem c_X9_ofProcedure_23 (l : Launch) (D : va_G) (cI cZ cJ : ClassId) (o : Nat) (q : Nat → Nat) (sz : Nat) (x1 : Int32) (x2 : Int32) (lo_x1 : 1 ≤ x1) (hi_x2 : x2 ≤ 6) (ne_x2_0 : ¬ x2 = 0) (ne_x2_1 : ¬ x2 = 1) (ne_x2_2 : ¬ x2 = 2) (ne_x2_3 : ¬ x2 = 3) (ne_x2_4 : ¬ x2 = 4) (ne_x2_5 : ¬ x2 = 5) : Met l yX9_ofProcedure (uW yX9_ofProcedure cX9_ofProcedure 3 (some .int)) ({ frames := 2, cells := 0, slots := 0, locals := 43 }) (va_Pc [.ref o, .int x1, .int x2] (wS D (tyL cI cZ cJ) (mW o 0 q cI cZ) sz)) (wQi (0) D (mW o 1 q cI cZ) (va_A (mW o 0 q cI cZ) sz)) 0 0 (va_A (mW o 0 q cI cZ) sz) := by
  refine wStart (lv := [(0, .ref o), (1, .int x1), (2, .int x2)]) (Qc := fun A => wQi (0) D (mW o 1 q cI cZ) A) (by decide) (Nat.le_of_ble_eq_true rfl) rfl ?_
  intro p e s m args below meth c ls A H S hr hlocks hnm hl hK hP hD hS hA
  have hx := S.1
  have hb := S.2.1
  refine lv_aload_n hx hb dX9_ofProcedure_0 rfl (lv_at hl 0 rfl) ?_
  refine lv_iconst (v := 0) hx hb dX9_ofProcedure_1 (by decide) ?_
  refine xp (ci := 9) (v := .int 0) S inX9 tyX9 tyX9_ok nmX9 rfl hK hP hD hS mW_0 0 (by decide) kw_6_148 rfl rfl rfl rfl (Nat.le_of_ble_eq_true rfl) dX9_ofProcedure_2 (fun H locs hP hD hS => ?_)
  have hP : va_P D vwCl (mW o 0 q cI cZ) H := hP
  have hD : va_D A (mW o 0 q cI cZ) := hD
  refine lv_aload_n hx hb dX9_ofProcedure_5 rfl (lv_at hl 0 rfl) ?_
  refine lv_iload_n hx hb dX9_ofProcedure_6 rfl (lv_at hl 1 rfl) ?_
  refine rdV (As := [.int x1]) (ci := 9) S (c_X9_isProcedure_1 l D cI cZ cJ o q x1 lo_x1) mi_X9_isProcedure kw_7_97 ⟨rfl, rfl⟩ ⟨Nat.le_of_ble_eq_true rfl, Nat.le_of_ble_eq_true rfl⟩ hP hK mW_0 rfl rfl hl.1 (Nat.le_of_ble_eq_true rfl) ⟨Nat.le_of_ble_eq_true rfl, Nat.le_of_ble_eq_true rfl⟩ dX9_ofProcedure_7 ?_
  refine lv_if_ne (tgt := 19) hx hb dX9_ofProcedure_10 (by decide) (fun c => absurd c (by decide)) (fun _ => ?_)
  refine lv_aload_n hx hb dX9_ofProcedure_13 rfl (lv_at hl 0 rfl) ?_
  refine lv_iconst (v := 1) hx hb dX9_ofProcedure_14 (by decide) ?_
  refine wrV (As := [.int 1]) (ci := 9) S (c_X9_no_0 l D cI cZ cJ o q H.size) mi_X9_no kw_7_104 rfl rfl ⟨Nat.le_of_ble_eq_true rfl, Nat.le_of_ble_eq_true rfl⟩ hP hD hK hS hA mW_0 rfl rfl hl.1 (Nat.le_of_ble_eq_true rfl) ⟨Nat.le_of_ble_eq_true rfl, Nat.le_of_ble_eq_true rfl⟩ dX9_ofProcedure_15 (fun H locs hz hP hD hS => ?_)
  exact wEnd S hr hlocks hP hD hS (Nat.le_of_ble_eq_true rfl) (Nat.le_of_ble_eq_true rfl) dX9_ofProcedure_18 rfl

set_option maxHeartbeats 8000000 in
set_option maxRecDepth 100000 in
theorem h_ofProcedure_24 (l : Launch) (D : va_G) (cI cZ cJ : ClassId) (o : Nat) (u : Nat → Nat) (ao : Nat) (hst : l.stackTraces = false) (ra ga : Nat → Nat) (sz : Nat) (x2 : Int32) (hi_x2 : x2 ≤ (-1)) (ne_x2_0 : ¬ x2 = 0) (ne_x2_1 : ¬ x2 = 1) (ne_x2_2 : ¬ x2 = 2) (ne_x2_3 : ¬ x2 = 3) (ne_x2_4 : ¬ x2 = 4) (ne_x2_5 : ¬ x2 = 5) : vx_Met l yL_ofProcedure (uWh yL_ofProcedure cL_ofProcedure 5 (some .int) [(0, 10, 13, 13), (0, 10, 17, 15)]) ({ frames := 8, cells := 1, slots := 6, locals := 124 }) (va_Pc [.ref o, .int 0, .int x2, .ref ao] (lS ra ga D (tyL cI cZ cJ) ((xW o u cI cZ cJ) ++ [(ao, .inl (cJ, 1, .inr (.inl (fun _ => 0))))]) sz)) (wQi (2) D ((xW o u cI cZ cJ) ++ [(ao, .inl (cJ, 1, .inr (.inl (fun _ => 0))))]) (va_A ((xW o u cI cZ cJ) ++ [(ao, .inl (cJ, 1, .inr (.inl (fun _ => 0))))]) sz)) (xN (va_A ((xW o u cI cZ cJ) ++ [(ao, .inl (cJ, 1, .inr (.inl (fun _ => 0))))]) sz)) 1 6 (va_A ((xW o u cI cZ cJ) ++ [(ao, .inl (cJ, 1, .inr (.inl (fun _ => 0))))]) sz) := by
  refine hStart (l := l) (y := yL_ofProcedure) (b := cL_ofProcedure) (n := 5) (r := (some .int)) (hh := [(0, 10, 13, 13), (0, 10, 17, 15)]) (rm := ({ frames := 8, cells := 1, slots := 6, locals := 124 })) (mc := 1) (ms := 6) (ra := ra) (ga := ga) (D := D) (tys := tyL cI cZ cJ) (ws := ((xW o u cI cZ cJ) ++ [(ao, .inl (cJ, 1, .inr (.inl (fun _ => 0))))])) (av := [.ref o, .int 0, .int x2, .ref ao]) (sz := sz) (lv := [(0, .ref o), (1, .int 0), (2, .int x2), (3, .ref ao)]) (Qc := fun A => wQi (2) D ((xW o u cI cZ cJ) ++ [(ao, .inl (cJ, 1, .inr (.inl (fun _ => 0))))]) A) (by decide) (Nat.le_of_ble_eq_true rfl) rfl ?_
  intro p e s m args below meth c ls A H S hr hlocks htab hl hK hP hD hS hA hB hC
  have hx := S.1
  have hb := S.2.1
  refine lv_aload_n hx hb dL_ofProcedure_0 rfl (lv_at hl 3 rfl) ?_
  refine lv_iconst (v := 0) hx hb dL_ofProcedure_1 (by decide) ?_
  refine lv_aload_n hx hb dL_ofProcedure_2 rfl (lv_at hl 0 rfl) ?_
  refine lv_iload_n hx hb dL_ofProcedure_3 rfl (lv_at hl 1 rfl) ?_
  refine lv_iload_n hx hb dL_ofProcedure_4 rfl (lv_at hl 2 rfl) ?_
  refine cVi [] [(ao, .inl (cJ, 1, .inr (.inl (fun _ => 0))))] (As := [.int 0, .int x2]) (ci := 8) S (c_X8_ofProcedure_24 l D cI cZ cJ o u hst ra ga H.size x2 hi_x2 ne_x2_0 ne_x2_1 ne_x2_2 ne_x2_3 ne_x2_4 ne_x2_5) mi_X8_ofProcedure kw_6_19 rfl rfl ⟨Nat.le_of_ble_eq_true rfl, Nat.le_of_ble_eq_true rfl⟩ hP hD hK hS hA hB xW_0 rfl rfl hl.1 (Nat.le_of_ble_eq_true rfl) ⟨Nat.le_of_ble_eq_true rfl, Nat.le_of_ble_eq_true rfl⟩ dL_ofProcedure_5 (fun ce q9 H locs hz hP hD hS hce hcv hcl => ?_)
  refine vx_catch (name := "java/lang/IllegalArgumentException") S.2.2.2.1 [(⟨0, 10, 13, 13⟩ : ExceptionTableEntry)] (⟨0, 10, 17, 15⟩ : ExceptionTableEntry) [] (htab.trans rfl) (List.forall_mem_cons.mpr ⟨Or.inr ⟨by decide, "java/lang/IndexOutOfBoundsException", S.2.2.2.2 _ kw_5_176, hC.1⟩, (fun _ h => absurd h List.not_mem_nil)⟩) (by decide) (by decide) (S.2.2.2.2 _ kw_5_177) (va_Nw.use rfl hB.c1) hce hcv hcl ?_
  have hP : va_P D vwCl ((xW o u cI cZ cJ) ++ [(ao, .inl (cJ, 1, .inr (.inl (fun _ => 0))))]) H := hP
  have hD : va_D A ((xW o u cI cZ cJ) ++ [(ao, .inl (cJ, 1, .inr (.inl (fun _ => 0))))]) := hD
  refine lv_astore (lv' := [(4, .ref q9), (0, .ref o), (1, .int 0), (2, .int x2), (3, .ref ao)]) hx hb dL_ofProcedure_17 hl (by decide) rfl (fun ls hl => ?_)
  refine lv_iconst (v := 2) hx hb dL_ofProcedure_19 (by decide) ?_
  exact vx_ret (wEnd S hr hlocks hP hD hS (Nat.le_of_ble_eq_true rfl) (Nat.le_of_ble_eq_true rfl) dL_ofProcedure_20 rfl)

set_option maxHeartbeats 8000000 in
set_option maxRecDepth 100000 in
theorem c_X9_isIn_32 (l : Launch) (D : va_G) (cI cZ cJ : ClassId) (o : Nat) (q : Nat → Nat) (x2 : Int32) (hi_x2 : x2 ≤ (-1)) (ne_x2_0 : ¬ x2 = 0) (ne_x2_1 : ¬ x2 = 1) (ne_x2_2 : ¬ x2 = 2) (ne_x2_3 : ¬ x2 = 3) (ne_x2_4 : ¬ x2 = 4) (ne_x2_5 : ¬ x2 = 5) : Met l yX9_isIn (uW yX9_isIn cX9_isIn 3 (some .boolean)) ({ frames := 0, cells := 0, slots := 0, locals := 0 }) (va_Pc [.int x2, .int 0, .int 7] (pS D (tyL cI cZ cJ) (mW o 0 q cI cZ))) (QcRead (0)) 0 0 (fun _ => False) := by
  refine rdStart (lv := [(0, .int x2), (1, .int 0), (2, .int 7)]) (by decide) (Nat.le_of_ble_eq_true rfl) rfl ?_
  intro p e s m args below meth c ls S hr hlocks hl hP hK
  have hx := S.1
  have hb := S.2.1
  refine lv_iload_n hx hb dX9_isIn_0 rfl (lv_at hl 0 rfl) ?_
  refine lv_iload_n hx hb dX9_isIn_1 rfl (lv_at hl 1 rfl) ?_
  refine lv_icmp_lt (tgt := 14) hx hb dX9_isIn_2 (by decide) (fun _ => ?_) (fun c => absurd (b_lt hi_x2 (by decide)) c)
  refine lv_iconst (v := 0) hx hb dX9_isIn_14 (by decide) ?_
  exact rdEndZ S hr hlocks dX9_isIn_15 rfl rfl

set_option maxHeartbeats 8000000 in
set_option maxRecDepth 100000 in
theorem c_X9_ofProcedure_24 (l : Launch) (D : va_G) (cI cZ cJ : ClassId) (o : Nat) (q : Nat → Nat) (sz : Nat) (x2 : Int32) (hi_x2 : x2 ≤ (-1)) (ne_x2_0 : ¬ x2 = 0) (ne_x2_1 : ¬ x2 = 1) (ne_x2_2 : ¬ x2 = 2) (ne_x2_3 : ¬ x2 = 3) (ne_x2_4 : ¬ x2 = 4) (ne_x2_5 : ¬ x2 = 5) : Met l yX9_ofProcedure (uW yX9_ofProcedure cX9_ofProcedure 3 (some .int)) ({ frames := 2, cells := 0, slots := 0, locals := 43 }) (va_Pc [.ref o, .int 0, .int x2] (wS D (tyL cI cZ cJ) (mW o 0 q cI cZ) sz)) (wQi (0) D (mW o 2 q cI cZ) (va_A (mW o 0 q cI cZ) sz)) 0 0 (va_A (mW o 0 q cI cZ) sz) := by
  refine wStart (lv := [(0, .ref o), (1, .int 0), (2, .int x2)]) (Qc := fun A => wQi (0) D (mW o 2 q cI cZ) A) (by decide) (Nat.le_of_ble_eq_true rfl) rfl ?_
  intro p e s m args below meth c ls A H S hr hlocks hnm hl hK hP hD hS hA
  have hx := S.1
  have hb := S.2.1
  refine lv_aload_n hx hb dX9_ofProcedure_0 rfl (lv_at hl 0 rfl) ?_
  refine lv_iconst (v := 0) hx hb dX9_ofProcedure_1 (by decide) ?_
  refine xp (ci := 9) (v := .int 0) S inX9 tyX9 tyX9_ok nmX9 rfl hK hP hD hS mW_0 0 (by decide) kw_6_148 rfl rfl rfl rfl (Nat.le_of_ble_eq_true rfl) dX9_ofProcedure_2 (fun H locs hP hD hS => ?_)
  have hP : va_P D vwCl (mW o 0 q cI cZ) H := hP
  have hD : va_D A (mW o 0 q cI cZ) := hD
  refine lv_aload_n hx hb dX9_ofProcedure_5 rfl (lv_at hl 0 rfl) ?_
  refine lv_iload_n hx hb dX9_ofProcedure_6 rfl (lv_at hl 1 rfl) ?_
  refine rdV (As := [.int 0]) (ci := 9) S (c_X9_isProcedure_2 l D cI cZ cJ o q) mi_X9_isProcedure kw_7_97 ⟨rfl, rfl⟩ ⟨Nat.le_of_ble_eq_true rfl, Nat.le_of_ble_eq_true rfl⟩ hP hK mW_0 rfl rfl hl.1 (Nat.le_of_ble_eq_true rfl) ⟨Nat.le_of_ble_eq_true rfl, Nat.le_of_ble_eq_true rfl⟩ dX9_ofProcedure_7 ?_
  refine lv_if_ne (tgt := 19) hx hb dX9_ofProcedure_10 (by decide) (fun _ => ?_) (fun c => absurd c (by decide))
  refine lv_iload_n hx hb dX9_ofProcedure_19 rfl (lv_at hl 2 rfl) ?_
  refine lv_iconst (v := 0) hx hb dX9_ofProcedure_20 (by decide) ?_
  refine lv_bipush (v := 7) hx hb dX9_ofProcedure_21 (by decide) ?_
  refine rdS (As := [.int x2, .int 0, .int 7]) S (c_X9_isIn_32 l D cI cZ cJ o q x2 hi_x2 ne_x2_0 ne_x2_1 ne_x2_2 ne_x2_3 ne_x2_4 ne_x2_5) ms_X9_isIn kw_7_101 ⟨rfl, rfl⟩ ⟨Nat.le_of_ble_eq_true rfl, Nat.le_of_ble_eq_true rfl⟩ hP hK hl.1 (Nat.le_of_ble_eq_true rfl) ⟨Nat.le_of_ble_eq_true rfl, Nat.le_of_ble_eq_true rfl⟩ dX9_ofProcedure_23 ?_
  refine lv_if_eq (tgt := 38) hx hb dX9_ofProcedure_26 (by decide) (fun _ => ?_) (fun c => absurd c (by decide))
  refine lv_aload_n hx hb dX9_ofProcedure_38 rfl (lv_at hl 0 rfl) ?_
  refine lv_iconst (v := 2) hx hb dX9_ofProcedure_39 (by decide) ?_
  refine wrV (As := [.int 2]) (ci := 9) S (c_X9_no_1 l D cI cZ cJ o q H.size) mi_X9_no kw_7_104 rfl rfl ⟨Nat.le_of_ble_eq_true rfl, Nat.le_of_ble_eq_true rfl⟩ hP hD hK hS hA mW_0 rfl rfl hl.1 (Nat.le_of_ble_eq_true rfl) ⟨Nat.le_of_ble_eq_true rfl, Nat.le_of_ble_eq_true rfl⟩ dX9_ofProcedure_40 (fun H locs hz hP hD hS => ?_)
  exact wEnd S hr hlocks hP hD hS (Nat.le_of_ble_eq_true rfl) (Nat.le_of_ble_eq_true rfl) dX9_ofProcedure_43 rfl

set_option maxHeartbeats 8000000 in
set_option maxRecDepth 100000 in
theorem h_ofProcedure_25 (l : Launch) (D : va_G) (cI cZ cJ : ClassId) (o : Nat) (u : Nat → Nat) (ao : Nat) (hst : l.stackTraces = false) (ra ga : Nat → Nat) (sz : Nat) : vx_Met l yL_ofProcedure (uWh yL_ofProcedure cL_ofProcedure 5 (some .int) [(0, 10, 13, 13), (0, 10, 17, 15)]) ({ frames := 5, cells := 0, slots := 0, locals := 107 }) (va_Pc [.ref o, .int 0, .int 6, .ref ao] (lS ra ga D (tyL cI cZ cJ) ((xW o u cI cZ cJ) ++ [(ao, .inl (cJ, 1, .inr (.inl (fun _ => 0))))]) sz)) (wQi (0) D ((((((((xW o u cI cZ cJ).set 0 (o, .inr (8, ((xF u).set 9 (.int 0))))).set 32 ((u 31), .inl (cZ, 10, .inl (upd (upd (upd (upd (upd (upd (upd (upd (upd (upd (fun _ => 0) (0 : Int32).toNatClampNeg 0) (1 : Int32).toNatClampNeg 0) (2 : Int32).toNatClampNeg 0) (3 : Int32).toNatClampNeg 0) (4 : Int32).toNatClampNeg 0) (5 : Int32).toNatClampNeg 0) (6 : Int32).toNatClampNeg 0) (7 : Int32).toNatClampNeg 0) (8 : Int32).toNatClampNeg 0) (9 : Int32).toNatClampNeg 0)))).set 34 ((u 33), .inr (2, ([.ref (u 0), .ref (u 12), .ref (u 19), .int 0, .ref (u 34), .ref (u 35), .ref (u 36), .ref (u 37), .int 0].set 3 (.int 1))))).set 35 ((u 34), .inl (cI, 120, .inl (upd (fun _ => 0) (0 : Int32).toNatClampNeg 10)))).set 36 ((u 35), .inl (cI, 120, .inl (upd (fun _ => 0) (0 : Int32).toNatClampNeg 0)))).set 37 ((u 36), .inl (cI, 120, .inl (upd (fun _ => 0) (0 : Int32).toNatClampNeg (-1))))) ++ [(ao, .inl (cJ, 1, .inr (.inl (vp_updL (fun _ => 0) (0 : Int32).toNatClampNeg (-1)))))]) (va_A ((xW o u cI cZ cJ) ++ [(ao, .inl (cJ, 1, .inr (.inl (fun _ => 0))))]) sz)) (xN (va_A ((xW o u cI cZ cJ) ++ [(ao, .inl (cJ, 1, .inr (.inl (fun _ => 0))))]) sz)) 0 0 (va_A ((xW o u cI cZ cJ) ++ [(ao, .inl (cJ, 1, .inr (.inl (fun _ => 0))))]) sz) := by
  refine hStart (l := l) (y := yL_ofProcedure) (b := cL_ofProcedure) (n := 5) (r := (some .int)) (hh := [(0, 10, 13, 13), (0, 10, 17, 15)]) (rm := ({ frames := 5, cells := 0, slots := 0, locals := 107 })) (mc := 0) (ms := 0) (ra := ra) (ga := ga) (D := D) (tys := tyL cI cZ cJ) (ws := ((xW o u cI cZ cJ) ++ [(ao, .inl (cJ, 1, .inr (.inl (fun _ => 0))))])) (av := [.ref o, .int 0, .int 6, .ref ao]) (sz := sz) (lv := [(0, .ref o), (1, .int 0), (2, .int 6), (3, .ref ao)]) (Qc := fun A => wQi (0) D ((((((((xW o u cI cZ cJ).set 0 (o, .inr (8, ((xF u).set 9 (.int 0))))).set 32 ((u 31), .inl (cZ, 10, .inl (upd (upd (upd (upd (upd (upd (upd (upd (upd (upd (fun _ => 0) (0 : Int32).toNatClampNeg 0) (1 : Int32).toNatClampNeg 0) (2 : Int32).toNatClampNeg 0) (3 : Int32).toNatClampNeg 0) (4 : Int32).toNatClampNeg 0) (5 : Int32).toNatClampNeg 0) (6 : Int32).toNatClampNeg 0) (7 : Int32).toNatClampNeg 0) (8 : Int32).toNatClampNeg 0) (9 : Int32).toNatClampNeg 0)))).set 34 ((u 33), .inr (2, ([.ref (u 0), .ref (u 12), .ref (u 19), .int 0, .ref (u 34), .ref (u 35), .ref (u 36), .ref (u 37), .int 0].set 3 (.int 1))))).set 35 ((u 34), .inl (cI, 120, .inl (upd (fun _ => 0) (0 : Int32).toNatClampNeg 10)))).set 36 ((u 35), .inl (cI, 120, .inl (upd (fun _ => 0) (0 : Int32).toNatClampNeg 0)))).set 37 ((u 36), .inl (cI, 120, .inl (upd (fun _ => 0) (0 : Int32).toNatClampNeg (-1))))) ++ [(ao, .inl (cJ, 1, .inr (.inl (vp_updL (fun _ => 0) (0 : Int32).toNatClampNeg (-1)))))]) A) (by decide) (Nat.le_of_ble_eq_true rfl) rfl ?_
  intro p e s m args below meth c ls A H S hr hlocks htab hl hK hP hD hS hA hB hC
  have hx := S.1
  have hb := S.2.1
  refine lv_aload_n hx hb dL_ofProcedure_0 rfl (lv_at hl 3 rfl) ?_
  refine lv_iconst (v := 0) hx hb dL_ofProcedure_1 (by decide) ?_
  refine lv_aload_n hx hb dL_ofProcedure_2 rfl (lv_at hl 0 rfl) ?_
  refine lv_iload_n hx hb dL_ofProcedure_3 rfl (lv_at hl 1 rfl) ?_
  refine lv_iload_n hx hb dL_ofProcedure_4 rfl (lv_at hl 2 rfl) ?_
  refine faVi [] [(ao, .inl (cJ, 1, .inr (.inl (fun _ => 0))))] (As := [.int 0, .int 6]) (ci := 8) S (c_X8_ofProcedure_25 l D cI cZ cJ o u ra ga H.size) mi_X8_ofProcedure kw_6_19 rfl rfl ⟨Nat.le_of_ble_eq_true rfl, Nat.le_of_ble_eq_true rfl⟩ hP hD hK hS hA hB xW_0 rfl rfl hl.1 (Nat.le_of_ble_eq_true rfl) ⟨Nat.le_of_ble_eq_true rfl, Nat.le_of_ble_eq_true rfl⟩ dL_ofProcedure_5 (fun H locs hz hP hD hS => ?_)
  have hP : va_P D vwCl ((((((((xW o u cI cZ cJ).set 0 (o, .inr (8, ((xF u).set 9 (.int 0))))).set 32 ((u 31), .inl (cZ, 10, .inl (upd (upd (upd (upd (upd (upd (upd (upd (upd (upd (fun _ => 0) (0 : Int32).toNatClampNeg 0) (1 : Int32).toNatClampNeg 0) (2 : Int32).toNatClampNeg 0) (3 : Int32).toNatClampNeg 0) (4 : Int32).toNatClampNeg 0) (5 : Int32).toNatClampNeg 0) (6 : Int32).toNatClampNeg 0) (7 : Int32).toNatClampNeg 0) (8 : Int32).toNatClampNeg 0) (9 : Int32).toNatClampNeg 0)))).set 34 ((u 33), .inr (2, ([.ref (u 0), .ref (u 12), .ref (u 19), .int 0, .ref (u 34), .ref (u 35), .ref (u 36), .ref (u 37), .int 0].set 3 (.int 1))))).set 35 ((u 34), .inl (cI, 120, .inl (upd (fun _ => 0) (0 : Int32).toNatClampNeg 10)))).set 36 ((u 35), .inl (cI, 120, .inl (upd (fun _ => 0) (0 : Int32).toNatClampNeg 0)))).set 37 ((u 36), .inl (cI, 120, .inl (upd (fun _ => 0) (0 : Int32).toNatClampNeg (-1))))) ++ [(ao, .inl (cJ, 1, .inr (.inl (fun _ => 0))))]) H := hP
  have hD : va_D A ((((((((xW o u cI cZ cJ).set 0 (o, .inr (8, ((xF u).set 9 (.int 0))))).set 32 ((u 31), .inl (cZ, 10, .inl (upd (upd (upd (upd (upd (upd (upd (upd (upd (upd (fun _ => 0) (0 : Int32).toNatClampNeg 0) (1 : Int32).toNatClampNeg 0) (2 : Int32).toNatClampNeg 0) (3 : Int32).toNatClampNeg 0) (4 : Int32).toNatClampNeg 0) (5 : Int32).toNatClampNeg 0) (6 : Int32).toNatClampNeg 0) (7 : Int32).toNatClampNeg 0) (8 : Int32).toNatClampNeg 0) (9 : Int32).toNatClampNeg 0)))).set 34 ((u 33), .inr (2, ([.ref (u 0), .ref (u 12), .ref (u 19), .int 0, .ref (u 34), .ref (u 35), .ref (u 36), .ref (u 37), .int 0].set 3 (.int 1))))).set 35 ((u 34), .inl (cI, 120, .inl (upd (fun _ => 0) (0 : Int32).toNatClampNeg 10)))).set 36 ((u 35), .inl (cI, 120, .inl (upd (fun _ => 0) (0 : Int32).toNatClampNeg 0)))).set 37 ((u 36), .inl (cI, 120, .inl (upd (fun _ => 0) (0 : Int32).toNatClampNeg (-1))))) ++ [(ao, .inl (cJ, 1, .inr (.inl (fun _ => 0))))]) := hD
  refine lv_i2l (v := (-1)) hx hb dL_ofProcedure_8 (by decide) ?_
  refine xlast (t0 := 2) S hK hP hD hS (q0 := 88) rfl rfl (vin rfl) dL_ofProcedure_9 (fun H locs hP hD hS => ?_)
  have hP : va_P D vwCl ((((((((xW o u cI cZ cJ).set 0 (o, .inr (8, ((xF u).set 9 (.int 0))))).set 32 ((u 31), .inl (cZ, 10, .inl (upd (upd (upd (upd (upd (upd (upd (upd (upd (upd (fun _ => 0) (0 : Int32).toNatClampNeg 0) (1 : Int32).toNatClampNeg 0) (2 : Int32).toNatClampNeg 0) (3 : Int32).toNatClampNeg 0) (4 : Int32).toNatClampNeg 0) (5 : Int32).toNatClampNeg 0) (6 : Int32).toNatClampNeg 0) (7 : Int32).toNatClampNeg 0) (8 : Int32).toNatClampNeg 0) (9 : Int32).toNatClampNeg 0)))).set 34 ((u 33), .inr (2, ([.ref (u 0), .ref (u 12), .ref (u 19), .int 0, .ref (u 34), .ref (u 35), .ref (u 36), .ref (u 37), .int 0].set 3 (.int 1))))).set 35 ((u 34), .inl (cI, 120, .inl (upd (fun _ => 0) (0 : Int32).toNatClampNeg 10)))).set 36 ((u 35), .inl (cI, 120, .inl (upd (fun _ => 0) (0 : Int32).toNatClampNeg 0)))).set 37 ((u 36), .inl (cI, 120, .inl (upd (fun _ => 0) (0 : Int32).toNatClampNeg (-1))))) ++ [(ao, .inl (cJ, 1, .inr (.inl (vp_updL (fun _ => 0) (0 : Int32).toNatClampNeg (-1)))))]) H := hP
  have hD : va_D A ((((((((xW o u cI cZ cJ).set 0 (o, .inr (8, ((xF u).set 9 (.int 0))))).set 32 ((u 31), .inl (cZ, 10, .inl (upd (upd (upd (upd (upd (upd (upd (upd (upd (upd (fun _ => 0) (0 : Int32).toNatClampNeg 0) (1 : Int32).toNatClampNeg 0) (2 : Int32).toNatClampNeg 0) (3 : Int32).toNatClampNeg 0) (4 : Int32).toNatClampNeg 0) (5 : Int32).toNatClampNeg 0) (6 : Int32).toNatClampNeg 0) (7 : Int32).toNatClampNeg 0) (8 : Int32).toNatClampNeg 0) (9 : Int32).toNatClampNeg 0)))).set 34 ((u 33), .inr (2, ([.ref (u 0), .ref (u 12), .ref (u 19), .int 0, .ref (u 34), .ref (u 35), .ref (u 36), .ref (u 37), .int 0].set 3 (.int 1))))).set 35 ((u 34), .inl (cI, 120, .inl (upd (fun _ => 0) (0 : Int32).toNatClampNeg 10)))).set 36 ((u 35), .inl (cI, 120, .inl (upd (fun _ => 0) (0 : Int32).toNatClampNeg 0)))).set 37 ((u 36), .inl (cI, 120, .inl (upd (fun _ => 0) (0 : Int32).toNatClampNeg (-1))))) ++ [(ao, .inl (cJ, 1, .inr (.inl (vp_updL (fun _ => 0) (0 : Int32).toNatClampNeg (-1)))))]) := hD
  refine lv_goto (tgt := 21) hx hb dL_ofProcedure_10 (by decide) ?_
  refine lv_iconst (v := 0) hx hb dL_ofProcedure_21 (by decide) ?_
  exact vx_ret (wEnd S hr hlocks hP hD hS (Nat.le_of_ble_eq_true rfl) (Nat.le_of_ble_eq_true rfl) dL_ofProcedure_22 rfl)

set_option maxHeartbeats 8000000 in
set_option maxRecDepth 100000 in
theorem c_X9_isIn_33 (l : Launch) (D : va_G) (cI cZ cJ : ClassId) (o : Nat) (q : Nat → Nat) : Met l yX9_isIn (uW yX9_isIn cX9_isIn 3 (some .boolean)) ({ frames := 0, cells := 0, slots := 0, locals := 0 }) (va_Pc [.int 6, .int 0, .int 7] (pS D (tyL cI cZ cJ) (mW o 0 q cI cZ))) (QcRead (1)) 0 0 (fun _ => False) := by
  refine rdStart (lv := [(0, .int 6), (1, .int 0), (2, .int 7)]) (by decide) (Nat.le_of_ble_eq_true rfl) rfl ?_
  intro p e s m args below meth c ls S hr hlocks hl hP hK
  have hx := S.1
  have hb := S.2.1
  refine lv_iload_n hx hb dX9_isIn_0 rfl (lv_at hl 0 rfl) ?_
  refine lv_iload_n hx hb dX9_isIn_1 rfl (lv_at hl 1 rfl) ?_
  refine lv_icmp_lt (tgt := 14) hx hb dX9_isIn_2 (by decide) (fun c => absurd c (by decide)) (fun _ => ?_)
  refine lv_iload_n hx hb dX9_isIn_5 rfl (lv_at hl 0 rfl) ?_
  refine lv_iload_n hx hb dX9_isIn_6 rfl (lv_at hl 2 rfl) ?_
  refine lv_icmp_gt (tgt := 14) hx hb dX9_isIn_7 (by decide) (fun c => absurd c (by decide)) (fun _ => ?_)
  refine lv_iconst (v := 1) hx hb dX9_isIn_10 (by decide) ?_
  refine lv_goto (tgt := 15) hx hb dX9_isIn_11 (by decide) ?_
  exact rdEndZ S hr hlocks dX9_isIn_15 rfl rfl

set_option maxHeartbeats 8000000 in
set_option maxRecDepth 100000 in
theorem c_X9_ofProcedureNow_7 (l : Launch) (D : va_G) (cI cZ cJ : ClassId) (o : Nat) (q : Nat → Nat) : Met l yX9_ofProcedureNow (uW yX9_ofProcedureNow cX9_ofProcedureNow 3 (some .int)) ({ frames := 0, cells := 0, slots := 0, locals := 0 }) (va_Pc [.ref o, .int 0, .int 6] (pS D (tyL cI cZ cJ) (mW o 0 q cI cZ))) (QcRead ((-1))) 0 0 (fun _ => False) := by
  refine rdStart (lv := [(0, .ref o), (1, .int 0), (2, .int 6)]) (by decide) (Nat.le_of_ble_eq_true rfl) rfl ?_
  intro p e s m args below meth c ls S hr hlocks hl hP hK
  have hx := S.1
  have hb := S.2.1
  refine lv_iload_n hx hb dX9_ofProcedureNow_0 rfl (lv_at hl 2 rfl) ?_
  refine lv_tableIn (off := 91) (tgt := 92) hx hb dX9_ofProcedureNow_1 (by decide) (by decide) (by decide) (by decide) ?_
  refine lv_aload_n hx hb dX9_ofProcedureNow_92 rfl (lv_at hl 0 rfl) ?_
  refine xg (ci := 9) S inX9 rfl hK hP mW_0 7 (by decide) mF_7 kw_6_155 rfl dX9_ofProcedureNow_93 ?_
  refine lv_iload_n hx hb dX9_ofProcedureNow_96 rfl (lv_at hl 1 rfl) ?_
  refine xiald (t0 := 0) (v := (-1)) S hK hP mW_6 rfl (vin rfl) rfl dX9_ofProcedureNow_97 ?_
  exact rdEnd S hr hlocks dX9_ofProcedureNow_98 rfl

set_option maxHeartbeats 8000000 in
set_option maxRecDepth 100000 in
theorem c_X9_ofProcedure_25 (l : Launch) (D : va_G) (cI cZ cJ : ClassId) (o : Nat) (q : Nat → Nat) (sz : Nat) : Met l yX9_ofProcedure (uW yX9_ofProcedure cX9_ofProcedure 3 (some .int)) ({ frames := 2, cells := 0, slots := 0, locals := 43 }) (va_Pc [.ref o, .int 0, .int 6] (wS D (tyL cI cZ cJ) (mW o 0 q cI cZ) sz)) (wQi ((-1)) D (mW o 0 q cI cZ) (va_A (mW o 0 q cI cZ) sz)) 0 0 (va_A (mW o 0 q cI cZ) sz) := by
  refine wStart (lv := [(0, .ref o), (1, .int 0), (2, .int 6)]) (Qc := fun A => wQi ((-1)) D (mW o 0 q cI cZ) A) (by decide) (Nat.le_of_ble_eq_true rfl) rfl ?_
  intro p e s m args below meth c ls A H S hr hlocks hnm hl hK hP hD hS hA
  have hx := S.1
  have hb := S.2.1
  refine lv_aload_n hx hb dX9_ofProcedure_0 rfl (lv_at hl 0 rfl) ?_
  refine lv_iconst (v := 0) hx hb dX9_ofProcedure_1 (by decide) ?_
  refine xp (ci := 9) (v := .int 0) S inX9 tyX9 tyX9_ok nmX9 rfl hK hP hD hS mW_0 0 (by decide) kw_6_148 rfl rfl rfl rfl (Nat.le_of_ble_eq_true rfl) dX9_ofProcedure_2 (fun H locs hP hD hS => ?_)
  have hP : va_P D vwCl (mW o 0 q cI cZ) H := hP
  have hD : va_D A (mW o 0 q cI cZ) := hD
  refine lv_aload_n hx hb dX9_ofProcedure_5 rfl (lv_at hl 0 rfl) ?_
  refine lv_iload_n hx hb dX9_ofProcedure_6 rfl (lv_at hl 1 rfl) ?_
  refine rdV (As := [.int 0]) (ci := 9) S (c_X9_isProcedure_2 l D cI cZ cJ o q) mi_X9_isProcedure kw_7_97 ⟨rfl, rfl⟩ ⟨Nat.le_of_ble_eq_true rfl, Nat.le_of_ble_eq_true rfl⟩ hP hK mW_0 rfl rfl hl.1 (Nat.le_of_ble_eq_true rfl) ⟨Nat.le_of_ble_eq_true rfl, Nat.le_of_ble_eq_true rfl⟩ dX9_ofProcedure_7 ?_
  refine lv_if_ne (tgt := 19) hx hb dX9_ofProcedure_10 (by decide) (fun _ => ?_) (fun c => absurd c (by decide))
  refine lv_iload_n hx hb dX9_ofProcedure_19 rfl (lv_at hl 2 rfl) ?_
  refine lv_iconst (v := 0) hx hb dX9_ofProcedure_20 (by decide) ?_
  refine lv_bipush (v := 7) hx hb dX9_ofProcedure_21 (by decide) ?_
  refine rdS (As := [.int 6, .int 0, .int 7]) S (c_X9_isIn_33 l D cI cZ cJ o q) ms_X9_isIn kw_7_101 ⟨rfl, rfl⟩ ⟨Nat.le_of_ble_eq_true rfl, Nat.le_of_ble_eq_true rfl⟩ hP hK hl.1 (Nat.le_of_ble_eq_true rfl) ⟨Nat.le_of_ble_eq_true rfl, Nat.le_of_ble_eq_true rfl⟩ dX9_ofProcedure_23 ?_
  refine lv_if_eq (tgt := 38) hx hb dX9_ofProcedure_26 (by decide) (fun c => absurd c (by decide)) (fun _ => ?_)
  refine lv_aload_n hx hb dX9_ofProcedure_29 rfl (lv_at hl 0 rfl) ?_
  refine lv_iload_n hx hb dX9_ofProcedure_30 rfl (lv_at hl 1 rfl) ?_
  refine lv_iload_n hx hb dX9_ofProcedure_31 rfl (lv_at hl 2 rfl) ?_
  refine rdV (As := [.int 0, .int 6]) (ci := 9) S (c_X9_ofProcedureNow_7 l D cI cZ cJ o q) mi_X9_ofProcedureNow kw_7_203 ⟨rfl, rfl⟩ ⟨Nat.le_of_ble_eq_true rfl, Nat.le_of_ble_eq_true rfl⟩ hP hK mW_0 rfl rfl hl.1 (Nat.le_of_ble_eq_true rfl) ⟨Nat.le_of_ble_eq_true rfl, Nat.le_of_ble_eq_true rfl⟩ dX9_ofProcedure_32 ?_
  refine lv_goto (tgt := 43) hx hb dX9_ofProcedure_35 (by decide) ?_
  exact wEnd S hr hlocks hP hD hS (Nat.le_of_ble_eq_true rfl) (Nat.le_of_ble_eq_true rfl) dX9_ofProcedure_43 rfl

set_option maxHeartbeats 8000000 in
set_option maxRecDepth 100000 in
theorem c_X5_fills_0 (l : Launch) (D : va_G) (cI cZ cJ : ClassId) (o : Nat) (u : Nat → Nat) (x2 : Int32) (hi_x2 : x2 ≤ (-1000)) : Met l yX5_fills (uW yX5_fills cX5_fills 3 (some .boolean)) ({ frames := 0, cells := 0, slots := 0, locals := 0 }) (va_Pc [.ref (u 12), .int 1, .int x2] (pS D (tyL cI cZ cJ) (xW o u cI cZ cJ))) (QcRead (0)) 0 0 (fun _ => False) := by
  refine rdStart (lv := [(0, .ref (u 12)), (1, .int 1), (2, .int x2)]) (by decide) (Nat.le_of_ble_eq_true rfl) rfl ?_
  intro p e s m args below meth c ls S hr hlocks hl hP hK
  have hx := S.1
  have hb := S.2.1
  refine lv_iload_n hx hb dX5_fills_0 rfl (lv_at hl 1 rfl) ?_
  refine lv_tableIn (off := 57) (tgt := 58) hx hb dX5_fills_1 (by decide) (by decide) (by decide) (by decide) ?_
  refine lv_iload_n hx hb dX5_fills_58 rfl (lv_at hl 2 rfl) ?_
  refine lv_sipush (v := (-999)) hx hb dX5_fills_59 (by decide) ?_
  refine lv_icmp_lt (tgt := 76) hx hb dX5_fills_62 (by decide) (fun _ => ?_) (fun c => absurd (b_lt hi_x2 (by decide)) c)
  refine lv_iconst (v := 0) hx hb dX5_fills_76 (by decide) ?_
  exact rdEndZ S hr hlocks dX5_fills_77 rfl rfl

set_option maxHeartbeats 8000000 in
set_option maxRecDepth 100000 in
theorem c_X5_fills_1 (l : Launch) (D : va_G) (cI cZ cJ : ClassId) (o : Nat) (u : Nat → Nat) (x2 : Int32) (lo_x2 : 1000 ≤ x2) : Met l yX5_fills (uW yX5_fills cX5_fills 3 (some .boolean)) ({ frames := 0, cells := 0, slots := 0, locals := 0 }) (va_Pc [.ref (u 12), .int 1, .int x2] (pS D (tyL cI cZ cJ) (xW o u cI cZ cJ))) (QcRead (0)) 0 0 (fun _ => False) := by
  refine rdStart (lv := [(0, .ref (u 12)), (1, .int 1), (2, .int x2)]) (by decide) (Nat.le_of_ble_eq_true rfl) rfl ?_
  intro p e s m args below meth c ls S hr hlocks hl hP hK
  have hx := S.1
  have hb := S.2.1
  refine lv_iload_n hx hb dX5_fills_0 rfl (lv_at hl 1 rfl) ?_
  refine lv_tableIn (off := 57) (tgt := 58) hx hb dX5_fills_1 (by decide) (by decide) (by decide) (by decide) ?_
  refine lv_iload_n hx hb dX5_fills_58 rfl (lv_at hl 2 rfl) ?_
  refine lv_sipush (v := (-999)) hx hb dX5_fills_59 (by decide) ?_
  refine lv_icmp_lt (tgt := 76) hx hb dX5_fills_62 (by decide) (fun c => absurd c (b_nlt lo_x2 (by decide))) (fun _ => ?_)
  refine lv_iload_n hx hb dX5_fills_65 rfl (lv_at hl 2 rfl) ?_
  refine lv_sipush (v := 999) hx hb dX5_fills_66 (by decide) ?_
  refine lv_icmp_gt (tgt := 76) hx hb dX5_fills_69 (by decide) (fun _ => ?_) (fun c => absurd (b_gt lo_x2 (by decide)) c)
  refine lv_iconst (v := 0) hx hb dX5_fills_76 (by decide) ?_
  exact rdEndZ S hr hlocks dX5_fills_77 rfl rfl

set_option maxHeartbeats 8000000 in
set_option maxRecDepth 100000 in
theorem c_X5_fills_2 (l : Launch) (D : va_G) (cI cZ cJ : ClassId) (o : Nat) (u : Nat → Nat) (x2 : Int32) (lo_x2 : (-999) ≤ x2) (hi_x2 : x2 ≤ 999) : Met l yX5_fills (uW yX5_fills cX5_fills 3 (some .boolean)) ({ frames := 0, cells := 0, slots := 0, locals := 0 }) (va_Pc [.ref (u 12), .int 1, .int x2] (pS D (tyL cI cZ cJ) (xW o u cI cZ cJ))) (QcRead (1)) 0 0 (fun _ => False) := by
  refine rdStart (lv := [(0, .ref (u 12)), (1, .int 1), (2, .int x2)]) (by decide) (Nat.le_of_ble_eq_true rfl) rfl ?_
  intro p e s m args below meth c ls S hr hlocks hl hP hK
  have hx := S.1
  have hb := S.2.1
  refine lv_iload_n hx hb dX5_fills_0 rfl (lv_at hl 1 rfl) ?_
  refine lv_tableIn (off := 57) (tgt := 58) hx hb dX5_fills_1 (by decide) (by decide) (by decide) (by decide) ?_
  refine lv_iload_n hx hb dX5_fills_58 rfl (lv_at hl 2 rfl) ?_
  refine lv_sipush (v := (-999)) hx hb dX5_fills_59 (by decide) ?_
  refine lv_icmp_lt (tgt := 76) hx hb dX5_fills_62 (by decide) (fun c => absurd c (b_nlt lo_x2 (by decide))) (fun _ => ?_)
  refine lv_iload_n hx hb dX5_fills_65 rfl (lv_at hl 2 rfl) ?_
  refine lv_sipush (v := 999) hx hb dX5_fills_66 (by decide) ?_
  refine lv_icmp_gt (tgt := 76) hx hb dX5_fills_69 (by decide) (fun c => absurd c (b_ngt hi_x2 (by decide))) (fun _ => ?_)
  refine lv_iconst (v := 1) hx hb dX5_fills_72 (by decide) ?_
  refine lv_goto (tgt := 77) hx hb dX5_fills_73 (by decide) ?_
  exact rdEndZ S hr hlocks dX5_fills_77 rfl rfl

set_option maxHeartbeats 8000000 in
set_option maxRecDepth 100000 in
theorem c_X5_fills_3 (l : Launch) (D : va_G) (cI cZ cJ : ClassId) (o : Nat) (u : Nat → Nat) : Met l yX5_fills (uW yX5_fills cX5_fills 3 (some .boolean)) ({ frames := 0, cells := 0, slots := 0, locals := 0 }) (va_Pc [.ref (u 12), .int 0, .int 0] (pS D (tyL cI cZ cJ) (xW o u cI cZ cJ))) (QcRead (1)) 0 0 (fun _ => False) := by
  refine rdStart (lv := [(0, .ref (u 12)), (1, .int 0), (2, .int 0)]) (by decide) (Nat.le_of_ble_eq_true rfl) rfl ?_
  intro p e s m args below meth c ls S hr hlocks hl hP hK
  have hx := S.1
  have hb := S.2.1
  refine lv_iload_n hx hb dX5_fills_0 rfl (lv_at hl 1 rfl) ?_
  refine lv_tableIn (off := 47) (tgt := 48) hx hb dX5_fills_1 (by decide) (by decide) (by decide) (by decide) ?_
  refine lv_iload_n hx hb dX5_fills_48 rfl (lv_at hl 2 rfl) ?_
  refine lv_if_ne (tgt := 56) hx hb dX5_fills_49 (by decide) (fun c => absurd c (by decide)) (fun _ => ?_)
  refine lv_iconst (v := 1) hx hb dX5_fills_52 (by decide) ?_
  refine lv_goto (tgt := 57) hx hb dX5_fills_53 (by decide) ?_
  exact rdEndZ S hr hlocks dX5_fills_57 rfl rfl

set_option maxHeartbeats 8000000 in
set_option maxRecDepth 100000 in
theorem c_X5_isSamePart_0 (l : Launch) (D : va_G) (cI cZ cJ : ClassId) (o : Nat) (u : Nat → Nat) (x2 : Int32) (lo_x2 : (-999) ≤ x2) (hi_x2 : x2 ≤ 999) : Met l yX5_isSamePart (uW yX5_isSamePart cX5_isSamePart 4 (some .boolean)) ({ frames := 0, cells := 0, slots := 0, locals := 0 }) (va_Pc [.int 1, .int x2, .int 0, .int 0] (pS D (tyL cI cZ cJ) (xW o u cI cZ cJ))) (QcRead (0)) 0 0 (fun _ => False) := by
  refine rdStart (lv := [(0, .int 1), (1, .int x2), (2, .int 0), (3, .int 0)]) (by decide) (Nat.le_of_ble_eq_true rfl) rfl ?_
  intro p e s m args below meth c ls S hr hlocks hl hP hK
  have hx := S.1
  have hb := S.2.1
  refine lv_iload_n hx hb dX5_isSamePart_0 rfl (lv_at hl 0 rfl) ?_
  refine lv_iconst (v := 4) hx hb dX5_isSamePart_1 (by decide) ?_
  refine lv_icmp_lt (tgt := 24) hx hb dX5_isSamePart_2 (by decide) (fun _ => ?_) (fun c => absurd c (by decide))
  refine lv_iconst (v := 0) hx hb dX5_isSamePart_24 (by decide) ?_
  exact rdEndZ S hr hlocks dX5_isSamePart_25 rfl rfl

set_option maxHeartbeats 8000000 in
set_option maxRecDepth 100000 in
theorem c_X5_isSamePart_1 (l : Launch) (D : va_G) (cI cZ cJ : ClassId) (o : Nat) (u : Nat → Nat) : Met l yX5_isSamePart (uW yX5_isSamePart cX5_isSamePart 4 (some .boolean)) ({ frames := 0, cells := 0, slots := 0, locals := 0 }) (va_Pc [.int 0, .int 0, .int 0, .int 0] (pS D (tyL cI cZ cJ) (xW o u cI cZ cJ))) (QcRead (0)) 0 0 (fun _ => False) := by
  refine rdStart (lv := [(0, .int 0), (1, .int 0), (2, .int 0), (3, .int 0)]) (by decide) (Nat.le_of_ble_eq_true rfl) rfl ?_
  intro p e s m args below meth c ls S hr hlocks hl hP hK
  have hx := S.1
  have hb := S.2.1
  refine lv_iload_n hx hb dX5_isSamePart_0 rfl (lv_at hl 0 rfl) ?_
  refine lv_iconst (v := 4) hx hb dX5_isSamePart_1 (by decide) ?_
  refine lv_icmp_lt (tgt := 24) hx hb dX5_isSamePart_2 (by decide) (fun _ => ?_) (fun c => absurd c (by decide))
  refine lv_iconst (v := 0) hx hb dX5_isSamePart_24 (by decide) ?_
  exact rdEndZ S hr hlocks dX5_isSamePart_25 rfl rfl

set_option maxHeartbeats 8000000 in
set_option maxRecDepth 100000 in
theorem c_X5_fills_4 (l : Launch) (D : va_G) (cI cZ cJ : ClassId) (o : Nat) (u : Nat → Nat) (x4 : Int32) (ne_x4_0 : ¬ x4 = 0) : Met l yX5_fills (uW yX5_fills cX5_fills 3 (some .boolean)) ({ frames := 0, cells := 0, slots := 0, locals := 0 }) (va_Pc [.ref (u 12), .int 0, .int x4] (pS D (tyL cI cZ cJ) (xW o u cI cZ cJ))) (QcRead (0)) 0 0 (fun _ => False) := by
  refine rdStart (lv := [(0, .ref (u 12)), (1, .int 0), (2, .int x4)]) (by decide) (Nat.le_of_ble_eq_true rfl) rfl ?_
  intro p e s m args below meth c ls S hr hlocks hl hP hK
  have hx := S.1
  have hb := S.2.1
  refine lv_iload_n hx hb dX5_fills_0 rfl (lv_at hl 1 rfl) ?_
  refine lv_tableIn (off := 47) (tgt := 48) hx hb dX5_fills_1 (by decide) (by decide) (by decide) (by decide) ?_
  refine lv_iload_n hx hb dX5_fills_48 rfl (lv_at hl 2 rfl) ?_
  refine lv_if_ne (tgt := 56) hx hb dX5_fills_49 (by decide) (fun _ => ?_) (fun c => absurd c ne_x4_0)
  refine lv_iconst (v := 0) hx hb dX5_fills_56 (by decide) ?_
  exact rdEndZ S hr hlocks dX5_fills_57 rfl rfl

set_option maxHeartbeats 8000000 in
set_option maxRecDepth 100000 in
theorem c_X5_fills_5 (l : Launch) (D : va_G) (cI cZ cJ : ClassId) (o : Nat) (u : Nat → Nat) (x3 : Int32) (ne_x3_0 : ¬ x3 = 0) : Met l yX5_fills (uW yX5_fills cX5_fills 3 (some .boolean)) ({ frames := 0, cells := 0, slots := 0, locals := 0 }) (va_Pc [.ref (u 12), .int 0, .int x3] (pS D (tyL cI cZ cJ) (xW o u cI cZ cJ))) (QcRead (0)) 0 0 (fun _ => False) := by
  refine rdStart (lv := [(0, .ref (u 12)), (1, .int 0), (2, .int x3)]) (by decide) (Nat.le_of_ble_eq_true rfl) rfl ?_
  intro p e s m args below meth c ls S hr hlocks hl hP hK
  have hx := S.1
  have hb := S.2.1
  refine lv_iload_n hx hb dX5_fills_0 rfl (lv_at hl 1 rfl) ?_
  refine lv_tableIn (off := 47) (tgt := 48) hx hb dX5_fills_1 (by decide) (by decide) (by decide) (by decide) ?_
  refine lv_iload_n hx hb dX5_fills_48 rfl (lv_at hl 2 rfl) ?_
  refine lv_if_ne (tgt := 56) hx hb dX5_fills_49 (by decide) (fun _ => ?_) (fun c => absurd c ne_x3_0)
  refine lv_iconst (v := 0) hx hb dX5_fills_56 (by decide) ?_
  exact rdEndZ S hr hlocks dX5_fills_57 rfl rfl

set_option maxHeartbeats 8000000 in
set_option maxRecDepth 100000 in
theorem c_X5_suits_0 (l : Launch) (D : va_G) (cI cZ cJ : ClassId) (o : Nat) (u : Nat → Nat) (ra ga : Nat → Nat) (sz : Nat) (x2 : Int32) (x3 : Int32) (x4 : Int32) (hi_x2 : x2 ≤ (-1000)) : Met l yX5_suits (uW yX5_suits cX5_suits 5 (some .boolean)) ({ frames := 1, cells := 0, slots := 0, locals := 22 }) (va_Pc [.ref (u 12), .int 0, .int x2, .int x3, .int x4] (aS ra ga D (tyL cI cZ cJ) (xW o u cI cZ cJ) sz)) (wQi (0) D (xW o u cI cZ cJ) (va_A (xW o u cI cZ cJ) sz)) 0 0 (va_A (xW o u cI cZ cJ) sz) := by
  refine aStart (lv := [(0, .ref (u 12)), (1, .int 0), (2, .int x2), (3, .int x3), (4, .int x4)]) (Qc := fun A => wQi (0) D (xW o u cI cZ cJ) A) (by decide) (Nat.le_of_ble_eq_true rfl) rfl ?_
  intro p e s m args below meth c ls A H S hr hlocks hnm hl hK hP hD hS hA hB
  have hx := S.1
  have hb := S.2.1
  refine lv_iload_n hx hb dX5_suits_0 rfl (lv_at hl 1 rfl) ?_
  refine lv_if_lt (tgt := 10) hx hb dX5_suits_1 (by decide) (fun c => absurd c (by decide)) (fun _ => ?_)
  refine lv_iload_n hx hb dX5_suits_4 rfl (lv_at hl 1 rfl) ?_
  refine lv_bipush (v := 21) hx hb dX5_suits_5 (by decide) ?_
  refine lv_icmp_le (tgt := 12) hx hb dX5_suits_7 (by decide) (fun _ => ?_) (fun c => absurd c (by decide))
  refine lv_aload_n hx hb dX5_suits_12 rfl (lv_at hl 0 rfl) ?_
  refine xgs S hB.z0 hS kw_3_91 rfl dX5_suits_13 ?_
  refine lv_iload_n hx hb dX5_suits_16 rfl (lv_at hl 1 rfl) ?_
  refine xti (v := 1) S hB.t0 hS (vin rfl) rfl dX5_suits_17 ?_
  refine lv_iload_n hx hb dX5_suits_18 rfl (lv_at hl 2 rfl) ?_
  refine rdV (As := [.int 1, .int x2]) (ci := 5) S (c_X5_fills_0 l D cI cZ cJ o u x2 hi_x2) mi_X5_fills kw_6_31 ⟨rfl, rfl⟩ ⟨Nat.le_of_ble_eq_true rfl, Nat.le_of_ble_eq_true rfl⟩ hP hK xW_13 rfl rfl hl.1 (Nat.le_of_ble_eq_true rfl) ⟨Nat.le_of_ble_eq_true rfl, Nat.le_of_ble_eq_true rfl⟩ dX5_suits_19 ?_
  refine lv_if_eq (tgt := 112) hx hb dX5_suits_22 (by decide) (fun _ => ?_) (fun c => absurd c (by decide))
  refine lv_iconst (v := 0) hx hb dX5_suits_112 (by decide) ?_
  exact wEndZ S hr hlocks hP hD hS (Nat.le_of_ble_eq_true rfl) (Nat.le_of_ble_eq_true rfl) dX5_suits_113 rfl rfl

set_option maxHeartbeats 8000000 in
set_option maxRecDepth 100000 in
theorem c_X5_suits_1 (l : Launch) (D : va_G) (cI cZ cJ : ClassId) (o : Nat) (u : Nat → Nat) (ra ga : Nat → Nat) (sz : Nat) (x2 : Int32) (x3 : Int32) (x4 : Int32) (lo_x2 : 1000 ≤ x2) : Met l yX5_suits (uW yX5_suits cX5_suits 5 (some .boolean)) ({ frames := 1, cells := 0, slots := 0, locals := 22 }) (va_Pc [.ref (u 12), .int 0, .int x2, .int x3, .int x4] (aS ra ga D (tyL cI cZ cJ) (xW o u cI cZ cJ) sz)) (wQi (0) D (xW o u cI cZ cJ) (va_A (xW o u cI cZ cJ) sz)) 0 0 (va_A (xW o u cI cZ cJ) sz) := by
  refine aStart (lv := [(0, .ref (u 12)), (1, .int 0), (2, .int x2), (3, .int x3), (4, .int x4)]) (Qc := fun A => wQi (0) D (xW o u cI cZ cJ) A) (by decide) (Nat.le_of_ble_eq_true rfl) rfl ?_
  intro p e s m args below meth c ls A H S hr hlocks hnm hl hK hP hD hS hA hB
  have hx := S.1
  have hb := S.2.1
  refine lv_iload_n hx hb dX5_suits_0 rfl (lv_at hl 1 rfl) ?_
  refine lv_if_lt (tgt := 10) hx hb dX5_suits_1 (by decide) (fun c => absurd c (by decide)) (fun _ => ?_)
  refine lv_iload_n hx hb dX5_suits_4 rfl (lv_at hl 1 rfl) ?_
  refine lv_bipush (v := 21) hx hb dX5_suits_5 (by decide) ?_
  refine lv_icmp_le (tgt := 12) hx hb dX5_suits_7 (by decide) (fun _ => ?_) (fun c => absurd c (by decide))
  refine lv_aload_n hx hb dX5_suits_12 rfl (lv_at hl 0 rfl) ?_
  refine xgs S hB.z0 hS kw_3_91 rfl dX5_suits_13 ?_
  refine lv_iload_n hx hb dX5_suits_16 rfl (lv_at hl 1 rfl) ?_
  refine xti (v := 1) S hB.t0 hS (vin rfl) rfl dX5_suits_17 ?_
  refine lv_iload_n hx hb dX5_suits_18 rfl (lv_at hl 2 rfl) ?_
  refine rdV (As := [.int 1, .int x2]) (ci := 5) S (c_X5_fills_1 l D cI cZ cJ o u x2 lo_x2) mi_X5_fills kw_6_31 ⟨rfl, rfl⟩ ⟨Nat.le_of_ble_eq_true rfl, Nat.le_of_ble_eq_true rfl⟩ hP hK xW_13 rfl rfl hl.1 (Nat.le_of_ble_eq_true rfl) ⟨Nat.le_of_ble_eq_true rfl, Nat.le_of_ble_eq_true rfl⟩ dX5_suits_19 ?_
  refine lv_if_eq (tgt := 112) hx hb dX5_suits_22 (by decide) (fun _ => ?_) (fun c => absurd c (by decide))
  refine lv_iconst (v := 0) hx hb dX5_suits_112 (by decide) ?_
  exact wEndZ S hr hlocks hP hD hS (Nat.le_of_ble_eq_true rfl) (Nat.le_of_ble_eq_true rfl) dX5_suits_113 rfl rfl

set_option maxHeartbeats 8000000 in
set_option maxRecDepth 100000 in
theorem c_X5_suits_2 (l : Launch) (D : va_G) (cI cZ cJ : ClassId) (o : Nat) (u : Nat → Nat) (ra ga : Nat → Nat) (sz : Nat) (x2 : Int32) (lo_x2 : (-999) ≤ x2) (hi_x2 : x2 ≤ 999) : Met l yX5_suits (uW yX5_suits cX5_suits 5 (some .boolean)) ({ frames := 1, cells := 0, slots := 0, locals := 23 }) (va_Pc [.ref (u 12), .int 0, .int x2, .int 0, .int 0] (aS ra ga D (tyL cI cZ cJ) (xW o u cI cZ cJ) sz)) (wQi (1) D (xW o u cI cZ cJ) (va_A (xW o u cI cZ cJ) sz)) 0 0 (va_A (xW o u cI cZ cJ) sz) := by
  refine aStart (lv := [(0, .ref (u 12)), (1, .int 0), (2, .int x2), (3, .int 0), (4, .int 0)]) (Qc := fun A => wQi (1) D (xW o u cI cZ cJ) A) (by decide) (Nat.le_of_ble_eq_true rfl) rfl ?_
  intro p e s m args below meth c ls A H S hr hlocks hnm hl hK hP hD hS hA hB
  have hx := S.1
  have hb := S.2.1
  refine lv_iload_n hx hb dX5_suits_0 rfl (lv_at hl 1 rfl) ?_
  refine lv_if_lt (tgt := 10) hx hb dX5_suits_1 (by decide) (fun c => absurd c (by decide)) (fun _ => ?_)
  refine lv_iload_n hx hb dX5_suits_4 rfl (lv_at hl 1 rfl) ?_
  refine lv_bipush (v := 21) hx hb dX5_suits_5 (by decide) ?_
  refine lv_icmp_le (tgt := 12) hx hb dX5_suits_7 (by decide) (fun _ => ?_) (fun c => absurd c (by decide))
  refine lv_aload_n hx hb dX5_suits_12 rfl (lv_at hl 0 rfl) ?_
  refine xgs S hB.z0 hS kw_3_91 rfl dX5_suits_13 ?_
  refine lv_iload_n hx hb dX5_suits_16 rfl (lv_at hl 1 rfl) ?_
  refine xti (v := 1) S hB.t0 hS (vin rfl) rfl dX5_suits_17 ?_
  refine lv_iload_n hx hb dX5_suits_18 rfl (lv_at hl 2 rfl) ?_
  refine rdV (As := [.int 1, .int x2]) (ci := 5) S (c_X5_fills_2 l D cI cZ cJ o u x2 lo_x2 hi_x2) mi_X5_fills kw_6_31 ⟨rfl, rfl⟩ ⟨Nat.le_of_ble_eq_true rfl, Nat.le_of_ble_eq_true rfl⟩ hP hK xW_13 rfl rfl hl.1 (Nat.le_of_ble_eq_true rfl) ⟨Nat.le_of_ble_eq_true rfl, Nat.le_of_ble_eq_true rfl⟩ dX5_suits_19 ?_
  refine lv_if_eq (tgt := 112) hx hb dX5_suits_22 (by decide) (fun c => absurd c (by decide)) (fun _ => ?_)
  refine lv_aload_n hx hb dX5_suits_25 rfl (lv_at hl 0 rfl) ?_
  refine xgs S hB.z1 hS kw_3_228 rfl dX5_suits_26 ?_
  refine lv_iload_n hx hb dX5_suits_29 rfl (lv_at hl 1 rfl) ?_
  refine xti (v := 0) S hB.t1 hS (vin rfl) rfl dX5_suits_30 ?_
  refine lv_iload_n hx hb dX5_suits_31 rfl (lv_at hl 3 rfl) ?_
  refine rdV (As := [.int 0, .int 0]) (ci := 5) S (c_X5_fills_3 l D cI cZ cJ o u) mi_X5_fills kw_6_31 ⟨rfl, rfl⟩ ⟨Nat.le_of_ble_eq_true rfl, Nat.le_of_ble_eq_true rfl⟩ hP hK xW_13 rfl rfl hl.1 (Nat.le_of_ble_eq_true rfl) ⟨Nat.le_of_ble_eq_true rfl, Nat.le_of_ble_eq_true rfl⟩ dX5_suits_32 ?_
  refine lv_if_eq (tgt := 112) hx hb dX5_suits_35 (by decide) (fun c => absurd c (by decide)) (fun _ => ?_)
  refine lv_aload_n hx hb dX5_suits_38 rfl (lv_at hl 0 rfl) ?_
  refine xgs S hB.z2 hS kw_3_222 rfl dX5_suits_39 ?_
  refine lv_iload_n hx hb dX5_suits_42 rfl (lv_at hl 1 rfl) ?_
  refine xti (v := 0) S hB.t2 hS (vin rfl) rfl dX5_suits_43 ?_
  refine lv_iload hx hb dX5_suits_44 (lv_at hl 4 rfl) ?_
  refine rdV (As := [.int 0, .int 0]) (ci := 5) S (c_X5_fills_3 l D cI cZ cJ o u) mi_X5_fills kw_6_31 ⟨rfl, rfl⟩ ⟨Nat.le_of_ble_eq_true rfl, Nat.le_of_ble_eq_true rfl⟩ hP hK xW_13 rfl rfl hl.1 (Nat.le_of_ble_eq_true rfl) ⟨Nat.le_of_ble_eq_true rfl, Nat.le_of_ble_eq_true rfl⟩ dX5_suits_46 ?_
  refine lv_if_eq (tgt := 112) hx hb dX5_suits_49 (by decide) (fun c => absurd c (by decide)) (fun _ => ?_)
  refine xgs S hB.z0 hS kw_3_91 rfl dX5_suits_52 ?_
  refine lv_iload_n hx hb dX5_suits_55 rfl (lv_at hl 1 rfl) ?_
  refine xti (v := 1) S hB.t0 hS (vin rfl) rfl dX5_suits_56 ?_
  refine lv_iload_n hx hb dX5_suits_57 rfl (lv_at hl 2 rfl) ?_
  refine xgs S hB.z1 hS kw_3_228 rfl dX5_suits_58 ?_
  refine lv_iload_n hx hb dX5_suits_61 rfl (lv_at hl 1 rfl) ?_
  refine xti (v := 0) S hB.t1 hS (vin rfl) rfl dX5_suits_62 ?_
  refine lv_iload_n hx hb dX5_suits_63 rfl (lv_at hl 3 rfl) ?_
  refine rdS (As := [.int 1, .int x2, .int 0, .int 0]) S (c_X5_isSamePart_0 l D cI cZ cJ o u x2 lo_x2 hi_x2) ms_X5_isSamePart kw_6_50 ⟨rfl, rfl⟩ ⟨Nat.le_of_ble_eq_true rfl, Nat.le_of_ble_eq_true rfl⟩ hP hK hl.1 (Nat.le_of_ble_eq_true rfl) ⟨Nat.le_of_ble_eq_true rfl, Nat.le_of_ble_eq_true rfl⟩ dX5_suits_64 ?_
  refine lv_if_ne (tgt := 112) hx hb dX5_suits_67 (by decide) (fun c => absurd c (by decide)) (fun _ => ?_)
  refine xgs S hB.z0 hS kw_3_91 rfl dX5_suits_70 ?_
  refine lv_iload_n hx hb dX5_suits_73 rfl (lv_at hl 1 rfl) ?_
  refine xti (v := 1) S hB.t0 hS (vin rfl) rfl dX5_suits_74 ?_
  refine lv_iload_n hx hb dX5_suits_75 rfl (lv_at hl 2 rfl) ?_
  refine xgs S hB.z2 hS kw_3_222 rfl dX5_suits_76 ?_
  refine lv_iload_n hx hb dX5_suits_79 rfl (lv_at hl 1 rfl) ?_
  refine xti (v := 0) S hB.t2 hS (vin rfl) rfl dX5_suits_80 ?_
  refine lv_iload hx hb dX5_suits_81 (lv_at hl 4 rfl) ?_
  refine rdS (As := [.int 1, .int x2, .int 0, .int 0]) S (c_X5_isSamePart_0 l D cI cZ cJ o u x2 lo_x2 hi_x2) ms_X5_isSamePart kw_6_50 ⟨rfl, rfl⟩ ⟨Nat.le_of_ble_eq_true rfl, Nat.le_of_ble_eq_true rfl⟩ hP hK hl.1 (Nat.le_of_ble_eq_true rfl) ⟨Nat.le_of_ble_eq_true rfl, Nat.le_of_ble_eq_true rfl⟩ dX5_suits_83 ?_
  refine lv_if_ne (tgt := 112) hx hb dX5_suits_86 (by decide) (fun c => absurd c (by decide)) (fun _ => ?_)
  refine xgs S hB.z1 hS kw_3_228 rfl dX5_suits_89 ?_
  refine lv_iload_n hx hb dX5_suits_92 rfl (lv_at hl 1 rfl) ?_
  refine xti (v := 0) S hB.t1 hS (vin rfl) rfl dX5_suits_93 ?_
  refine lv_iload_n hx hb dX5_suits_94 rfl (lv_at hl 3 rfl) ?_
  refine xgs S hB.z2 hS kw_3_222 rfl dX5_suits_95 ?_
  refine lv_iload_n hx hb dX5_suits_98 rfl (lv_at hl 1 rfl) ?_
  refine xti (v := 0) S hB.t2 hS (vin rfl) rfl dX5_suits_99 ?_
  refine lv_iload hx hb dX5_suits_100 (lv_at hl 4 rfl) ?_
  refine rdS (As := [.int 0, .int 0, .int 0, .int 0]) S (c_X5_isSamePart_1 l D cI cZ cJ o u) ms_X5_isSamePart kw_6_50 ⟨rfl, rfl⟩ ⟨Nat.le_of_ble_eq_true rfl, Nat.le_of_ble_eq_true rfl⟩ hP hK hl.1 (Nat.le_of_ble_eq_true rfl) ⟨Nat.le_of_ble_eq_true rfl, Nat.le_of_ble_eq_true rfl⟩ dX5_suits_102 ?_
  refine lv_if_ne (tgt := 112) hx hb dX5_suits_105 (by decide) (fun c => absurd c (by decide)) (fun _ => ?_)
  refine lv_iconst (v := 1) hx hb dX5_suits_108 (by decide) ?_
  refine lv_goto (tgt := 113) hx hb dX5_suits_109 (by decide) ?_
  exact wEndZ S hr hlocks hP hD hS (Nat.le_of_ble_eq_true rfl) (Nat.le_of_ble_eq_true rfl) dX5_suits_113 rfl rfl

set_option maxHeartbeats 8000000 in
set_option maxRecDepth 100000 in
theorem c_X5_partA_0 (l : Launch) (D : va_G) (cI cZ cJ : ClassId) (o : Nat) (u : Nat → Nat) (ra ga : Nat → Nat) (sz : Nat) (x2 : Int32) (lo_x2 : (-999) ≤ x2) (hi_x2 : x2 ≤ 999) : Met l yX5_partA (uW yX5_partA cX5_partA 2 (some .int)) ({ frames := 0, cells := 0, slots := 0, locals := 0 }) (va_Pc [.ref (u 12), .int 0] (aS ra ga D (tyL cI cZ cJ) ((((((((xW o u cI cZ cJ).set 13 ((u 12), .inr (5, ([.int 0, .ref (u 13), .ref (u 14), .ref (u 15), .ref (u 16), .ref (u 17), .ref (u 18)].set 0 (.int 1))))).set 14 ((u 13), .inl (cI, 110, .inl (upd (fun _ => 0) (0 : Int32).toNatClampNeg 0)))).set 15 ((u 14), .inl (cI, 110, .inl (upd (fun _ => 0) (0 : Int32).toNatClampNeg x2)))).set 16 ((u 15), .inl (cI, 110, .inl (upd (fun _ => 0) (0 : Int32).toNatClampNeg 0)))).set 17 ((u 16), .inl (cI, 110, .inl (upd (fun _ => 0) (0 : Int32).toNatClampNeg 0)))).set 18 ((u 17), .inl (cI, 110, .inl (upd (fun _ => 0) (0 : Int32).toNatClampNeg (-1))))).set 19 ((u 18), .inl (cI, 110, .inl (upd (fun _ => 0) (0 : Int32).toNatClampNeg (-1))))) sz)) (wQi ((-1)) D ((((((((xW o u cI cZ cJ).set 13 ((u 12), .inr (5, ([.int 0, .ref (u 13), .ref (u 14), .ref (u 15), .ref (u 16), .ref (u 17), .ref (u 18)].set 0 (.int 1))))).set 14 ((u 13), .inl (cI, 110, .inl (upd (fun _ => 0) (0 : Int32).toNatClampNeg 0)))).set 15 ((u 14), .inl (cI, 110, .inl (upd (fun _ => 0) (0 : Int32).toNatClampNeg x2)))).set 16 ((u 15), .inl (cI, 110, .inl (upd (fun _ => 0) (0 : Int32).toNatClampNeg 0)))).set 17 ((u 16), .inl (cI, 110, .inl (upd (fun _ => 0) (0 : Int32).toNatClampNeg 0)))).set 18 ((u 17), .inl (cI, 110, .inl (upd (fun _ => 0) (0 : Int32).toNatClampNeg (-1))))).set 19 ((u 18), .inl (cI, 110, .inl (upd (fun _ => 0) (0 : Int32).toNatClampNeg (-1))))) (va_A ((((((((xW o u cI cZ cJ).set 13 ((u 12), .inr (5, ([.int 0, .ref (u 13), .ref (u 14), .ref (u 15), .ref (u 16), .ref (u 17), .ref (u 18)].set 0 (.int 1))))).set 14 ((u 13), .inl (cI, 110, .inl (upd (fun _ => 0) (0 : Int32).toNatClampNeg 0)))).set 15 ((u 14), .inl (cI, 110, .inl (upd (fun _ => 0) (0 : Int32).toNatClampNeg x2)))).set 16 ((u 15), .inl (cI, 110, .inl (upd (fun _ => 0) (0 : Int32).toNatClampNeg 0)))).set 17 ((u 16), .inl (cI, 110, .inl (upd (fun _ => 0) (0 : Int32).toNatClampNeg 0)))).set 18 ((u 17), .inl (cI, 110, .inl (upd (fun _ => 0) (0 : Int32).toNatClampNeg (-1))))).set 19 ((u 18), .inl (cI, 110, .inl (upd (fun _ => 0) (0 : Int32).toNatClampNeg (-1))))) sz)) 0 0 (va_A ((((((((xW o u cI cZ cJ).set 13 ((u 12), .inr (5, ([.int 0, .ref (u 13), .ref (u 14), .ref (u 15), .ref (u 16), .ref (u 17), .ref (u 18)].set 0 (.int 1))))).set 14 ((u 13), .inl (cI, 110, .inl (upd (fun _ => 0) (0 : Int32).toNatClampNeg 0)))).set 15 ((u 14), .inl (cI, 110, .inl (upd (fun _ => 0) (0 : Int32).toNatClampNeg x2)))).set 16 ((u 15), .inl (cI, 110, .inl (upd (fun _ => 0) (0 : Int32).toNatClampNeg 0)))).set 17 ((u 16), .inl (cI, 110, .inl (upd (fun _ => 0) (0 : Int32).toNatClampNeg 0)))).set 18 ((u 17), .inl (cI, 110, .inl (upd (fun _ => 0) (0 : Int32).toNatClampNeg (-1))))).set 19 ((u 18), .inl (cI, 110, .inl (upd (fun _ => 0) (0 : Int32).toNatClampNeg (-1))))) sz) := by
  refine aStart (lv := [(0, .ref (u 12)), (1, .int 0)]) (Qc := fun A => wQi ((-1)) D ((((((((xW o u cI cZ cJ).set 13 ((u 12), .inr (5, ([.int 0, .ref (u 13), .ref (u 14), .ref (u 15), .ref (u 16), .ref (u 17), .ref (u 18)].set 0 (.int 1))))).set 14 ((u 13), .inl (cI, 110, .inl (upd (fun _ => 0) (0 : Int32).toNatClampNeg 0)))).set 15 ((u 14), .inl (cI, 110, .inl (upd (fun _ => 0) (0 : Int32).toNatClampNeg x2)))).set 16 ((u 15), .inl (cI, 110, .inl (upd (fun _ => 0) (0 : Int32).toNatClampNeg 0)))).set 17 ((u 16), .inl (cI, 110, .inl (upd (fun _ => 0) (0 : Int32).toNatClampNeg 0)))).set 18 ((u 17), .inl (cI, 110, .inl (upd (fun _ => 0) (0 : Int32).toNatClampNeg (-1))))).set 19 ((u 18), .inl (cI, 110, .inl (upd (fun _ => 0) (0 : Int32).toNatClampNeg (-1))))) A) (by decide) (Nat.le_of_ble_eq_true rfl) rfl ?_
  intro p e s m args below meth c ls A H S hr hlocks hnm hl hK hP hD hS hA hB
  have hx := S.1
  have hb := S.2.1
  refine xgs S hB.z0 hS kw_3_91 rfl dX5_partA_0 ?_
  refine lv_aload_n hx hb dX5_partA_3 rfl (lv_at hl 0 rfl) ?_
  refine xg (ci := 5) S inX5 rfl hK hP (q0 := 13) rfl 1 (by decide) rfl kw_1_111 rfl dX5_partA_4 ?_
  refine lv_iload_n hx hb dX5_partA_7 rfl (lv_at hl 1 rfl) ?_
  refine xiald (t0 := 0) (v := 0) S hK hP (q0 := 14) rfl rfl (vin rfl) rfl dX5_partA_8 ?_
  refine xti (v := 1) S hB.t0 hS (vin rfl) rfl dX5_partA_9 ?_
  refine lv_iconst (v := 4) hx hb dX5_partA_10 (by decide) ?_
  refine lv_icmp_lt (tgt := 23) hx hb dX5_partA_11 (by decide) (fun _ => ?_) (fun c => absurd c (by decide))
  refine lv_iconst (v := (-1)) hx hb dX5_partA_23 (by decide) ?_
  exact wEnd S hr hlocks hP hD hS (Nat.le_of_ble_eq_true rfl) (Nat.le_of_ble_eq_true rfl) dX5_partA_24 rfl

set_option maxHeartbeats 8000000 in
set_option maxRecDepth 100000 in
theorem c_X5_claim_0 (l : Launch) (D : va_G) (cI cZ cJ : ClassId) (o : Nat) (u : Nat → Nat) (ra ga : Nat → Nat) (sz : Nat) (x2 : Int32) (lo_x2 : (-999) ≤ x2) (hi_x2 : x2 ≤ 999) : Met l yX5_claim (uW yX5_claim cX5_claim 3 none) ({ frames := 0, cells := 0, slots := 0, locals := 0 }) (va_Pc [.ref (u 12), .int (-1), .int 0] (aS ra ga D (tyL cI cZ cJ) ((((((((xW o u cI cZ cJ).set 13 ((u 12), .inr (5, ([.int 0, .ref (u 13), .ref (u 14), .ref (u 15), .ref (u 16), .ref (u 17), .ref (u 18)].set 0 (.int 1))))).set 14 ((u 13), .inl (cI, 110, .inl (upd (fun _ => 0) (0 : Int32).toNatClampNeg 0)))).set 15 ((u 14), .inl (cI, 110, .inl (upd (fun _ => 0) (0 : Int32).toNatClampNeg x2)))).set 16 ((u 15), .inl (cI, 110, .inl (upd (fun _ => 0) (0 : Int32).toNatClampNeg 0)))).set 17 ((u 16), .inl (cI, 110, .inl (upd (fun _ => 0) (0 : Int32).toNatClampNeg 0)))).set 18 ((u 17), .inl (cI, 110, .inl (upd (fun _ => 0) (0 : Int32).toNatClampNeg (-1))))).set 19 ((u 18), .inl (cI, 110, .inl (upd (fun _ => 0) (0 : Int32).toNatClampNeg (-1))))) sz)) (wQv D ((((((((xW o u cI cZ cJ).set 13 ((u 12), .inr (5, ([.int 0, .ref (u 13), .ref (u 14), .ref (u 15), .ref (u 16), .ref (u 17), .ref (u 18)].set 0 (.int 1))))).set 14 ((u 13), .inl (cI, 110, .inl (upd (fun _ => 0) (0 : Int32).toNatClampNeg 0)))).set 15 ((u 14), .inl (cI, 110, .inl (upd (fun _ => 0) (0 : Int32).toNatClampNeg x2)))).set 16 ((u 15), .inl (cI, 110, .inl (upd (fun _ => 0) (0 : Int32).toNatClampNeg 0)))).set 17 ((u 16), .inl (cI, 110, .inl (upd (fun _ => 0) (0 : Int32).toNatClampNeg 0)))).set 18 ((u 17), .inl (cI, 110, .inl (upd (fun _ => 0) (0 : Int32).toNatClampNeg (-1))))).set 19 ((u 18), .inl (cI, 110, .inl (upd (fun _ => 0) (0 : Int32).toNatClampNeg (-1))))) (va_A ((((((((xW o u cI cZ cJ).set 13 ((u 12), .inr (5, ([.int 0, .ref (u 13), .ref (u 14), .ref (u 15), .ref (u 16), .ref (u 17), .ref (u 18)].set 0 (.int 1))))).set 14 ((u 13), .inl (cI, 110, .inl (upd (fun _ => 0) (0 : Int32).toNatClampNeg 0)))).set 15 ((u 14), .inl (cI, 110, .inl (upd (fun _ => 0) (0 : Int32).toNatClampNeg x2)))).set 16 ((u 15), .inl (cI, 110, .inl (upd (fun _ => 0) (0 : Int32).toNatClampNeg 0)))).set 17 ((u 16), .inl (cI, 110, .inl (upd (fun _ => 0) (0 : Int32).toNatClampNeg 0)))).set 18 ((u 17), .inl (cI, 110, .inl (upd (fun _ => 0) (0 : Int32).toNatClampNeg (-1))))).set 19 ((u 18), .inl (cI, 110, .inl (upd (fun _ => 0) (0 : Int32).toNatClampNeg (-1))))) sz)) 0 0 (va_A ((((((((xW o u cI cZ cJ).set 13 ((u 12), .inr (5, ([.int 0, .ref (u 13), .ref (u 14), .ref (u 15), .ref (u 16), .ref (u 17), .ref (u 18)].set 0 (.int 1))))).set 14 ((u 13), .inl (cI, 110, .inl (upd (fun _ => 0) (0 : Int32).toNatClampNeg 0)))).set 15 ((u 14), .inl (cI, 110, .inl (upd (fun _ => 0) (0 : Int32).toNatClampNeg x2)))).set 16 ((u 15), .inl (cI, 110, .inl (upd (fun _ => 0) (0 : Int32).toNatClampNeg 0)))).set 17 ((u 16), .inl (cI, 110, .inl (upd (fun _ => 0) (0 : Int32).toNatClampNeg 0)))).set 18 ((u 17), .inl (cI, 110, .inl (upd (fun _ => 0) (0 : Int32).toNatClampNeg (-1))))).set 19 ((u 18), .inl (cI, 110, .inl (upd (fun _ => 0) (0 : Int32).toNatClampNeg (-1))))) sz) := by
  refine aStart (lv := [(0, .ref (u 12)), (1, .int (-1)), (2, .int 0)]) (Qc := fun A => wQv D ((((((((xW o u cI cZ cJ).set 13 ((u 12), .inr (5, ([.int 0, .ref (u 13), .ref (u 14), .ref (u 15), .ref (u 16), .ref (u 17), .ref (u 18)].set 0 (.int 1))))).set 14 ((u 13), .inl (cI, 110, .inl (upd (fun _ => 0) (0 : Int32).toNatClampNeg 0)))).set 15 ((u 14), .inl (cI, 110, .inl (upd (fun _ => 0) (0 : Int32).toNatClampNeg x2)))).set 16 ((u 15), .inl (cI, 110, .inl (upd (fun _ => 0) (0 : Int32).toNatClampNeg 0)))).set 17 ((u 16), .inl (cI, 110, .inl (upd (fun _ => 0) (0 : Int32).toNatClampNeg 0)))).set 18 ((u 17), .inl (cI, 110, .inl (upd (fun _ => 0) (0 : Int32).toNatClampNeg (-1))))).set 19 ((u 18), .inl (cI, 110, .inl (upd (fun _ => 0) (0 : Int32).toNatClampNeg (-1))))) A) (by decide) (Nat.le_of_ble_eq_true rfl) rfl ?_
  intro p e s m args below meth c ls A H S hr hlocks hnm hl hK hP hD hS hA hB
  have hx := S.1
  have hb := S.2.1
  refine lv_iload_n hx hb dX5_claim_0 rfl (lv_at hl 1 rfl) ?_
  refine lv_iconst (v := (-1)) hx hb dX5_claim_1 (by decide) ?_
  refine lv_icmp_eq (tgt := 12) hx hb dX5_claim_2 (by decide) (fun _ => ?_) (fun c => absurd c (by decide))
  exact wEndv S hr hlocks hP hD hS (Nat.le_of_ble_eq_true rfl) (Nat.le_of_ble_eq_true rfl) dX5_claim_12

set_option maxHeartbeats 8000000 in
set_option maxRecDepth 100000 in
theorem c_X5_partB_0 (l : Launch) (D : va_G) (cI cZ cJ : ClassId) (o : Nat) (u : Nat → Nat) (ra ga : Nat → Nat) (sz : Nat) (x2 : Int32) (lo_x2 : (-999) ≤ x2) (hi_x2 : x2 ≤ 999) : Met l yX5_partB (uW yX5_partB cX5_partB 2 (some .int)) ({ frames := 0, cells := 0, slots := 0, locals := 0 }) (va_Pc [.ref (u 12), .int 0] (aS ra ga D (tyL cI cZ cJ) ((((((((xW o u cI cZ cJ).set 13 ((u 12), .inr (5, ([.int 0, .ref (u 13), .ref (u 14), .ref (u 15), .ref (u 16), .ref (u 17), .ref (u 18)].set 0 (.int 1))))).set 14 ((u 13), .inl (cI, 110, .inl (upd (fun _ => 0) (0 : Int32).toNatClampNeg 0)))).set 15 ((u 14), .inl (cI, 110, .inl (upd (fun _ => 0) (0 : Int32).toNatClampNeg x2)))).set 16 ((u 15), .inl (cI, 110, .inl (upd (fun _ => 0) (0 : Int32).toNatClampNeg 0)))).set 17 ((u 16), .inl (cI, 110, .inl (upd (fun _ => 0) (0 : Int32).toNatClampNeg 0)))).set 18 ((u 17), .inl (cI, 110, .inl (upd (fun _ => 0) (0 : Int32).toNatClampNeg (-1))))).set 19 ((u 18), .inl (cI, 110, .inl (upd (fun _ => 0) (0 : Int32).toNatClampNeg (-1))))) sz)) (wQi ((-1)) D ((((((((xW o u cI cZ cJ).set 13 ((u 12), .inr (5, ([.int 0, .ref (u 13), .ref (u 14), .ref (u 15), .ref (u 16), .ref (u 17), .ref (u 18)].set 0 (.int 1))))).set 14 ((u 13), .inl (cI, 110, .inl (upd (fun _ => 0) (0 : Int32).toNatClampNeg 0)))).set 15 ((u 14), .inl (cI, 110, .inl (upd (fun _ => 0) (0 : Int32).toNatClampNeg x2)))).set 16 ((u 15), .inl (cI, 110, .inl (upd (fun _ => 0) (0 : Int32).toNatClampNeg 0)))).set 17 ((u 16), .inl (cI, 110, .inl (upd (fun _ => 0) (0 : Int32).toNatClampNeg 0)))).set 18 ((u 17), .inl (cI, 110, .inl (upd (fun _ => 0) (0 : Int32).toNatClampNeg (-1))))).set 19 ((u 18), .inl (cI, 110, .inl (upd (fun _ => 0) (0 : Int32).toNatClampNeg (-1))))) (va_A ((((((((xW o u cI cZ cJ).set 13 ((u 12), .inr (5, ([.int 0, .ref (u 13), .ref (u 14), .ref (u 15), .ref (u 16), .ref (u 17), .ref (u 18)].set 0 (.int 1))))).set 14 ((u 13), .inl (cI, 110, .inl (upd (fun _ => 0) (0 : Int32).toNatClampNeg 0)))).set 15 ((u 14), .inl (cI, 110, .inl (upd (fun _ => 0) (0 : Int32).toNatClampNeg x2)))).set 16 ((u 15), .inl (cI, 110, .inl (upd (fun _ => 0) (0 : Int32).toNatClampNeg 0)))).set 17 ((u 16), .inl (cI, 110, .inl (upd (fun _ => 0) (0 : Int32).toNatClampNeg 0)))).set 18 ((u 17), .inl (cI, 110, .inl (upd (fun _ => 0) (0 : Int32).toNatClampNeg (-1))))).set 19 ((u 18), .inl (cI, 110, .inl (upd (fun _ => 0) (0 : Int32).toNatClampNeg (-1))))) sz)) 0 0 (va_A ((((((((xW o u cI cZ cJ).set 13 ((u 12), .inr (5, ([.int 0, .ref (u 13), .ref (u 14), .ref (u 15), .ref (u 16), .ref (u 17), .ref (u 18)].set 0 (.int 1))))).set 14 ((u 13), .inl (cI, 110, .inl (upd (fun _ => 0) (0 : Int32).toNatClampNeg 0)))).set 15 ((u 14), .inl (cI, 110, .inl (upd (fun _ => 0) (0 : Int32).toNatClampNeg x2)))).set 16 ((u 15), .inl (cI, 110, .inl (upd (fun _ => 0) (0 : Int32).toNatClampNeg 0)))).set 17 ((u 16), .inl (cI, 110, .inl (upd (fun _ => 0) (0 : Int32).toNatClampNeg 0)))).set 18 ((u 17), .inl (cI, 110, .inl (upd (fun _ => 0) (0 : Int32).toNatClampNeg (-1))))).set 19 ((u 18), .inl (cI, 110, .inl (upd (fun _ => 0) (0 : Int32).toNatClampNeg (-1))))) sz) := by
  refine aStart (lv := [(0, .ref (u 12)), (1, .int 0)]) (Qc := fun A => wQi ((-1)) D ((((((((xW o u cI cZ cJ).set 13 ((u 12), .inr (5, ([.int 0, .ref (u 13), .ref (u 14), .ref (u 15), .ref (u 16), .ref (u 17), .ref (u 18)].set 0 (.int 1))))).set 14 ((u 13), .inl (cI, 110, .inl (upd (fun _ => 0) (0 : Int32).toNatClampNeg 0)))).set 15 ((u 14), .inl (cI, 110, .inl (upd (fun _ => 0) (0 : Int32).toNatClampNeg x2)))).set 16 ((u 15), .inl (cI, 110, .inl (upd (fun _ => 0) (0 : Int32).toNatClampNeg 0)))).set 17 ((u 16), .inl (cI, 110, .inl (upd (fun _ => 0) (0 : Int32).toNatClampNeg 0)))).set 18 ((u 17), .inl (cI, 110, .inl (upd (fun _ => 0) (0 : Int32).toNatClampNeg (-1))))).set 19 ((u 18), .inl (cI, 110, .inl (upd (fun _ => 0) (0 : Int32).toNatClampNeg (-1))))) A) (by decide) (Nat.le_of_ble_eq_true rfl) rfl ?_
  intro p e s m args below meth c ls A H S hr hlocks hnm hl hK hP hD hS hA hB
  have hx := S.1
  have hb := S.2.1
  refine xgs S hB.z1 hS kw_3_228 rfl dX5_partB_0 ?_
  refine lv_aload_n hx hb dX5_partB_3 rfl (lv_at hl 0 rfl) ?_
  refine xg (ci := 5) S inX5 rfl hK hP (q0 := 13) rfl 1 (by decide) rfl kw_1_111 rfl dX5_partB_4 ?_
  refine lv_iload_n hx hb dX5_partB_7 rfl (lv_at hl 1 rfl) ?_
  refine xiald (t0 := 0) (v := 0) S hK hP (q0 := 14) rfl rfl (vin rfl) rfl dX5_partB_8 ?_
  refine xti (v := 0) S hB.t1 hS (vin rfl) rfl dX5_partB_9 ?_
  refine lv_iconst (v := 4) hx hb dX5_partB_10 (by decide) ?_
  refine lv_icmp_lt (tgt := 23) hx hb dX5_partB_11 (by decide) (fun _ => ?_) (fun c => absurd c (by decide))
  refine lv_iconst (v := (-1)) hx hb dX5_partB_23 (by decide) ?_
  exact wEnd S hr hlocks hP hD hS (Nat.le_of_ble_eq_true rfl) (Nat.le_of_ble_eq_true rfl) dX5_partB_24 rfl

set_option maxHeartbeats 8000000 in
set_option maxRecDepth 100000 in
theorem c_X5_partC_0 (l : Launch) (D : va_G) (cI cZ cJ : ClassId) (o : Nat) (u : Nat → Nat) (ra ga : Nat → Nat) (sz : Nat) (x2 : Int32) (lo_x2 : (-999) ≤ x2) (hi_x2 : x2 ≤ 999) : Met l yX5_partC (uW yX5_partC cX5_partC 2 (some .int)) ({ frames := 0, cells := 0, slots := 0, locals := 0 }) (va_Pc [.ref (u 12), .int 0] (aS ra ga D (tyL cI cZ cJ) ((((((((xW o u cI cZ cJ).set 13 ((u 12), .inr (5, ([.int 0, .ref (u 13), .ref (u 14), .ref (u 15), .ref (u 16), .ref (u 17), .ref (u 18)].set 0 (.int 1))))).set 14 ((u 13), .inl (cI, 110, .inl (upd (fun _ => 0) (0 : Int32).toNatClampNeg 0)))).set 15 ((u 14), .inl (cI, 110, .inl (upd (fun _ => 0) (0 : Int32).toNatClampNeg x2)))).set 16 ((u 15), .inl (cI, 110, .inl (upd (fun _ => 0) (0 : Int32).toNatClampNeg 0)))).set 17 ((u 16), .inl (cI, 110, .inl (upd (fun _ => 0) (0 : Int32).toNatClampNeg 0)))).set 18 ((u 17), .inl (cI, 110, .inl (upd (fun _ => 0) (0 : Int32).toNatClampNeg (-1))))).set 19 ((u 18), .inl (cI, 110, .inl (upd (fun _ => 0) (0 : Int32).toNatClampNeg (-1))))) sz)) (wQi ((-1)) D ((((((((xW o u cI cZ cJ).set 13 ((u 12), .inr (5, ([.int 0, .ref (u 13), .ref (u 14), .ref (u 15), .ref (u 16), .ref (u 17), .ref (u 18)].set 0 (.int 1))))).set 14 ((u 13), .inl (cI, 110, .inl (upd (fun _ => 0) (0 : Int32).toNatClampNeg 0)))).set 15 ((u 14), .inl (cI, 110, .inl (upd (fun _ => 0) (0 : Int32).toNatClampNeg x2)))).set 16 ((u 15), .inl (cI, 110, .inl (upd (fun _ => 0) (0 : Int32).toNatClampNeg 0)))).set 17 ((u 16), .inl (cI, 110, .inl (upd (fun _ => 0) (0 : Int32).toNatClampNeg 0)))).set 18 ((u 17), .inl (cI, 110, .inl (upd (fun _ => 0) (0 : Int32).toNatClampNeg (-1))))).set 19 ((u 18), .inl (cI, 110, .inl (upd (fun _ => 0) (0 : Int32).toNatClampNeg (-1))))) (va_A ((((((((xW o u cI cZ cJ).set 13 ((u 12), .inr (5, ([.int 0, .ref (u 13), .ref (u 14), .ref (u 15), .ref (u 16), .ref (u 17), .ref (u 18)].set 0 (.int 1))))).set 14 ((u 13), .inl (cI, 110, .inl (upd (fun _ => 0) (0 : Int32).toNatClampNeg 0)))).set 15 ((u 14), .inl (cI, 110, .inl (upd (fun _ => 0) (0 : Int32).toNatClampNeg x2)))).set 16 ((u 15), .inl (cI, 110, .inl (upd (fun _ => 0) (0 : Int32).toNatClampNeg 0)))).set 17 ((u 16), .inl (cI, 110, .inl (upd (fun _ => 0) (0 : Int32).toNatClampNeg 0)))).set 18 ((u 17), .inl (cI, 110, .inl (upd (fun _ => 0) (0 : Int32).toNatClampNeg (-1))))).set 19 ((u 18), .inl (cI, 110, .inl (upd (fun _ => 0) (0 : Int32).toNatClampNeg (-1))))) sz)) 0 0 (va_A ((((((((xW o u cI cZ cJ).set 13 ((u 12), .inr (5, ([.int 0, .ref (u 13), .ref (u 14), .ref (u 15), .ref (u 16), .ref (u 17), .ref (u 18)].set 0 (.int 1))))).set 14 ((u 13), .inl (cI, 110, .inl (upd (fun _ => 0) (0 : Int32).toNatClampNeg 0)))).set 15 ((u 14), .inl (cI, 110, .inl (upd (fun _ => 0) (0 : Int32).toNatClampNeg x2)))).set 16 ((u 15), .inl (cI, 110, .inl (upd (fun _ => 0) (0 : Int32).toNatClampNeg 0)))).set 17 ((u 16), .inl (cI, 110, .inl (upd (fun _ => 0) (0 : Int32).toNatClampNeg 0)))).set 18 ((u 17), .inl (cI, 110, .inl (upd (fun _ => 0) (0 : Int32).toNatClampNeg (-1))))).set 19 ((u 18), .inl (cI, 110, .inl (upd (fun _ => 0) (0 : Int32).toNatClampNeg (-1))))) sz) := by
  refine aStart (lv := [(0, .ref (u 12)), (1, .int 0)]) (Qc := fun A => wQi ((-1)) D ((((((((xW o u cI cZ cJ).set 13 ((u 12), .inr (5, ([.int 0, .ref (u 13), .ref (u 14), .ref (u 15), .ref (u 16), .ref (u 17), .ref (u 18)].set 0 (.int 1))))).set 14 ((u 13), .inl (cI, 110, .inl (upd (fun _ => 0) (0 : Int32).toNatClampNeg 0)))).set 15 ((u 14), .inl (cI, 110, .inl (upd (fun _ => 0) (0 : Int32).toNatClampNeg x2)))).set 16 ((u 15), .inl (cI, 110, .inl (upd (fun _ => 0) (0 : Int32).toNatClampNeg 0)))).set 17 ((u 16), .inl (cI, 110, .inl (upd (fun _ => 0) (0 : Int32).toNatClampNeg 0)))).set 18 ((u 17), .inl (cI, 110, .inl (upd (fun _ => 0) (0 : Int32).toNatClampNeg (-1))))).set 19 ((u 18), .inl (cI, 110, .inl (upd (fun _ => 0) (0 : Int32).toNatClampNeg (-1))))) A) (by decide) (Nat.le_of_ble_eq_true rfl) rfl ?_
  intro p e s m args below meth c ls A H S hr hlocks hnm hl hK hP hD hS hA hB
  have hx := S.1
  have hb := S.2.1
  refine xgs S hB.z2 hS kw_3_222 rfl dX5_partC_0 ?_
  refine lv_aload_n hx hb dX5_partC_3 rfl (lv_at hl 0 rfl) ?_
  refine xg (ci := 5) S inX5 rfl hK hP (q0 := 13) rfl 1 (by decide) rfl kw_1_111 rfl dX5_partC_4 ?_
  refine lv_iload_n hx hb dX5_partC_7 rfl (lv_at hl 1 rfl) ?_
  refine xiald (t0 := 0) (v := 0) S hK hP (q0 := 14) rfl rfl (vin rfl) rfl dX5_partC_8 ?_
  refine xti (v := 0) S hB.t2 hS (vin rfl) rfl dX5_partC_9 ?_
  refine lv_iconst (v := 4) hx hb dX5_partC_10 (by decide) ?_
  refine lv_icmp_lt (tgt := 23) hx hb dX5_partC_11 (by decide) (fun _ => ?_) (fun c => absurd c (by decide))
  refine lv_iconst (v := (-1)) hx hb dX5_partC_23 (by decide) ?_
  exact wEnd S hr hlocks hP hD hS (Nat.le_of_ble_eq_true rfl) (Nat.le_of_ble_eq_true rfl) dX5_partC_24 rfl

set_option maxHeartbeats 8000000 in
set_option maxRecDepth 100000 in
theorem c_X5_add_0 (l : Launch) (D : va_G) (cI cZ cJ : ClassId) (o : Nat) (u : Nat → Nat) (ra ga : Nat → Nat) (sz : Nat) (x2 : Int32) (lo_x2 : (-999) ≤ x2) (hi_x2 : x2 ≤ 999) : Met l yX5_add (uW yX5_add cX5_add 6 (some .int)) ({ frames := 1, cells := 0, slots := 0, locals := 22 }) (va_Pc [.ref (u 12), .int 0, .int x2, .int 0, .int 0] (aS ra ga D (tyL cI cZ cJ) (xW o u cI cZ cJ) sz)) (wQi (0) D ((((((((xW o u cI cZ cJ).set 13 ((u 12), .inr (5, ([.int 0, .ref (u 13), .ref (u 14), .ref (u 15), .ref (u 16), .ref (u 17), .ref (u 18)].set 0 (.int 1))))).set 14 ((u 13), .inl (cI, 110, .inl (upd (fun _ => 0) (0 : Int32).toNatClampNeg 0)))).set 15 ((u 14), .inl (cI, 110, .inl (upd (fun _ => 0) (0 : Int32).toNatClampNeg x2)))).set 16 ((u 15), .inl (cI, 110, .inl (upd (fun _ => 0) (0 : Int32).toNatClampNeg 0)))).set 17 ((u 16), .inl (cI, 110, .inl (upd (fun _ => 0) (0 : Int32).toNatClampNeg 0)))).set 18 ((u 17), .inl (cI, 110, .inl (upd (fun _ => 0) (0 : Int32).toNatClampNeg (-1))))).set 19 ((u 18), .inl (cI, 110, .inl (upd (fun _ => 0) (0 : Int32).toNatClampNeg (-1))))) (va_A (xW o u cI cZ cJ) sz)) 0 0 (va_A (xW o u cI cZ cJ) sz) := by
  refine aStart (lv := [(0, .ref (u 12)), (1, .int 0), (2, .int x2), (3, .int 0), (4, .int 0)]) (Qc := fun A => wQi (0) D ((((((((xW o u cI cZ cJ).set 13 ((u 12), .inr (5, ([.int 0, .ref (u 13), .ref (u 14), .ref (u 15), .ref (u 16), .ref (u 17), .ref (u 18)].set 0 (.int 1))))).set 14 ((u 13), .inl (cI, 110, .inl (upd (fun _ => 0) (0 : Int32).toNatClampNeg 0)))).set 15 ((u 14), .inl (cI, 110, .inl (upd (fun _ => 0) (0 : Int32).toNatClampNeg x2)))).set 16 ((u 15), .inl (cI, 110, .inl (upd (fun _ => 0) (0 : Int32).toNatClampNeg 0)))).set 17 ((u 16), .inl (cI, 110, .inl (upd (fun _ => 0) (0 : Int32).toNatClampNeg 0)))).set 18 ((u 17), .inl (cI, 110, .inl (upd (fun _ => 0) (0 : Int32).toNatClampNeg (-1))))).set 19 ((u 18), .inl (cI, 110, .inl (upd (fun _ => 0) (0 : Int32).toNatClampNeg (-1))))) A) (by decide) (Nat.le_of_ble_eq_true rfl) rfl ?_
  intro p e s m args below meth c ls A H S hr hlocks hnm hl hK hP hD hS hA hB
  have hx := S.1
  have hb := S.2.1
  refine lv_aload_n hx hb dX5_add_0 rfl (lv_at hl 0 rfl) ?_
  refine xg (ci := 5) S inX5 rfl hK hP xW_13 0 (by decide) rfl kw_1_107 rfl dX5_add_1 ?_
  refine lv_istore (lv' := [(5, .int 0), (0, .ref (u 12)), (1, .int 0), (2, .int x2), (3, .int 0), (4, .int 0)]) hx hb dX5_add_4 hl (by decide) rfl (fun ls hl => ?_)
  refine lv_aload_n hx hb dX5_add_6 rfl (lv_at hl 1 rfl) ?_
  refine lv_dup hx hb dX5_add_7 rfl ?_
  refine xg (ci := 5) S inX5 rfl hK hP xW_13 0 (by decide) rfl kw_1_107 rfl dX5_add_8 ?_
  refine lv_iconst (v := 1) hx hb dX5_add_11 (by decide) ?_
  refine xiadd (v := 1) S dX5_add_12 (by decide) ?_
  refine xp (ci := 5) (v := .int 1) S inX5 tyX5 tyX5_ok nmX5 rfl hK hP hD hS xW_13 0 (by decide) kw_1_107 rfl rfl rfl rfl (Nat.le_of_ble_eq_true rfl) dX5_add_13 (fun H locs hP hD hS => ?_)
  have hP : va_P D vwCl ((xW o u cI cZ cJ).set 13 ((u 12), .inr (5, ([.int 0, .ref (u 13), .ref (u 14), .ref (u 15), .ref (u 16), .ref (u 17), .ref (u 18)].set 0 (.int 1))))) H := hP
  have hD : va_D A ((xW o u cI cZ cJ).set 13 ((u 12), .inr (5, ([.int 0, .ref (u 13), .ref (u 14), .ref (u 15), .ref (u 16), .ref (u 17), .ref (u 18)].set 0 (.int 1))))) := hD
  refine lv_aload_n hx hb dX5_add_16 rfl (lv_at hl 1 rfl) ?_
  refine xg (ci := 5) S inX5 rfl hK hP (q0 := 13) rfl 1 (by decide) rfl kw_1_111 rfl dX5_add_17 ?_
  refine lv_iload hx hb dX5_add_20 (lv_at hl 0 rfl) ?_
  refine lv_iload_n hx hb dX5_add_22 rfl (lv_at hl 2 rfl) ?_
  refine xiast (t0 := 0) S hK hP hD hS (q0 := 14) rfl rfl (vin rfl) dX5_add_23 (fun H locs hP hD hS => ?_)
  have hP : va_P D vwCl (((xW o u cI cZ cJ).set 13 ((u 12), .inr (5, ([.int 0, .ref (u 13), .ref (u 14), .ref (u 15), .ref (u 16), .ref (u 17), .ref (u 18)].set 0 (.int 1))))).set 14 ((u 13), .inl (cI, 110, .inl (upd (fun _ => 0) (0 : Int32).toNatClampNeg 0)))) H := hP
  have hD : va_D A (((xW o u cI cZ cJ).set 13 ((u 12), .inr (5, ([.int 0, .ref (u 13), .ref (u 14), .ref (u 15), .ref (u 16), .ref (u 17), .ref (u 18)].set 0 (.int 1))))).set 14 ((u 13), .inl (cI, 110, .inl (upd (fun _ => 0) (0 : Int32).toNatClampNeg 0)))) := hD
  refine lv_aload_n hx hb dX5_add_24 rfl (lv_at hl 1 rfl) ?_
  refine xg (ci := 5) S inX5 rfl hK hP (q0 := 13) rfl 2 (by decide) rfl kw_1_116 rfl dX5_add_25 ?_
  refine lv_iload hx hb dX5_add_28 (lv_at hl 0 rfl) ?_
  refine lv_iload_n hx hb dX5_add_30 rfl (lv_at hl 3 rfl) ?_
  refine xiast (t0 := 0) S hK hP hD hS (q0 := 15) rfl rfl (vin rfl) dX5_add_31 (fun H locs hP hD hS => ?_)
  have hP : va_P D vwCl ((((xW o u cI cZ cJ).set 13 ((u 12), .inr (5, ([.int 0, .ref (u 13), .ref (u 14), .ref (u 15), .ref (u 16), .ref (u 17), .ref (u 18)].set 0 (.int 1))))).set 14 ((u 13), .inl (cI, 110, .inl (upd (fun _ => 0) (0 : Int32).toNatClampNeg 0)))).set 15 ((u 14), .inl (cI, 110, .inl (upd (fun _ => 0) (0 : Int32).toNatClampNeg x2)))) H := hP
  have hD : va_D A ((((xW o u cI cZ cJ).set 13 ((u 12), .inr (5, ([.int 0, .ref (u 13), .ref (u 14), .ref (u 15), .ref (u 16), .ref (u 17), .ref (u 18)].set 0 (.int 1))))).set 14 ((u 13), .inl (cI, 110, .inl (upd (fun _ => 0) (0 : Int32).toNatClampNeg 0)))).set 15 ((u 14), .inl (cI, 110, .inl (upd (fun _ => 0) (0 : Int32).toNatClampNeg x2)))) := hD
  refine lv_aload_n hx hb dX5_add_32 rfl (lv_at hl 1 rfl) ?_
  refine xg (ci := 5) S inX5 rfl hK hP (q0 := 13) rfl 3 (by decide) rfl kw_1_120 rfl dX5_add_33 ?_
  refine lv_iload hx hb dX5_add_36 (lv_at hl 0 rfl) ?_
  refine lv_iload_n hx hb dX5_add_38 rfl (lv_at hl 4 rfl) ?_
  refine xiast (t0 := 0) S hK hP hD hS (q0 := 16) rfl rfl (vin rfl) dX5_add_39 (fun H locs hP hD hS => ?_)
  have hP : va_P D vwCl (((((xW o u cI cZ cJ).set 13 ((u 12), .inr (5, ([.int 0, .ref (u 13), .ref (u 14), .ref (u 15), .ref (u 16), .ref (u 17), .ref (u 18)].set 0 (.int 1))))).set 14 ((u 13), .inl (cI, 110, .inl (upd (fun _ => 0) (0 : Int32).toNatClampNeg 0)))).set 15 ((u 14), .inl (cI, 110, .inl (upd (fun _ => 0) (0 : Int32).toNatClampNeg x2)))).set 16 ((u 15), .inl (cI, 110, .inl (upd (fun _ => 0) (0 : Int32).toNatClampNeg 0)))) H := hP
  have hD : va_D A (((((xW o u cI cZ cJ).set 13 ((u 12), .inr (5, ([.int 0, .ref (u 13), .ref (u 14), .ref (u 15), .ref (u 16), .ref (u 17), .ref (u 18)].set 0 (.int 1))))).set 14 ((u 13), .inl (cI, 110, .inl (upd (fun _ => 0) (0 : Int32).toNatClampNeg 0)))).set 15 ((u 14), .inl (cI, 110, .inl (upd (fun _ => 0) (0 : Int32).toNatClampNeg x2)))).set 16 ((u 15), .inl (cI, 110, .inl (upd (fun _ => 0) (0 : Int32).toNatClampNeg 0)))) := hD
  refine lv_aload_n hx hb dX5_add_40 rfl (lv_at hl 1 rfl) ?_
  refine xg (ci := 5) S inX5 rfl hK hP (q0 := 13) rfl 4 (by decide) rfl kw_1_125 rfl dX5_add_41 ?_
  refine lv_iload hx hb dX5_add_44 (lv_at hl 0 rfl) ?_
  refine lv_iload hx hb dX5_add_46 (lv_at hl 5 rfl) ?_
  refine xiast (t0 := 0) S hK hP hD hS (q0 := 17) rfl rfl (vin rfl) dX5_add_48 (fun H locs hP hD hS => ?_)
  have hP : va_P D vwCl ((((((xW o u cI cZ cJ).set 13 ((u 12), .inr (5, ([.int 0, .ref (u 13), .ref (u 14), .ref (u 15), .ref (u 16), .ref (u 17), .ref (u 18)].set 0 (.int 1))))).set 14 ((u 13), .inl (cI, 110, .inl (upd (fun _ => 0) (0 : Int32).toNatClampNeg 0)))).set 15 ((u 14), .inl (cI, 110, .inl (upd (fun _ => 0) (0 : Int32).toNatClampNeg x2)))).set 16 ((u 15), .inl (cI, 110, .inl (upd (fun _ => 0) (0 : Int32).toNatClampNeg 0)))).set 17 ((u 16), .inl (cI, 110, .inl (upd (fun _ => 0) (0 : Int32).toNatClampNeg 0)))) H := hP
  have hD : va_D A ((((((xW o u cI cZ cJ).set 13 ((u 12), .inr (5, ([.int 0, .ref (u 13), .ref (u 14), .ref (u 15), .ref (u 16), .ref (u 17), .ref (u 18)].set 0 (.int 1))))).set 14 ((u 13), .inl (cI, 110, .inl (upd (fun _ => 0) (0 : Int32).toNatClampNeg 0)))).set 15 ((u 14), .inl (cI, 110, .inl (upd (fun _ => 0) (0 : Int32).toNatClampNeg x2)))).set 16 ((u 15), .inl (cI, 110, .inl (upd (fun _ => 0) (0 : Int32).toNatClampNeg 0)))).set 17 ((u 16), .inl (cI, 110, .inl (upd (fun _ => 0) (0 : Int32).toNatClampNeg 0)))) := hD
  refine lv_aload_n hx hb dX5_add_49 rfl (lv_at hl 1 rfl) ?_
  refine xg (ci := 5) S inX5 rfl hK hP (q0 := 13) rfl 5 (by decide) rfl kw_1_130 rfl dX5_add_50 ?_
  refine lv_iload hx hb dX5_add_53 (lv_at hl 0 rfl) ?_
  refine lv_iconst (v := (-1)) hx hb dX5_add_55 (by decide) ?_
  refine xiast (t0 := 0) S hK hP hD hS (q0 := 18) rfl rfl (vin rfl) dX5_add_56 (fun H locs hP hD hS => ?_)
  have hP : va_P D vwCl (((((((xW o u cI cZ cJ).set 13 ((u 12), .inr (5, ([.int 0, .ref (u 13), .ref (u 14), .ref (u 15), .ref (u 16), .ref (u 17), .ref (u 18)].set 0 (.int 1))))).set 14 ((u 13), .inl (cI, 110, .inl (upd (fun _ => 0) (0 : Int32).toNatClampNeg 0)))).set 15 ((u 14), .inl (cI, 110, .inl (upd (fun _ => 0) (0 : Int32).toNatClampNeg x2)))).set 16 ((u 15), .inl (cI, 110, .inl (upd (fun _ => 0) (0 : Int32).toNatClampNeg 0)))).set 17 ((u 16), .inl (cI, 110, .inl (upd (fun _ => 0) (0 : Int32).toNatClampNeg 0)))).set 18 ((u 17), .inl (cI, 110, .inl (upd (fun _ => 0) (0 : Int32).toNatClampNeg (-1))))) H := hP
  have hD : va_D A (((((((xW o u cI cZ cJ).set 13 ((u 12), .inr (5, ([.int 0, .ref (u 13), .ref (u 14), .ref (u 15), .ref (u 16), .ref (u 17), .ref (u 18)].set 0 (.int 1))))).set 14 ((u 13), .inl (cI, 110, .inl (upd (fun _ => 0) (0 : Int32).toNatClampNeg 0)))).set 15 ((u 14), .inl (cI, 110, .inl (upd (fun _ => 0) (0 : Int32).toNatClampNeg x2)))).set 16 ((u 15), .inl (cI, 110, .inl (upd (fun _ => 0) (0 : Int32).toNatClampNeg 0)))).set 17 ((u 16), .inl (cI, 110, .inl (upd (fun _ => 0) (0 : Int32).toNatClampNeg 0)))).set 18 ((u 17), .inl (cI, 110, .inl (upd (fun _ => 0) (0 : Int32).toNatClampNeg (-1))))) := hD
  refine lv_aload_n hx hb dX5_add_57 rfl (lv_at hl 1 rfl) ?_
  refine xg (ci := 5) S inX5 rfl hK hP (q0 := 13) rfl 6 (by decide) rfl kw_1_134 rfl dX5_add_58 ?_
  refine lv_iload hx hb dX5_add_61 (lv_at hl 0 rfl) ?_
  refine lv_iconst (v := (-1)) hx hb dX5_add_63 (by decide) ?_
  refine xiast (t0 := 0) S hK hP hD hS (q0 := 19) rfl rfl (vin rfl) dX5_add_64 (fun H locs hP hD hS => ?_)
  have hP : va_P D vwCl ((((((((xW o u cI cZ cJ).set 13 ((u 12), .inr (5, ([.int 0, .ref (u 13), .ref (u 14), .ref (u 15), .ref (u 16), .ref (u 17), .ref (u 18)].set 0 (.int 1))))).set 14 ((u 13), .inl (cI, 110, .inl (upd (fun _ => 0) (0 : Int32).toNatClampNeg 0)))).set 15 ((u 14), .inl (cI, 110, .inl (upd (fun _ => 0) (0 : Int32).toNatClampNeg x2)))).set 16 ((u 15), .inl (cI, 110, .inl (upd (fun _ => 0) (0 : Int32).toNatClampNeg 0)))).set 17 ((u 16), .inl (cI, 110, .inl (upd (fun _ => 0) (0 : Int32).toNatClampNeg 0)))).set 18 ((u 17), .inl (cI, 110, .inl (upd (fun _ => 0) (0 : Int32).toNatClampNeg (-1))))).set 19 ((u 18), .inl (cI, 110, .inl (upd (fun _ => 0) (0 : Int32).toNatClampNeg (-1))))) H := hP
  have hD : va_D A ((((((((xW o u cI cZ cJ).set 13 ((u 12), .inr (5, ([.int 0, .ref (u 13), .ref (u 14), .ref (u 15), .ref (u 16), .ref (u 17), .ref (u 18)].set 0 (.int 1))))).set 14 ((u 13), .inl (cI, 110, .inl (upd (fun _ => 0) (0 : Int32).toNatClampNeg 0)))).set 15 ((u 14), .inl (cI, 110, .inl (upd (fun _ => 0) (0 : Int32).toNatClampNeg x2)))).set 16 ((u 15), .inl (cI, 110, .inl (upd (fun _ => 0) (0 : Int32).toNatClampNeg 0)))).set 17 ((u 16), .inl (cI, 110, .inl (upd (fun _ => 0) (0 : Int32).toNatClampNeg 0)))).set 18 ((u 17), .inl (cI, 110, .inl (upd (fun _ => 0) (0 : Int32).toNatClampNeg (-1))))).set 19 ((u 18), .inl (cI, 110, .inl (upd (fun _ => 0) (0 : Int32).toNatClampNeg (-1))))) := hD
  refine lv_aload_n hx hb dX5_add_65 rfl (lv_at hl 1 rfl) ?_
  refine lv_aload_n hx hb dX5_add_66 rfl (lv_at hl 1 rfl) ?_
  refine lv_iload hx hb dX5_add_67 (lv_at hl 0 rfl) ?_
  refine aVi (As := [.int 0]) (ci := 5) S (c_X5_partA_0 l D cI cZ cJ o u ra ga H.size x2 lo_x2 hi_x2) mi_X5_partA kw_6_57 rfl rfl ⟨Nat.le_of_ble_eq_true rfl, Nat.le_of_ble_eq_true rfl⟩ hP hD hK hS hA hB (k := 13) rfl rfl rfl hl.1 (Nat.le_of_ble_eq_true rfl) ⟨Nat.le_of_ble_eq_true rfl, Nat.le_of_ble_eq_true rfl⟩ dX5_add_69 (fun H locs hz hP hD hS => ?_)
  refine lv_iload hx hb dX5_add_72 (lv_at hl 0 rfl) ?_
  refine aVv (As := [.int (-1), .int 0]) (ci := 5) S (c_X5_claim_0 l D cI cZ cJ o u ra ga H.size x2 lo_x2 hi_x2) mi_X5_claim kw_6_58 rfl rfl ⟨Nat.le_of_ble_eq_true rfl, Nat.le_of_ble_eq_true rfl⟩ hP hD hK hS hA hB (k := 13) rfl rfl rfl hl.1 (Nat.le_of_ble_eq_true rfl) ⟨Nat.le_of_ble_eq_true rfl, Nat.le_of_ble_eq_true rfl⟩ dX5_add_74 (fun H locs hz hP hD hS => ?_)
  refine lv_aload_n hx hb dX5_add_77 rfl (lv_at hl 1 rfl) ?_
  refine lv_aload_n hx hb dX5_add_78 rfl (lv_at hl 1 rfl) ?_
  refine lv_iload hx hb dX5_add_79 (lv_at hl 0 rfl) ?_
  refine aVi (As := [.int 0]) (ci := 5) S (c_X5_partB_0 l D cI cZ cJ o u ra ga H.size x2 lo_x2 hi_x2) mi_X5_partB kw_6_62 rfl rfl ⟨Nat.le_of_ble_eq_true rfl, Nat.le_of_ble_eq_true rfl⟩ hP hD hK hS hA hB (k := 13) rfl rfl rfl hl.1 (Nat.le_of_ble_eq_true rfl) ⟨Nat.le_of_ble_eq_true rfl, Nat.le_of_ble_eq_true rfl⟩ dX5_add_81 (fun H locs hz hP hD hS => ?_)
  refine lv_iload hx hb dX5_add_84 (lv_at hl 0 rfl) ?_
  refine aVv (As := [.int (-1), .int 0]) (ci := 5) S (c_X5_claim_0 l D cI cZ cJ o u ra ga H.size x2 lo_x2 hi_x2) mi_X5_claim kw_6_58 rfl rfl ⟨Nat.le_of_ble_eq_true rfl, Nat.le_of_ble_eq_true rfl⟩ hP hD hK hS hA hB (k := 13) rfl rfl rfl hl.1 (Nat.le_of_ble_eq_true rfl) ⟨Nat.le_of_ble_eq_true rfl, Nat.le_of_ble_eq_true rfl⟩ dX5_add_86 (fun H locs hz hP hD hS => ?_)
  refine lv_aload_n hx hb dX5_add_89 rfl (lv_at hl 1 rfl) ?_
  refine lv_aload_n hx hb dX5_add_90 rfl (lv_at hl 1 rfl) ?_
  refine lv_iload hx hb dX5_add_91 (lv_at hl 0 rfl) ?_
  refine aVi (As := [.int 0]) (ci := 5) S (c_X5_partC_0 l D cI cZ cJ o u ra ga H.size x2 lo_x2 hi_x2) mi_X5_partC kw_6_63 rfl rfl ⟨Nat.le_of_ble_eq_true rfl, Nat.le_of_ble_eq_true rfl⟩ hP hD hK hS hA hB (k := 13) rfl rfl rfl hl.1 (Nat.le_of_ble_eq_true rfl) ⟨Nat.le_of_ble_eq_true rfl, Nat.le_of_ble_eq_true rfl⟩ dX5_add_93 (fun H locs hz hP hD hS => ?_)
  refine lv_iload hx hb dX5_add_96 (lv_at hl 0 rfl) ?_
  refine aVv (As := [.int (-1), .int 0]) (ci := 5) S (c_X5_claim_0 l D cI cZ cJ o u ra ga H.size x2 lo_x2 hi_x2) mi_X5_claim kw_6_58 rfl rfl ⟨Nat.le_of_ble_eq_true rfl, Nat.le_of_ble_eq_true rfl⟩ hP hD hK hS hA hB (k := 13) rfl rfl rfl hl.1 (Nat.le_of_ble_eq_true rfl) ⟨Nat.le_of_ble_eq_true rfl, Nat.le_of_ble_eq_true rfl⟩ dX5_add_98 (fun H locs hz hP hD hS => ?_)
  refine lv_iload hx hb dX5_add_101 (lv_at hl 0 rfl) ?_
  exact wEnd S hr hlocks hP hD hS (Nat.le_of_ble_eq_true rfl) (Nat.le_of_ble_eq_true rfl) dX5_add_103 rfl

set_option maxHeartbeats 8000000 in
set_option maxRecDepth 100000 in
theorem c_X8_node_0 (l : Launch) (D : va_G) (cI cZ cJ : ClassId) (o : Nat) (u : Nat → Nat) (hst : l.stackTraces = false) (ra ga : Nat → Nat) (sz : Nat) (x2 : Int32) (x3 : Int32) (x4 : Int32) (hi_x2 : x2 ≤ (-1000)) : vx_Met l yX8_node (uW yX8_node cX8_node 5 (some .int)) ({ frames := 7, cells := 1, slots := 6, locals := 102 }) (va_Pc [.ref o, .int 0, .int x2, .int x3, .int x4] (aS ra ga D (tyL cI cZ cJ) (xW o u cI cZ cJ) sz)) (nQi (va_A (xW o u cI cZ cJ) sz)) (wX "java/lang/IllegalArgumentException" D (xW o u cI cZ cJ) (va_A (xW o u cI cZ cJ) sz)) 1 6 (va_A (xW o u cI cZ cJ) sz) := by
  refine xStart (lv := [(0, .ref o), (1, .int 0), (2, .int x2), (3, .int x3), (4, .int x4)]) (Qc := fun A => nQi A) (XC := fun A => wX "java/lang/IllegalArgumentException" D (xW o u cI cZ cJ) A) (by decide) (Nat.le_of_ble_eq_true rfl) rfl ?_
  intro p e s m args below meth c ls A H S hr hlocks hnm hl hK hP hD hS hA hB hnt
  have hx := S.1
  have hb := S.2.1
  refine lv_aload_n hx hb dX8_node_0 rfl (lv_at hl 0 rfl) ?_
  refine xg (ci := 8) S inX8 rfl hK hP xW_0 1 (by decide) rfl kw_3_21 rfl dX8_node_1 ?_
  refine lv_iload_n hx hb dX8_node_4 rfl (lv_at hl 1 rfl) ?_
  refine lv_iload_n hx hb dX8_node_5 rfl (lv_at hl 2 rfl) ?_
  refine lv_iload_n hx hb dX8_node_6 rfl (lv_at hl 3 rfl) ?_
  refine lv_iload hx hb dX8_node_7 (lv_at hl 4 rfl) ?_
  refine aVi (As := [.int 0, .int x2, .int x3, .int x4]) (ci := 5) S (c_X5_suits_0 l D cI cZ cJ o u ra ga H.size x2 x3 x4 hi_x2) mi_X5_suits kw_6_27 rfl rfl ⟨Nat.le_of_ble_eq_true rfl, Nat.le_of_ble_eq_true rfl⟩ hP hD hK hS hA hB xW_13 rfl rfl hl.1 (Nat.le_of_ble_eq_true rfl) ⟨Nat.le_of_ble_eq_true rfl, Nat.le_of_ble_eq_true rfl⟩ dX8_node_9 (fun H locs hz hP hD hS => ?_)
  exact tSv (As := [.int 0]) S (c_X8_needArgument_0 l D cI cZ cJ o u hst ra ga H.size) ms_X8_needArgument kw_4_4 rfl rfl ⟨Nat.le_of_ble_eq_true rfl, Nat.le_of_ble_eq_true rfl⟩ hP hD hK hS hA hB hl.1 (Nat.le_of_ble_eq_true rfl) ⟨Nat.le_of_ble_eq_true rfl, Nat.le_of_ble_eq_true rfl⟩ dX8_node_12 hnt hlocks (Nat.le_of_ble_eq_true rfl) (Nat.le_of_ble_eq_true rfl)

set_option maxHeartbeats 8000000 in
set_option maxRecDepth 100000 in
theorem c_X8_node_1 (l : Launch) (D : va_G) (cI cZ cJ : ClassId) (o : Nat) (u : Nat → Nat) (hst : l.stackTraces = false) (ra ga : Nat → Nat) (sz : Nat) (x2 : Int32) (x3 : Int32) (x4 : Int32) (lo_x2 : 1000 ≤ x2) : vx_Met l yX8_node (uW yX8_node cX8_node 5 (some .int)) ({ frames := 7, cells := 1, slots := 6, locals := 102 }) (va_Pc [.ref o, .int 0, .int x2, .int x3, .int x4] (aS ra ga D (tyL cI cZ cJ) (xW o u cI cZ cJ) sz)) (nQi (va_A (xW o u cI cZ cJ) sz)) (wX "java/lang/IllegalArgumentException" D (xW o u cI cZ cJ) (va_A (xW o u cI cZ cJ) sz)) 1 6 (va_A (xW o u cI cZ cJ) sz) := by
  refine xStart (lv := [(0, .ref o), (1, .int 0), (2, .int x2), (3, .int x3), (4, .int x4)]) (Qc := fun A => nQi A) (XC := fun A => wX "java/lang/IllegalArgumentException" D (xW o u cI cZ cJ) A) (by decide) (Nat.le_of_ble_eq_true rfl) rfl ?_
  intro p e s m args below meth c ls A H S hr hlocks hnm hl hK hP hD hS hA hB hnt
  have hx := S.1
  have hb := S.2.1
  refine lv_aload_n hx hb dX8_node_0 rfl (lv_at hl 0 rfl) ?_
  refine xg (ci := 8) S inX8 rfl hK hP xW_0 1 (by decide) rfl kw_3_21 rfl dX8_node_1 ?_
  refine lv_iload_n hx hb dX8_node_4 rfl (lv_at hl 1 rfl) ?_
  refine lv_iload_n hx hb dX8_node_5 rfl (lv_at hl 2 rfl) ?_
  refine lv_iload_n hx hb dX8_node_6 rfl (lv_at hl 3 rfl) ?_
  refine lv_iload hx hb dX8_node_7 (lv_at hl 4 rfl) ?_
  refine aVi (As := [.int 0, .int x2, .int x3, .int x4]) (ci := 5) S (c_X5_suits_1 l D cI cZ cJ o u ra ga H.size x2 x3 x4 lo_x2) mi_X5_suits kw_6_27 rfl rfl ⟨Nat.le_of_ble_eq_true rfl, Nat.le_of_ble_eq_true rfl⟩ hP hD hK hS hA hB xW_13 rfl rfl hl.1 (Nat.le_of_ble_eq_true rfl) ⟨Nat.le_of_ble_eq_true rfl, Nat.le_of_ble_eq_true rfl⟩ dX8_node_9 (fun H locs hz hP hD hS => ?_)
  exact tSv (As := [.int 0]) S (c_X8_needArgument_0 l D cI cZ cJ o u hst ra ga H.size) ms_X8_needArgument kw_4_4 rfl rfl ⟨Nat.le_of_ble_eq_true rfl, Nat.le_of_ble_eq_true rfl⟩ hP hD hK hS hA hB hl.1 (Nat.le_of_ble_eq_true rfl) ⟨Nat.le_of_ble_eq_true rfl, Nat.le_of_ble_eq_true rfl⟩ dX8_node_12 hnt hlocks (Nat.le_of_ble_eq_true rfl) (Nat.le_of_ble_eq_true rfl)

set_option maxHeartbeats 8000000 in
set_option maxRecDepth 100000 in
theorem c_X5_suits_3 (l : Launch) (D : va_G) (cI cZ cJ : ClassId) (o : Nat) (u : Nat → Nat) (ra ga : Nat → Nat) (sz : Nat) (x2 : Int32) (x4 : Int32) (lo_x2 : (-999) ≤ x2) (hi_x2 : x2 ≤ 999) (ne_x4_0 : ¬ x4 = 0) : Met l yX5_suits (uW yX5_suits cX5_suits 5 (some .boolean)) ({ frames := 1, cells := 0, slots := 0, locals := 22 }) (va_Pc [.ref (u 12), .int 0, .int x2, .int 0, .int x4] (aS ra ga D (tyL cI cZ cJ) (xW o u cI cZ cJ) sz)) (wQi (0) D (xW o u cI cZ cJ) (va_A (xW o u cI cZ cJ) sz)) 0 0 (va_A (xW o u cI cZ cJ) sz) := by
  refine aStart (lv := [(0, .ref (u 12)), (1, .int 0), (2, .int x2), (3, .int 0), (4, .int x4)]) (Qc := fun A => wQi (0) D (xW o u cI cZ cJ) A) (by decide) (Nat.le_of_ble_eq_true rfl) rfl ?_
  intro p e s m args below meth c ls A H S hr hlocks hnm hl hK hP hD hS hA hB
  have hx := S.1
  have hb := S.2.1
  refine lv_iload_n hx hb dX5_suits_0 rfl (lv_at hl 1 rfl) ?_
  refine lv_if_lt (tgt := 10) hx hb dX5_suits_1 (by decide) (fun c => absurd c (by decide)) (fun _ => ?_)
  refine lv_iload_n hx hb dX5_suits_4 rfl (lv_at hl 1 rfl) ?_
  refine lv_bipush (v := 21) hx hb dX5_suits_5 (by decide) ?_
  refine lv_icmp_le (tgt := 12) hx hb dX5_suits_7 (by decide) (fun _ => ?_) (fun c => absurd c (by decide))
  refine lv_aload_n hx hb dX5_suits_12 rfl (lv_at hl 0 rfl) ?_
  refine xgs S hB.z0 hS kw_3_91 rfl dX5_suits_13 ?_
  refine lv_iload_n hx hb dX5_suits_16 rfl (lv_at hl 1 rfl) ?_
  refine xti (v := 1) S hB.t0 hS (vin rfl) rfl dX5_suits_17 ?_
  refine lv_iload_n hx hb dX5_suits_18 rfl (lv_at hl 2 rfl) ?_
  refine rdV (As := [.int 1, .int x2]) (ci := 5) S (c_X5_fills_2 l D cI cZ cJ o u x2 lo_x2 hi_x2) mi_X5_fills kw_6_31 ⟨rfl, rfl⟩ ⟨Nat.le_of_ble_eq_true rfl, Nat.le_of_ble_eq_true rfl⟩ hP hK xW_13 rfl rfl hl.1 (Nat.le_of_ble_eq_true rfl) ⟨Nat.le_of_ble_eq_true rfl, Nat.le_of_ble_eq_true rfl⟩ dX5_suits_19 ?_
  refine lv_if_eq (tgt := 112) hx hb dX5_suits_22 (by decide) (fun c => absurd c (by decide)) (fun _ => ?_)
  refine lv_aload_n hx hb dX5_suits_25 rfl (lv_at hl 0 rfl) ?_
  refine xgs S hB.z1 hS kw_3_228 rfl dX5_suits_26 ?_
  refine lv_iload_n hx hb dX5_suits_29 rfl (lv_at hl 1 rfl) ?_
  refine xti (v := 0) S hB.t1 hS (vin rfl) rfl dX5_suits_30 ?_
  refine lv_iload_n hx hb dX5_suits_31 rfl (lv_at hl 3 rfl) ?_
  refine rdV (As := [.int 0, .int 0]) (ci := 5) S (c_X5_fills_3 l D cI cZ cJ o u) mi_X5_fills kw_6_31 ⟨rfl, rfl⟩ ⟨Nat.le_of_ble_eq_true rfl, Nat.le_of_ble_eq_true rfl⟩ hP hK xW_13 rfl rfl hl.1 (Nat.le_of_ble_eq_true rfl) ⟨Nat.le_of_ble_eq_true rfl, Nat.le_of_ble_eq_true rfl⟩ dX5_suits_32 ?_
  refine lv_if_eq (tgt := 112) hx hb dX5_suits_35 (by decide) (fun c => absurd c (by decide)) (fun _ => ?_)
  refine lv_aload_n hx hb dX5_suits_38 rfl (lv_at hl 0 rfl) ?_
  refine xgs S hB.z2 hS kw_3_222 rfl dX5_suits_39 ?_
  refine lv_iload_n hx hb dX5_suits_42 rfl (lv_at hl 1 rfl) ?_
  refine xti (v := 0) S hB.t2 hS (vin rfl) rfl dX5_suits_43 ?_
  refine lv_iload hx hb dX5_suits_44 (lv_at hl 4 rfl) ?_
  refine rdV (As := [.int 0, .int x4]) (ci := 5) S (c_X5_fills_4 l D cI cZ cJ o u x4 ne_x4_0) mi_X5_fills kw_6_31 ⟨rfl, rfl⟩ ⟨Nat.le_of_ble_eq_true rfl, Nat.le_of_ble_eq_true rfl⟩ hP hK xW_13 rfl rfl hl.1 (Nat.le_of_ble_eq_true rfl) ⟨Nat.le_of_ble_eq_true rfl, Nat.le_of_ble_eq_true rfl⟩ dX5_suits_46 ?_
  refine lv_if_eq (tgt := 112) hx hb dX5_suits_49 (by decide) (fun _ => ?_) (fun c => absurd c (by decide))
  refine lv_iconst (v := 0) hx hb dX5_suits_112 (by decide) ?_
  exact wEndZ S hr hlocks hP hD hS (Nat.le_of_ble_eq_true rfl) (Nat.le_of_ble_eq_true rfl) dX5_suits_113 rfl rfl

set_option maxHeartbeats 8000000 in
set_option maxRecDepth 100000 in
theorem c_X8_node_2 (l : Launch) (D : va_G) (cI cZ cJ : ClassId) (o : Nat) (u : Nat → Nat) (ra ga : Nat → Nat) (sz : Nat) (x2 : Int32) (lo_x2 : (-999) ≤ x2) (hi_x2 : x2 ≤ 999) : Met l yX8_node (uW yX8_node cX8_node 5 (some .int)) ({ frames := 2, cells := 0, slots := 0, locals := 47 }) (va_Pc [.ref o, .int 0, .int x2, .int 0, .int 0] (aS ra ga D (tyL cI cZ cJ) (xW o u cI cZ cJ) sz)) (wQi (0) D ((((((((xW o u cI cZ cJ).set 13 ((u 12), .inr (5, ([.int 0, .ref (u 13), .ref (u 14), .ref (u 15), .ref (u 16), .ref (u 17), .ref (u 18)].set 0 (.int 1))))).set 14 ((u 13), .inl (cI, 110, .inl (upd (fun _ => 0) (0 : Int32).toNatClampNeg 0)))).set 15 ((u 14), .inl (cI, 110, .inl (upd (fun _ => 0) (0 : Int32).toNatClampNeg x2)))).set 16 ((u 15), .inl (cI, 110, .inl (upd (fun _ => 0) (0 : Int32).toNatClampNeg 0)))).set 17 ((u 16), .inl (cI, 110, .inl (upd (fun _ => 0) (0 : Int32).toNatClampNeg 0)))).set 18 ((u 17), .inl (cI, 110, .inl (upd (fun _ => 0) (0 : Int32).toNatClampNeg (-1))))).set 19 ((u 18), .inl (cI, 110, .inl (upd (fun _ => 0) (0 : Int32).toNatClampNeg (-1))))) (va_A (xW o u cI cZ cJ) sz)) 0 0 (va_A (xW o u cI cZ cJ) sz) := by
  refine aStart (lv := [(0, .ref o), (1, .int 0), (2, .int x2), (3, .int 0), (4, .int 0)]) (Qc := fun A => wQi (0) D ((((((((xW o u cI cZ cJ).set 13 ((u 12), .inr (5, ([.int 0, .ref (u 13), .ref (u 14), .ref (u 15), .ref (u 16), .ref (u 17), .ref (u 18)].set 0 (.int 1))))).set 14 ((u 13), .inl (cI, 110, .inl (upd (fun _ => 0) (0 : Int32).toNatClampNeg 0)))).set 15 ((u 14), .inl (cI, 110, .inl (upd (fun _ => 0) (0 : Int32).toNatClampNeg x2)))).set 16 ((u 15), .inl (cI, 110, .inl (upd (fun _ => 0) (0 : Int32).toNatClampNeg 0)))).set 17 ((u 16), .inl (cI, 110, .inl (upd (fun _ => 0) (0 : Int32).toNatClampNeg 0)))).set 18 ((u 17), .inl (cI, 110, .inl (upd (fun _ => 0) (0 : Int32).toNatClampNeg (-1))))).set 19 ((u 18), .inl (cI, 110, .inl (upd (fun _ => 0) (0 : Int32).toNatClampNeg (-1))))) A) (by decide) (Nat.le_of_ble_eq_true rfl) rfl ?_
  intro p e s m args below meth c ls A H S hr hlocks hnm hl hK hP hD hS hA hB
  have hx := S.1
  have hb := S.2.1
  refine lv_aload_n hx hb dX8_node_0 rfl (lv_at hl 0 rfl) ?_
  refine xg (ci := 8) S inX8 rfl hK hP xW_0 1 (by decide) rfl kw_3_21 rfl dX8_node_1 ?_
  refine lv_iload_n hx hb dX8_node_4 rfl (lv_at hl 1 rfl) ?_
  refine lv_iload_n hx hb dX8_node_5 rfl (lv_at hl 2 rfl) ?_
  refine lv_iload_n hx hb dX8_node_6 rfl (lv_at hl 3 rfl) ?_
  refine lv_iload hx hb dX8_node_7 (lv_at hl 4 rfl) ?_
  refine aVi (As := [.int 0, .int x2, .int 0, .int 0]) (ci := 5) S (c_X5_suits_2 l D cI cZ cJ o u ra ga H.size x2 lo_x2 hi_x2) mi_X5_suits kw_6_27 rfl rfl ⟨Nat.le_of_ble_eq_true rfl, Nat.le_of_ble_eq_true rfl⟩ hP hD hK hS hA hB xW_13 rfl rfl hl.1 (Nat.le_of_ble_eq_true rfl) ⟨Nat.le_of_ble_eq_true rfl, Nat.le_of_ble_eq_true rfl⟩ dX8_node_9 (fun H locs hz hP hD hS => ?_)
  refine aSv (As := [.int 1]) S (c_X8_needArgument_1 l D cI cZ cJ o u ra ga H.size) ms_X8_needArgument kw_4_4 rfl rfl ⟨Nat.le_of_ble_eq_true rfl, Nat.le_of_ble_eq_true rfl⟩ hP hD hK hS hA hB hl.1 (Nat.le_of_ble_eq_true rfl) ⟨Nat.le_of_ble_eq_true rfl, Nat.le_of_ble_eq_true rfl⟩ dX8_node_12 (fun H locs hz hP hD hS => ?_)
  refine lv_aload_n hx hb dX8_node_15 rfl (lv_at hl 0 rfl) ?_
  refine xg (ci := 8) S inX8 rfl hK hP xW_0 1 (by decide) rfl kw_3_21 rfl dX8_node_16 ?_
  refine xg (ci := 5) S inX5 rfl hK hP xW_13 0 (by decide) rfl kw_1_110 rfl dX8_node_19 ?_
  refine lv_bipush (v := 110) hx hb dX8_node_22 (by decide) ?_
  refine lv_icmp_ge (tgt := 31) hx hb dX8_node_24 (by decide) (fun c => absurd c (by decide)) (fun _ => ?_)
  refine lv_iconst (v := 1) hx hb dX8_node_27 (by decide) ?_
  refine lv_goto (tgt := 32) hx hb dX8_node_28 (by decide) ?_
  refine aSv (As := [.int 1]) S (c_X8_needState_0 l D cI cZ cJ o u ra ga H.size) ms_X8_needState kw_5_183 rfl rfl ⟨Nat.le_of_ble_eq_true rfl, Nat.le_of_ble_eq_true rfl⟩ hP hD hK hS hA hB hl.1 (Nat.le_of_ble_eq_true rfl) ⟨Nat.le_of_ble_eq_true rfl, Nat.le_of_ble_eq_true rfl⟩ dX8_node_32 (fun H locs hz hP hD hS => ?_)
  refine lv_aload_n hx hb dX8_node_35 rfl (lv_at hl 0 rfl) ?_
  refine lv_iconst (v := 1) hx hb dX8_node_36 (by decide) ?_
  refine xp (ci := 8) (v := .int 1) S inX8 tyX8 tyX8_ok nmX8 rfl hK hP hD hS xW_0 9 (by decide) kw_3_29 rfl rfl rfl rfl (Nat.le_of_ble_eq_true rfl) dX8_node_37 (fun H locs hP hD hS => ?_)
  have hP : va_P D vwCl (xW o u cI cZ cJ) H := hP
  have hD : va_D A (xW o u cI cZ cJ) := hD
  refine lv_aload_n hx hb dX8_node_40 rfl (lv_at hl 0 rfl) ?_
  refine xg (ci := 8) S inX8 rfl hK hP xW_0 1 (by decide) rfl kw_3_21 rfl dX8_node_41 ?_
  refine lv_iload_n hx hb dX8_node_44 rfl (lv_at hl 1 rfl) ?_
  refine lv_iload_n hx hb dX8_node_45 rfl (lv_at hl 2 rfl) ?_
  refine lv_iload_n hx hb dX8_node_46 rfl (lv_at hl 3 rfl) ?_
  refine lv_iload hx hb dX8_node_47 (lv_at hl 4 rfl) ?_
  refine aVi (As := [.int 0, .int x2, .int 0, .int 0]) (ci := 5) S (c_X5_add_0 l D cI cZ cJ o u ra ga H.size x2 lo_x2 hi_x2) mi_X5_add kw_6_53 rfl rfl ⟨Nat.le_of_ble_eq_true rfl, Nat.le_of_ble_eq_true rfl⟩ hP hD hK hS hA hB xW_13 rfl rfl hl.1 (Nat.le_of_ble_eq_true rfl) ⟨Nat.le_of_ble_eq_true rfl, Nat.le_of_ble_eq_true rfl⟩ dX8_node_49 (fun H locs hz hP hD hS => ?_)
  exact wEnd S hr hlocks hP hD hS (Nat.le_of_ble_eq_true rfl) (Nat.le_of_ble_eq_true rfl) dX8_node_52 rfl

set_option maxHeartbeats 8000000 in
set_option maxRecDepth 100000 in
theorem c_X8_node_3 (l : Launch) (D : va_G) (cI cZ cJ : ClassId) (o : Nat) (u : Nat → Nat) (hst : l.stackTraces = false) (ra ga : Nat → Nat) (sz : Nat) (x2 : Int32) (x4 : Int32) (lo_x2 : (-999) ≤ x2) (hi_x2 : x2 ≤ 999) (ne_x4_0 : ¬ x4 = 0) : vx_Met l yX8_node (uW yX8_node cX8_node 5 (some .int)) ({ frames := 7, cells := 1, slots := 6, locals := 102 }) (va_Pc [.ref o, .int 0, .int x2, .int 0, .int x4] (aS ra ga D (tyL cI cZ cJ) (xW o u cI cZ cJ) sz)) (nQi (va_A (xW o u cI cZ cJ) sz)) (wX "java/lang/IllegalArgumentException" D (xW o u cI cZ cJ) (va_A (xW o u cI cZ cJ) sz)) 1 6 (va_A (xW o u cI cZ cJ) sz) := by
  refine xStart (lv := [(0, .ref o), (1, .int 0), (2, .int x2), (3, .int 0), (4, .int x4)]) (Qc := fun A => nQi A) (XC := fun A => wX "java/lang/IllegalArgumentException" D (xW o u cI cZ cJ) A) (by decide) (Nat.le_of_ble_eq_true rfl) rfl ?_
  intro p e s m args below meth c ls A H S hr hlocks hnm hl hK hP hD hS hA hB hnt
  have hx := S.1
  have hb := S.2.1
  refine lv_aload_n hx hb dX8_node_0 rfl (lv_at hl 0 rfl) ?_
  refine xg (ci := 8) S inX8 rfl hK hP xW_0 1 (by decide) rfl kw_3_21 rfl dX8_node_1 ?_
  refine lv_iload_n hx hb dX8_node_4 rfl (lv_at hl 1 rfl) ?_
  refine lv_iload_n hx hb dX8_node_5 rfl (lv_at hl 2 rfl) ?_
  refine lv_iload_n hx hb dX8_node_6 rfl (lv_at hl 3 rfl) ?_
  refine lv_iload hx hb dX8_node_7 (lv_at hl 4 rfl) ?_
  refine aVi (As := [.int 0, .int x2, .int 0, .int x4]) (ci := 5) S (c_X5_suits_3 l D cI cZ cJ o u ra ga H.size x2 x4 lo_x2 hi_x2 ne_x4_0) mi_X5_suits kw_6_27 rfl rfl ⟨Nat.le_of_ble_eq_true rfl, Nat.le_of_ble_eq_true rfl⟩ hP hD hK hS hA hB xW_13 rfl rfl hl.1 (Nat.le_of_ble_eq_true rfl) ⟨Nat.le_of_ble_eq_true rfl, Nat.le_of_ble_eq_true rfl⟩ dX8_node_9 (fun H locs hz hP hD hS => ?_)
  exact tSv (As := [.int 0]) S (c_X8_needArgument_0 l D cI cZ cJ o u hst ra ga H.size) ms_X8_needArgument kw_4_4 rfl rfl ⟨Nat.le_of_ble_eq_true rfl, Nat.le_of_ble_eq_true rfl⟩ hP hD hK hS hA hB hl.1 (Nat.le_of_ble_eq_true rfl) ⟨Nat.le_of_ble_eq_true rfl, Nat.le_of_ble_eq_true rfl⟩ dX8_node_12 hnt hlocks (Nat.le_of_ble_eq_true rfl) (Nat.le_of_ble_eq_true rfl)

set_option maxHeartbeats 8000000 in
set_option maxRecDepth 100000 in
theorem c_X5_suits_4 (l : Launch) (D : va_G) (cI cZ cJ : ClassId) (o : Nat) (u : Nat → Nat) (ra ga : Nat → Nat) (sz : Nat) (x2 : Int32) (x3 : Int32) (x4 : Int32) (lo_x2 : (-999) ≤ x2) (hi_x2 : x2 ≤ 999) (ne_x3_0 : ¬ x3 = 0) : Met l yX5_suits (uW yX5_suits cX5_suits 5 (some .boolean)) ({ frames := 1, cells := 0, slots := 0, locals := 22 }) (va_Pc [.ref (u 12), .int 0, .int x2, .int x3, .int x4] (aS ra ga D (tyL cI cZ cJ) (xW o u cI cZ cJ) sz)) (wQi (0) D (xW o u cI cZ cJ) (va_A (xW o u cI cZ cJ) sz)) 0 0 (va_A (xW o u cI cZ cJ) sz) := by
  refine aStart (lv := [(0, .ref (u 12)), (1, .int 0), (2, .int x2), (3, .int x3), (4, .int x4)]) (Qc := fun A => wQi (0) D (xW o u cI cZ cJ) A) (by decide) (Nat.le_of_ble_eq_true rfl) rfl ?_
  intro p e s m args below meth c ls A H S hr hlocks hnm hl hK hP hD hS hA hB
  have hx := S.1
  have hb := S.2.1
  refine lv_iload_n hx hb dX5_suits_0 rfl (lv_at hl 1 rfl) ?_
  refine lv_if_lt (tgt := 10) hx hb dX5_suits_1 (by decide) (fun c => absurd c (by decide)) (fun _ => ?_)
  refine lv_iload_n hx hb dX5_suits_4 rfl (lv_at hl 1 rfl) ?_
  refine lv_bipush (v := 21) hx hb dX5_suits_5 (by decide) ?_
  refine lv_icmp_le (tgt := 12) hx hb dX5_suits_7 (by decide) (fun _ => ?_) (fun c => absurd c (by decide))
  refine lv_aload_n hx hb dX5_suits_12 rfl (lv_at hl 0 rfl) ?_
  refine xgs S hB.z0 hS kw_3_91 rfl dX5_suits_13 ?_
  refine lv_iload_n hx hb dX5_suits_16 rfl (lv_at hl 1 rfl) ?_
  refine xti (v := 1) S hB.t0 hS (vin rfl) rfl dX5_suits_17 ?_
  refine lv_iload_n hx hb dX5_suits_18 rfl (lv_at hl 2 rfl) ?_
  refine rdV (As := [.int 1, .int x2]) (ci := 5) S (c_X5_fills_2 l D cI cZ cJ o u x2 lo_x2 hi_x2) mi_X5_fills kw_6_31 ⟨rfl, rfl⟩ ⟨Nat.le_of_ble_eq_true rfl, Nat.le_of_ble_eq_true rfl⟩ hP hK xW_13 rfl rfl hl.1 (Nat.le_of_ble_eq_true rfl) ⟨Nat.le_of_ble_eq_true rfl, Nat.le_of_ble_eq_true rfl⟩ dX5_suits_19 ?_
  refine lv_if_eq (tgt := 112) hx hb dX5_suits_22 (by decide) (fun c => absurd c (by decide)) (fun _ => ?_)
  refine lv_aload_n hx hb dX5_suits_25 rfl (lv_at hl 0 rfl) ?_
  refine xgs S hB.z1 hS kw_3_228 rfl dX5_suits_26 ?_
  refine lv_iload_n hx hb dX5_suits_29 rfl (lv_at hl 1 rfl) ?_
  refine xti (v := 0) S hB.t1 hS (vin rfl) rfl dX5_suits_30 ?_
  refine lv_iload_n hx hb dX5_suits_31 rfl (lv_at hl 3 rfl) ?_
  refine rdV (As := [.int 0, .int x3]) (ci := 5) S (c_X5_fills_5 l D cI cZ cJ o u x3 ne_x3_0) mi_X5_fills kw_6_31 ⟨rfl, rfl⟩ ⟨Nat.le_of_ble_eq_true rfl, Nat.le_of_ble_eq_true rfl⟩ hP hK xW_13 rfl rfl hl.1 (Nat.le_of_ble_eq_true rfl) ⟨Nat.le_of_ble_eq_true rfl, Nat.le_of_ble_eq_true rfl⟩ dX5_suits_32 ?_
  refine lv_if_eq (tgt := 112) hx hb dX5_suits_35 (by decide) (fun _ => ?_) (fun c => absurd c (by decide))
  refine lv_iconst (v := 0) hx hb dX5_suits_112 (by decide) ?_
  exact wEndZ S hr hlocks hP hD hS (Nat.le_of_ble_eq_true rfl) (Nat.le_of_ble_eq_true rfl) dX5_suits_113 rfl rfl

set_option maxHeartbeats 8000000 in
set_option maxRecDepth 100000 in
theorem c_X8_node_4 (l : Launch) (D : va_G) (cI cZ cJ : ClassId) (o : Nat) (u : Nat → Nat) (hst : l.stackTraces = false) (ra ga : Nat → Nat) (sz : Nat) (x2 : Int32) (x3 : Int32) (x4 : Int32) (lo_x2 : (-999) ≤ x2) (hi_x2 : x2 ≤ 999) (ne_x3_0 : ¬ x3 = 0) : vx_Met l yX8_node (uW yX8_node cX8_node 5 (some .int)) ({ frames := 7, cells := 1, slots := 6, locals := 102 }) (va_Pc [.ref o, .int 0, .int x2, .int x3, .int x4] (aS ra ga D (tyL cI cZ cJ) (xW o u cI cZ cJ) sz)) (nQi (va_A (xW o u cI cZ cJ) sz)) (wX "java/lang/IllegalArgumentException" D (xW o u cI cZ cJ) (va_A (xW o u cI cZ cJ) sz)) 1 6 (va_A (xW o u cI cZ cJ) sz) := by
  refine xStart (lv := [(0, .ref o), (1, .int 0), (2, .int x2), (3, .int x3), (4, .int x4)]) (Qc := fun A => nQi A) (XC := fun A => wX "java/lang/IllegalArgumentException" D (xW o u cI cZ cJ) A) (by decide) (Nat.le_of_ble_eq_true rfl) rfl ?_
  intro p e s m args below meth c ls A H S hr hlocks hnm hl hK hP hD hS hA hB hnt
  have hx := S.1
  have hb := S.2.1
  refine lv_aload_n hx hb dX8_node_0 rfl (lv_at hl 0 rfl) ?_
  refine xg (ci := 8) S inX8 rfl hK hP xW_0 1 (by decide) rfl kw_3_21 rfl dX8_node_1 ?_
  refine lv_iload_n hx hb dX8_node_4 rfl (lv_at hl 1 rfl) ?_
  refine lv_iload_n hx hb dX8_node_5 rfl (lv_at hl 2 rfl) ?_
  refine lv_iload_n hx hb dX8_node_6 rfl (lv_at hl 3 rfl) ?_
  refine lv_iload hx hb dX8_node_7 (lv_at hl 4 rfl) ?_
  refine aVi (As := [.int 0, .int x2, .int x3, .int x4]) (ci := 5) S (c_X5_suits_4 l D cI cZ cJ o u ra ga H.size x2 x3 x4 lo_x2 hi_x2 ne_x3_0) mi_X5_suits kw_6_27 rfl rfl ⟨Nat.le_of_ble_eq_true rfl, Nat.le_of_ble_eq_true rfl⟩ hP hD hK hS hA hB xW_13 rfl rfl hl.1 (Nat.le_of_ble_eq_true rfl) ⟨Nat.le_of_ble_eq_true rfl, Nat.le_of_ble_eq_true rfl⟩ dX8_node_9 (fun H locs hz hP hD hS => ?_)
  exact tSv (As := [.int 0]) S (c_X8_needArgument_0 l D cI cZ cJ o u hst ra ga H.size) ms_X8_needArgument kw_4_4 rfl rfl ⟨Nat.le_of_ble_eq_true rfl, Nat.le_of_ble_eq_true rfl⟩ hP hD hK hS hA hB hl.1 (Nat.le_of_ble_eq_true rfl) ⟨Nat.le_of_ble_eq_true rfl, Nat.le_of_ble_eq_true rfl⟩ dX8_node_12 hnt hlocks (Nat.le_of_ble_eq_true rfl) (Nat.le_of_ble_eq_true rfl)

set_option maxHeartbeats 8000000 in
set_option maxRecDepth 100000 in
theorem c_X8_isName_3 (l : Launch) (D : va_G) (cI cZ cJ : ClassId) (o : Nat) (u : Nat → Nat) (ra ga : Nat → Nat) (sz : Nat) (x2 : Int32) (hi_x2 : x2 ≤ (-1)) : Met l yX8_isName (uW yX8_isName cX8_isName 1 (some .boolean)) ({ frames := 0, cells := 0, slots := 0, locals := 0 }) (va_Pc [.int x2] (aS ra ga D (tyL cI cZ cJ) (xW o u cI cZ cJ) sz)) (wQi (0) D (xW o u cI cZ cJ) (va_A (xW o u cI cZ cJ) sz)) 0 0 (va_A (xW o u cI cZ cJ) sz) := by
  refine aStart (lv := [(0, .int x2)]) (Qc := fun A => wQi (0) D (xW o u cI cZ cJ) A) (by decide) (Nat.le_of_ble_eq_true rfl) rfl ?_
  intro p e s m args below meth c ls A H S hr hlocks hnm hl hK hP hD hS hA hB
  have hx := S.1
  have hb := S.2.1
  refine lv_iload_n hx hb dX8_isName_0 rfl (lv_at hl 0 rfl) ?_
  refine lv_if_lt (tgt := 14) hx hb dX8_isName_1 (by decide) (fun _ => ?_) (fun c => absurd (b_lt hi_x2 (by decide)) c)
  refine lv_iconst (v := 0) hx hb dX8_isName_14 (by decide) ?_
  exact wEndZ S hr hlocks hP hD hS (Nat.le_of_ble_eq_true rfl) (Nat.le_of_ble_eq_true rfl) dX8_isName_15 rfl rfl

set_option maxHeartbeats 8000000 in
set_option maxRecDepth 100000 in
theorem c_X8_isName_4 (l : Launch) (D : va_G) (cI cZ cJ : ClassId) (o : Nat) (u : Nat → Nat) (ra ga : Nat → Nat) (sz : Nat) (x2 : Int32) (lo_x2 : 16 ≤ x2) : Met l yX8_isName (uW yX8_isName cX8_isName 1 (some .boolean)) ({ frames := 0, cells := 0, slots := 0, locals := 0 }) (va_Pc [.int x2] (aS ra ga D (tyL cI cZ cJ) (xW o u cI cZ cJ) sz)) (wQi (0) D (xW o u cI cZ cJ) (va_A (xW o u cI cZ cJ) sz)) 0 0 (va_A (xW o u cI cZ cJ) sz) := by
  refine aStart (lv := [(0, .int x2)]) (Qc := fun A => wQi (0) D (xW o u cI cZ cJ) A) (by decide) (Nat.le_of_ble_eq_true rfl) rfl ?_
  intro p e s m args below meth c ls A H S hr hlocks hnm hl hK hP hD hS hA hB
  have hx := S.1
  have hb := S.2.1
  refine lv_iload_n hx hb dX8_isName_0 rfl (lv_at hl 0 rfl) ?_
  refine lv_if_lt (tgt := 14) hx hb dX8_isName_1 (by decide) (fun c => absurd c (b_nlt lo_x2 (by decide))) (fun _ => ?_)
  refine lv_iload_n hx hb dX8_isName_4 rfl (lv_at hl 0 rfl) ?_
  refine lv_bipush (v := 16) hx hb dX8_isName_5 (by decide) ?_
  refine lv_icmp_ge (tgt := 14) hx hb dX8_isName_7 (by decide) (fun _ => ?_) (fun c => absurd (b_ge lo_x2 (by decide)) c)
  refine lv_iconst (v := 0) hx hb dX8_isName_14 (by decide) ?_
  exact wEndZ S hr hlocks hP hD hS (Nat.le_of_ble_eq_true rfl) (Nat.le_of_ble_eq_true rfl) dX8_isName_15 rfl rfl

set_option maxHeartbeats 8000000 in
set_option maxRecDepth 100000 in
theorem c_X8_isName_5 (l : Launch) (D : va_G) (cI cZ cJ : ClassId) (o : Nat) (u : Nat → Nat) (ra ga : Nat → Nat) (sz : Nat) (x2 : Int32) (lo_x2 : 0 ≤ x2) (hi_x2 : x2 ≤ 15) : Met l yX8_isName (uW yX8_isName cX8_isName 1 (some .boolean)) ({ frames := 0, cells := 0, slots := 0, locals := 0 }) (va_Pc [.int x2] (aS ra ga D (tyL cI cZ cJ) (xW o u cI cZ cJ) sz)) (wQi (1) D (xW o u cI cZ cJ) (va_A (xW o u cI cZ cJ) sz)) 0 0 (va_A (xW o u cI cZ cJ) sz) := by
  refine aStart (lv := [(0, .int x2)]) (Qc := fun A => wQi (1) D (xW o u cI cZ cJ) A) (by decide) (Nat.le_of_ble_eq_true rfl) rfl ?_
  intro p e s m args below meth c ls A H S hr hlocks hnm hl hK hP hD hS hA hB
  have hx := S.1
  have hb := S.2.1
  refine lv_iload_n hx hb dX8_isName_0 rfl (lv_at hl 0 rfl) ?_
  refine lv_if_lt (tgt := 14) hx hb dX8_isName_1 (by decide) (fun c => absurd c (b_nlt lo_x2 (by decide))) (fun _ => ?_)
  refine lv_iload_n hx hb dX8_isName_4 rfl (lv_at hl 0 rfl) ?_
  refine lv_bipush (v := 16) hx hb dX8_isName_5 (by decide) ?_
  refine lv_icmp_ge (tgt := 14) hx hb dX8_isName_7 (by decide) (fun c => absurd c (b_nge hi_x2 (by decide))) (fun _ => ?_)
  refine lv_iconst (v := 1) hx hb dX8_isName_10 (by decide) ?_
  refine lv_goto (tgt := 15) hx hb dX8_isName_11 (by decide) ?_
  exact wEndZ S hr hlocks hP hD hS (Nat.le_of_ble_eq_true rfl) (Nat.le_of_ble_eq_true rfl) dX8_isName_15 rfl rfl

set_option maxHeartbeats 8000000 in
set_option maxRecDepth 100000 in
theorem c_X5_fills_6 (l : Launch) (D : va_G) (cI cZ cJ : ClassId) (o : Nat) (u : Nat → Nat) (ra ga : Nat → Nat) (sz : Nat) (x2 : Int32) (hi_x2 : x2 ≤ (-1)) : Met l yX5_fills (uW yX5_fills cX5_fills 3 (some .boolean)) ({ frames := 1, cells := 0, slots := 0, locals := 20 }) (va_Pc [.ref (u 12), .int 2, .int x2] (aS ra ga D (tyL cI cZ cJ) (xW o u cI cZ cJ) sz)) (wQi (0) D (xW o u cI cZ cJ) (va_A (xW o u cI cZ cJ) sz)) 0 0 (va_A (xW o u cI cZ cJ) sz) := by
  refine aStart (lv := [(0, .ref (u 12)), (1, .int 2), (2, .int x2)]) (Qc := fun A => wQi (0) D (xW o u cI cZ cJ) A) (by decide) (Nat.le_of_ble_eq_true rfl) rfl ?_
  intro p e s m args below meth c ls A H S hr hlocks hnm hl hK hP hD hS hA hB
  have hx := S.1
  have hb := S.2.1
  refine lv_iload_n hx hb dX5_fills_0 rfl (lv_at hl 1 rfl) ?_
  refine lv_tableIn (off := 77) (tgt := 78) hx hb dX5_fills_1 (by decide) (by decide) (by decide) (by decide) ?_
  refine lv_iload_n hx hb dX5_fills_78 rfl (lv_at hl 2 rfl) ?_
  refine aNi (As := [.int x2]) S (c_X8_isName_3 l D cI cZ cJ o u ra ga H.size x2 hi_x2) ms_X8_isName hB.n3 rfl rfl ⟨Nat.le_of_ble_eq_true rfl, Nat.le_of_ble_eq_true rfl⟩ hP hD hK hS hA hB hl.1 (Nat.le_of_ble_eq_true rfl) ⟨Nat.le_of_ble_eq_true rfl, Nat.le_of_ble_eq_true rfl⟩ dX5_fills_79 (fun H locs hz hP hD hS => ?_)
  exact wEndZ S hr hlocks hP hD hS (Nat.le_of_ble_eq_true rfl) (Nat.le_of_ble_eq_true rfl) dX5_fills_82 rfl rfl

set_option maxHeartbeats 8000000 in
set_option maxRecDepth 100000 in
theorem c_X5_fills_7 (l : Launch) (D : va_G) (cI cZ cJ : ClassId) (o : Nat) (u : Nat → Nat) (ra ga : Nat → Nat) (sz : Nat) (x2 : Int32) (lo_x2 : 16 ≤ x2) : Met l yX5_fills (uW yX5_fills cX5_fills 3 (some .boolean)) ({ frames := 1, cells := 0, slots := 0, locals := 20 }) (va_Pc [.ref (u 12), .int 2, .int x2] (aS ra ga D (tyL cI cZ cJ) (xW o u cI cZ cJ) sz)) (wQi (0) D (xW o u cI cZ cJ) (va_A (xW o u cI cZ cJ) sz)) 0 0 (va_A (xW o u cI cZ cJ) sz) := by
  refine aStart (lv := [(0, .ref (u 12)), (1, .int 2), (2, .int x2)]) (Qc := fun A => wQi (0) D (xW o u cI cZ cJ) A) (by decide) (Nat.le_of_ble_eq_true rfl) rfl ?_
  intro p e s m args below meth c ls A H S hr hlocks hnm hl hK hP hD hS hA hB
  have hx := S.1
  have hb := S.2.1
  refine lv_iload_n hx hb dX5_fills_0 rfl (lv_at hl 1 rfl) ?_
  refine lv_tableIn (off := 77) (tgt := 78) hx hb dX5_fills_1 (by decide) (by decide) (by decide) (by decide) ?_
  refine lv_iload_n hx hb dX5_fills_78 rfl (lv_at hl 2 rfl) ?_
  refine aNi (As := [.int x2]) S (c_X8_isName_4 l D cI cZ cJ o u ra ga H.size x2 lo_x2) ms_X8_isName hB.n3 rfl rfl ⟨Nat.le_of_ble_eq_true rfl, Nat.le_of_ble_eq_true rfl⟩ hP hD hK hS hA hB hl.1 (Nat.le_of_ble_eq_true rfl) ⟨Nat.le_of_ble_eq_true rfl, Nat.le_of_ble_eq_true rfl⟩ dX5_fills_79 (fun H locs hz hP hD hS => ?_)
  exact wEndZ S hr hlocks hP hD hS (Nat.le_of_ble_eq_true rfl) (Nat.le_of_ble_eq_true rfl) dX5_fills_82 rfl rfl

set_option maxHeartbeats 8000000 in
set_option maxRecDepth 100000 in
theorem c_X5_fills_8 (l : Launch) (D : va_G) (cI cZ cJ : ClassId) (o : Nat) (u : Nat → Nat) (ra ga : Nat → Nat) (sz : Nat) (x2 : Int32) (lo_x2 : 0 ≤ x2) (hi_x2 : x2 ≤ 15) : Met l yX5_fills (uW yX5_fills cX5_fills 3 (some .boolean)) ({ frames := 1, cells := 0, slots := 0, locals := 20 }) (va_Pc [.ref (u 12), .int 2, .int x2] (aS ra ga D (tyL cI cZ cJ) (xW o u cI cZ cJ) sz)) (wQi (1) D (xW o u cI cZ cJ) (va_A (xW o u cI cZ cJ) sz)) 0 0 (va_A (xW o u cI cZ cJ) sz) := by
  refine aStart (lv := [(0, .ref (u 12)), (1, .int 2), (2, .int x2)]) (Qc := fun A => wQi (1) D (xW o u cI cZ cJ) A) (by decide) (Nat.le_of_ble_eq_true rfl) rfl ?_
  intro p e s m args below meth c ls A H S hr hlocks hnm hl hK hP hD hS hA hB
  have hx := S.1
  have hb := S.2.1
  refine lv_iload_n hx hb dX5_fills_0 rfl (lv_at hl 1 rfl) ?_
  refine lv_tableIn (off := 77) (tgt := 78) hx hb dX5_fills_1 (by decide) (by decide) (by decide) (by decide) ?_
  refine lv_iload_n hx hb dX5_fills_78 rfl (lv_at hl 2 rfl) ?_
  refine aNi (As := [.int x2]) S (c_X8_isName_5 l D cI cZ cJ o u ra ga H.size x2 lo_x2 hi_x2) ms_X8_isName hB.n3 rfl rfl ⟨Nat.le_of_ble_eq_true rfl, Nat.le_of_ble_eq_true rfl⟩ hP hD hK hS hA hB hl.1 (Nat.le_of_ble_eq_true rfl) ⟨Nat.le_of_ble_eq_true rfl, Nat.le_of_ble_eq_true rfl⟩ dX5_fills_79 (fun H locs hz hP hD hS => ?_)
  exact wEndZ S hr hlocks hP hD hS (Nat.le_of_ble_eq_true rfl) (Nat.le_of_ble_eq_true rfl) dX5_fills_82 rfl rfl

set_option maxHeartbeats 8000000 in
set_option maxRecDepth 100000 in
theorem c_X5_isSamePart_2 (l : Launch) (D : va_G) (cI cZ cJ : ClassId) (o : Nat) (u : Nat → Nat) (x2 : Int32) (lo_x2 : 0 ≤ x2) (hi_x2 : x2 ≤ 15) : Met l yX5_isSamePart (uW yX5_isSamePart cX5_isSamePart 4 (some .boolean)) ({ frames := 0, cells := 0, slots := 0, locals := 0 }) (va_Pc [.int 2, .int x2, .int 0, .int 0] (pS D (tyL cI cZ cJ) (xW o u cI cZ cJ))) (QcRead (0)) 0 0 (fun _ => False) := by
  refine rdStart (lv := [(0, .int 2), (1, .int x2), (2, .int 0), (3, .int 0)]) (by decide) (Nat.le_of_ble_eq_true rfl) rfl ?_
  intro p e s m args below meth c ls S hr hlocks hl hP hK
  have hx := S.1
  have hb := S.2.1
  refine lv_iload_n hx hb dX5_isSamePart_0 rfl (lv_at hl 0 rfl) ?_
  refine lv_iconst (v := 4) hx hb dX5_isSamePart_1 (by decide) ?_
  refine lv_icmp_lt (tgt := 24) hx hb dX5_isSamePart_2 (by decide) (fun _ => ?_) (fun c => absurd c (by decide))
  refine lv_iconst (v := 0) hx hb dX5_isSamePart_24 (by decide) ?_
  exact rdEndZ S hr hlocks dX5_isSamePart_25 rfl rfl

set_option maxHeartbeats 8000000 in
set_option maxRecDepth 100000 in
theorem c_X5_suits_5 (l : Launch) (D : va_G) (cI cZ cJ : ClassId) (o : Nat) (u : Nat → Nat) (ra ga : Nat → Nat) (sz : Nat) (x2 : Int32) (x3 : Int32) (x4 : Int32) (hi_x2 : x2 ≤ (-1)) : Met l yX5_suits (uW yX5_suits cX5_suits 5 (some .boolean)) ({ frames := 2, cells := 0, slots := 0, locals := 42 }) (va_Pc [.ref (u 12), .int 1, .int x2, .int x3, .int x4] (aS ra ga D (tyL cI cZ cJ) (xW o u cI cZ cJ) sz)) (wQi (0) D (xW o u cI cZ cJ) (va_A (xW o u cI cZ cJ) sz)) 0 0 (va_A (xW o u cI cZ cJ) sz) := by
  refine aStart (lv := [(0, .ref (u 12)), (1, .int 1), (2, .int x2), (3, .int x3), (4, .int x4)]) (Qc := fun A => wQi (0) D (xW o u cI cZ cJ) A) (by decide) (Nat.le_of_ble_eq_true rfl) rfl ?_
  intro p e s m args below meth c ls A H S hr hlocks hnm hl hK hP hD hS hA hB
  have hx := S.1
  have hb := S.2.1
  refine lv_iload_n hx hb dX5_suits_0 rfl (lv_at hl 1 rfl) ?_
  refine lv_if_lt (tgt := 10) hx hb dX5_suits_1 (by decide) (fun c => absurd c (by decide)) (fun _ => ?_)
  refine lv_iload_n hx hb dX5_suits_4 rfl (lv_at hl 1 rfl) ?_
  refine lv_bipush (v := 21) hx hb dX5_suits_5 (by decide) ?_
  refine lv_icmp_le (tgt := 12) hx hb dX5_suits_7 (by decide) (fun _ => ?_) (fun c => absurd c (by decide))
  refine lv_aload_n hx hb dX5_suits_12 rfl (lv_at hl 0 rfl) ?_
  refine xgs S hB.z0 hS kw_3_91 rfl dX5_suits_13 ?_
  refine lv_iload_n hx hb dX5_suits_16 rfl (lv_at hl 1 rfl) ?_
  refine xti (v := 2) S hB.t0 hS (vin rfl) rfl dX5_suits_17 ?_
  refine lv_iload_n hx hb dX5_suits_18 rfl (lv_at hl 2 rfl) ?_
  refine aVi (As := [.int 2, .int x2]) (ci := 5) S (c_X5_fills_6 l D cI cZ cJ o u ra ga H.size x2 hi_x2) mi_X5_fills kw_6_31 rfl rfl ⟨Nat.le_of_ble_eq_true rfl, Nat.le_of_ble_eq_true rfl⟩ hP hD hK hS hA hB xW_13 rfl rfl hl.1 (Nat.le_of_ble_eq_true rfl) ⟨Nat.le_of_ble_eq_true rfl, Nat.le_of_ble_eq_true rfl⟩ dX5_suits_19 (fun H locs hz hP hD hS => ?_)
  refine lv_if_eq (tgt := 112) hx hb dX5_suits_22 (by decide) (fun _ => ?_) (fun c => absurd c (by decide))
  refine lv_iconst (v := 0) hx hb dX5_suits_112 (by decide) ?_
  exact wEndZ S hr hlocks hP hD hS (Nat.le_of_ble_eq_true rfl) (Nat.le_of_ble_eq_true rfl) dX5_suits_113 rfl rfl

set_option maxHeartbeats 8000000 in
set_option maxRecDepth 100000 in
theorem c_X5_suits_6 (l : Launch) (D : va_G) (cI cZ cJ : ClassId) (o : Nat) (u : Nat → Nat) (ra ga : Nat → Nat) (sz : Nat) (x2 : Int32) (x3 : Int32) (x4 : Int32) (lo_x2 : 16 ≤ x2) : Met l yX5_suits (uW yX5_suits cX5_suits 5 (some .boolean)) ({ frames := 2, cells := 0, slots := 0, locals := 42 }) (va_Pc [.ref (u 12), .int 1, .int x2, .int x3, .int x4] (aS ra ga D (tyL cI cZ cJ) (xW o u cI cZ cJ) sz)) (wQi (0) D (xW o u cI cZ cJ) (va_A (xW o u cI cZ cJ) sz)) 0 0 (va_A (xW o u cI cZ cJ) sz) := by
  refine aStart (lv := [(0, .ref (u 12)), (1, .int 1), (2, .int x2), (3, .int x3), (4, .int x4)]) (Qc := fun A => wQi (0) D (xW o u cI cZ cJ) A) (by decide) (Nat.le_of_ble_eq_true rfl) rfl ?_
  intro p e s m args below meth c ls A H S hr hlocks hnm hl hK hP hD hS hA hB
  have hx := S.1
  have hb := S.2.1
  refine lv_iload_n hx hb dX5_suits_0 rfl (lv_at hl 1 rfl) ?_
  refine lv_if_lt (tgt := 10) hx hb dX5_suits_1 (by decide) (fun c => absurd c (by decide)) (fun _ => ?_)
  refine lv_iload_n hx hb dX5_suits_4 rfl (lv_at hl 1 rfl) ?_
  refine lv_bipush (v := 21) hx hb dX5_suits_5 (by decide) ?_
  refine lv_icmp_le (tgt := 12) hx hb dX5_suits_7 (by decide) (fun _ => ?_) (fun c => absurd c (by decide))
  refine lv_aload_n hx hb dX5_suits_12 rfl (lv_at hl 0 rfl) ?_
  refine xgs S hB.z0 hS kw_3_91 rfl dX5_suits_13 ?_
  refine lv_iload_n hx hb dX5_suits_16 rfl (lv_at hl 1 rfl) ?_
  refine xti (v := 2) S hB.t0 hS (vin rfl) rfl dX5_suits_17 ?_
  refine lv_iload_n hx hb dX5_suits_18 rfl (lv_at hl 2 rfl) ?_
  refine aVi (As := [.int 2, .int x2]) (ci := 5) S (c_X5_fills_7 l D cI cZ cJ o u ra ga H.size x2 lo_x2) mi_X5_fills kw_6_31 rfl rfl ⟨Nat.le_of_ble_eq_true rfl, Nat.le_of_ble_eq_true rfl⟩ hP hD hK hS hA hB xW_13 rfl rfl hl.1 (Nat.le_of_ble_eq_true rfl) ⟨Nat.le_of_ble_eq_true rfl, Nat.le_of_ble_eq_true rfl⟩ dX5_suits_19 (fun H locs hz hP hD hS => ?_)
  refine lv_if_eq (tgt := 112) hx hb dX5_suits_22 (by decide) (fun _ => ?_) (fun c => absurd c (by decide))
  refine lv_iconst (v := 0) hx hb dX5_suits_112 (by decide) ?_
  exact wEndZ S hr hlocks hP hD hS (Nat.le_of_ble_eq_true rfl) (Nat.le_of_ble_eq_true rfl) dX5_suits_113 rfl rfl

set_option maxHeartbeats 8000000 in
set_option maxRecDepth 100000 in
theorem c_X5_suits_7 (l : Launch) (D : va_G) (cI cZ cJ : ClassId) (o : Nat) (u : Nat → Nat) (ra ga : Nat → Nat) (sz : Nat) (x2 : Int32) (lo_x2 : 0 ≤ x2) (hi_x2 : x2 ≤ 15) : Met l yX5_suits (uW yX5_suits cX5_suits 5 (some .boolean)) ({ frames := 2, cells := 0, slots := 0, locals := 42 }) (va_Pc [.ref (u 12), .int 1, .int x2, .int 0, .int 0] (aS ra ga D (tyL cI cZ cJ) (xW o u cI cZ cJ) sz)) (wQi (1) D (xW o u cI cZ cJ) (va_A (xW o u cI cZ cJ) sz)) 0 0 (va_A (xW o u cI cZ cJ) sz) := by
  refine aStart (lv := [(0, .ref (u 12)), (1, .int 1), (2, .int x2), (3, .int 0), (4, .int 0)]) (Qc := fun A => wQi (1) D (xW o u cI cZ cJ) A) (by decide) (Nat.le_of_ble_eq_true rfl) rfl ?_
  intro p e s m args below meth c ls A H S hr hlocks hnm hl hK hP hD hS hA hB
  have hx := S.1
  have hb := S.2.1
  refine lv_iload_n hx hb dX5_suits_0 rfl (lv_at hl 1 rfl) ?_
  refine lv_if_lt (tgt := 10) hx hb dX5_suits_1 (by decide) (fun c => absurd c (by decide)) (fun _ => ?_)
  refine lv_iload_n hx hb dX5_suits_4 rfl (lv_at hl 1 rfl) ?_
  refine lv_bipush (v := 21) hx hb dX5_suits_5 (by decide) ?_
  refine lv_icmp_le (tgt := 12) hx hb dX5_suits_7 (by decide) (fun _ => ?_) (fun c => absurd c (by decide))
  refine lv_aload_n hx hb dX5_suits_12 rfl (lv_at hl 0 rfl) ?_
  refine xgs S hB.z0 hS kw_3_91 rfl dX5_suits_13 ?_
  refine lv_iload_n hx hb dX5_suits_16 rfl (lv_at hl 1 rfl) ?_
  refine xti (v := 2) S hB.t0 hS (vin rfl) rfl dX5_suits_17 ?_
  refine lv_iload_n hx hb dX5_suits_18 rfl (lv_at hl 2 rfl) ?_
  refine aVi (As := [.int 2, .int x2]) (ci := 5) S (c_X5_fills_8 l D cI cZ cJ o u ra ga H.size x2 lo_x2 hi_x2) mi_X5_fills kw_6_31 rfl rfl ⟨Nat.le_of_ble_eq_true rfl, Nat.le_of_ble_eq_true rfl⟩ hP hD hK hS hA hB xW_13 rfl rfl hl.1 (Nat.le_of_ble_eq_true rfl) ⟨Nat.le_of_ble_eq_true rfl, Nat.le_of_ble_eq_true rfl⟩ dX5_suits_19 (fun H locs hz hP hD hS => ?_)
  refine lv_if_eq (tgt := 112) hx hb dX5_suits_22 (by decide) (fun c => absurd c (by decide)) (fun _ => ?_)
  refine lv_aload_n hx hb dX5_suits_25 rfl (lv_at hl 0 rfl) ?_
  refine xgs S hB.z1 hS kw_3_228 rfl dX5_suits_26 ?_
  refine lv_iload_n hx hb dX5_suits_29 rfl (lv_at hl 1 rfl) ?_
  refine xti (v := 0) S hB.t1 hS (vin rfl) rfl dX5_suits_30 ?_
  refine lv_iload_n hx hb dX5_suits_31 rfl (lv_at hl 3 rfl) ?_
  refine rdV (As := [.int 0, .int 0]) (ci := 5) S (c_X5_fills_3 l D cI cZ cJ o u) mi_X5_fills kw_6_31 ⟨rfl, rfl⟩ ⟨Nat.le_of_ble_eq_true rfl, Nat.le_of_ble_eq_true rfl⟩ hP hK xW_13 rfl rfl hl.1 (Nat.le_of_ble_eq_true rfl) ⟨Nat.le_of_ble_eq_true rfl, Nat.le_of_ble_eq_true rfl⟩ dX5_suits_32 ?_
  refine lv_if_eq (tgt := 112) hx hb dX5_suits_35 (by decide) (fun c => absurd c (by decide)) (fun _ => ?_)
  refine lv_aload_n hx hb dX5_suits_38 rfl (lv_at hl 0 rfl) ?_
  refine xgs S hB.z2 hS kw_3_222 rfl dX5_suits_39 ?_
  refine lv_iload_n hx hb dX5_suits_42 rfl (lv_at hl 1 rfl) ?_
  refine xti (v := 0) S hB.t2 hS (vin rfl) rfl dX5_suits_43 ?_
  refine lv_iload hx hb dX5_suits_44 (lv_at hl 4 rfl) ?_
  refine rdV (As := [.int 0, .int 0]) (ci := 5) S (c_X5_fills_3 l D cI cZ cJ o u) mi_X5_fills kw_6_31 ⟨rfl, rfl⟩ ⟨Nat.le_of_ble_eq_true rfl, Nat.le_of_ble_eq_true rfl⟩ hP hK xW_13 rfl rfl hl.1 (Nat.le_of_ble_eq_true rfl) ⟨Nat.le_of_ble_eq_true rfl, Nat.le_of_ble_eq_true rfl⟩ dX5_suits_46 ?_
  refine lv_if_eq (tgt := 112) hx hb dX5_suits_49 (by decide) (fun c => absurd c (by decide)) (fun _ => ?_)
  refine xgs S hB.z0 hS kw_3_91 rfl dX5_suits_52 ?_
  refine lv_iload_n hx hb dX5_suits_55 rfl (lv_at hl 1 rfl) ?_
  refine xti (v := 2) S hB.t0 hS (vin rfl) rfl dX5_suits_56 ?_
  refine lv_iload_n hx hb dX5_suits_57 rfl (lv_at hl 2 rfl) ?_
  refine xgs S hB.z1 hS kw_3_228 rfl dX5_suits_58 ?_
  refine lv_iload_n hx hb dX5_suits_61 rfl (lv_at hl 1 rfl) ?_
  refine xti (v := 0) S hB.t1 hS (vin rfl) rfl dX5_suits_62 ?_
  refine lv_iload_n hx hb dX5_suits_63 rfl (lv_at hl 3 rfl) ?_
  refine rdS (As := [.int 2, .int x2, .int 0, .int 0]) S (c_X5_isSamePart_2 l D cI cZ cJ o u x2 lo_x2 hi_x2) ms_X5_isSamePart kw_6_50 ⟨rfl, rfl⟩ ⟨Nat.le_of_ble_eq_true rfl, Nat.le_of_ble_eq_true rfl⟩ hP hK hl.1 (Nat.le_of_ble_eq_true rfl) ⟨Nat.le_of_ble_eq_true rfl, Nat.le_of_ble_eq_true rfl⟩ dX5_suits_64 ?_
  refine lv_if_ne (tgt := 112) hx hb dX5_suits_67 (by decide) (fun c => absurd c (by decide)) (fun _ => ?_)
  refine xgs S hB.z0 hS kw_3_91 rfl dX5_suits_70 ?_
  refine lv_iload_n hx hb dX5_suits_73 rfl (lv_at hl 1 rfl) ?_
  refine xti (v := 2) S hB.t0 hS (vin rfl) rfl dX5_suits_74 ?_
  refine lv_iload_n hx hb dX5_suits_75 rfl (lv_at hl 2 rfl) ?_
  refine xgs S hB.z2 hS kw_3_222 rfl dX5_suits_76 ?_
  refine lv_iload_n hx hb dX5_suits_79 rfl (lv_at hl 1 rfl) ?_
  refine xti (v := 0) S hB.t2 hS (vin rfl) rfl dX5_suits_80 ?_
  refine lv_iload hx hb dX5_suits_81 (lv_at hl 4 rfl) ?_
  refine rdS (As := [.int 2, .int x2, .int 0, .int 0]) S (c_X5_isSamePart_2 l D cI cZ cJ o u x2 lo_x2 hi_x2) ms_X5_isSamePart kw_6_50 ⟨rfl, rfl⟩ ⟨Nat.le_of_ble_eq_true rfl, Nat.le_of_ble_eq_true rfl⟩ hP hK hl.1 (Nat.le_of_ble_eq_true rfl) ⟨Nat.le_of_ble_eq_true rfl, Nat.le_of_ble_eq_true rfl⟩ dX5_suits_83 ?_
  refine lv_if_ne (tgt := 112) hx hb dX5_suits_86 (by decide) (fun c => absurd c (by decide)) (fun _ => ?_)
  refine xgs S hB.z1 hS kw_3_228 rfl dX5_suits_89 ?_
  refine lv_iload_n hx hb dX5_suits_92 rfl (lv_at hl 1 rfl) ?_
  refine xti (v := 0) S hB.t1 hS (vin rfl) rfl dX5_suits_93 ?_
  refine lv_iload_n hx hb dX5_suits_94 rfl (lv_at hl 3 rfl) ?_
  refine xgs S hB.z2 hS kw_3_222 rfl dX5_suits_95 ?_
  refine lv_iload_n hx hb dX5_suits_98 rfl (lv_at hl 1 rfl) ?_
  refine xti (v := 0) S hB.t2 hS (vin rfl) rfl dX5_suits_99 ?_
  refine lv_iload hx hb dX5_suits_100 (lv_at hl 4 rfl) ?_
  refine rdS (As := [.int 0, .int 0, .int 0, .int 0]) S (c_X5_isSamePart_1 l D cI cZ cJ o u) ms_X5_isSamePart kw_6_50 ⟨rfl, rfl⟩ ⟨Nat.le_of_ble_eq_true rfl, Nat.le_of_ble_eq_true rfl⟩ hP hK hl.1 (Nat.le_of_ble_eq_true rfl) ⟨Nat.le_of_ble_eq_true rfl, Nat.le_of_ble_eq_true rfl⟩ dX5_suits_102 ?_
  refine lv_if_ne (tgt := 112) hx hb dX5_suits_105 (by decide) (fun c => absurd c (by decide)) (fun _ => ?_)
  refine lv_iconst (v := 1) hx hb dX5_suits_108 (by decide) ?_
  refine lv_goto (tgt := 113) hx hb dX5_suits_109 (by decide) ?_
  exact wEndZ S hr hlocks hP hD hS (Nat.le_of_ble_eq_true rfl) (Nat.le_of_ble_eq_true rfl) dX5_suits_113 rfl rfl

set_option maxHeartbeats 8000000 in
set_option maxRecDepth 100000 in
theorem c_X5_partA_1 (l : Launch) (D : va_G) (cI cZ cJ : ClassId) (o : Nat) (u : Nat → Nat) (ra ga : Nat → Nat) (sz : Nat) (x2 : Int32) (lo_x2 : 0 ≤ x2) (hi_x2 : x2 ≤ 15) : Met l yX5_partA (uW yX5_partA cX5_partA 2 (some .int)) ({ frames := 0, cells := 0, slots := 0, locals := 0 }) (va_Pc [.ref (u 12), .int 0] (aS ra ga D (tyL cI cZ cJ) ((((((((xW o u cI cZ cJ).set 13 ((u 12), .inr (5, ([.int 0, .ref (u 13), .ref (u 14), .ref (u 15), .ref (u 16), .ref (u 17), .ref (u 18)].set 0 (.int 1))))).set 14 ((u 13), .inl (cI, 110, .inl (upd (fun _ => 0) (0 : Int32).toNatClampNeg 1)))).set 15 ((u 14), .inl (cI, 110, .inl (upd (fun _ => 0) (0 : Int32).toNatClampNeg x2)))).set 16 ((u 15), .inl (cI, 110, .inl (upd (fun _ => 0) (0 : Int32).toNatClampNeg 0)))).set 17 ((u 16), .inl (cI, 110, .inl (upd (fun _ => 0) (0 : Int32).toNatClampNeg 0)))).set 18 ((u 17), .inl (cI, 110, .inl (upd (fun _ => 0) (0 : Int32).toNatClampNeg (-1))))).set 19 ((u 18), .inl (cI, 110, .inl (upd (fun _ => 0) (0 : Int32).toNatClampNeg (-1))))) sz)) (wQi ((-1)) D ((((((((xW o u cI cZ cJ).set 13 ((u 12), .inr (5, ([.int 0, .ref (u 13), .ref (u 14), .ref (u 15), .ref (u 16), .ref (u 17), .ref (u 18)].set 0 (.int 1))))).set 14 ((u 13), .inl (cI, 110, .inl (upd (fun _ => 0) (0 : Int32).toNatClampNeg 1)))).set 15 ((u 14), .inl (cI, 110, .inl (upd (fun _ => 0) (0 : Int32).toNatClampNeg x2)))).set 16 ((u 15), .inl (cI, 110, .inl (upd (fun _ => 0) (0 : Int32).toNatClampNeg 0)))).set 17 ((u 16), .inl (cI, 110, .inl (upd (fun _ => 0) (0 : Int32).toNatClampNeg 0)))).set 18 ((u 17), .inl (cI, 110, .inl (upd (fun _ => 0) (0 : Int32).toNatClampNeg (-1))))).set 19 ((u 18), .inl (cI, 110, .inl (upd (fun _ => 0) (0 : Int32).toNatClampNeg (-1))))) (va_A ((((((((xW o u cI cZ cJ).set 13 ((u 12), .inr (5, ([.int 0, .ref (u 13), .ref (u 14), .ref (u 15), .ref (u 16), .ref (u 17), .ref (u 18)].set 0 (.int 1))))).set 14 ((u 13), .inl (cI, 110, .inl (upd (fun _ => 0) (0 : Int32).toNatClampNeg 1)))).set 15 ((u 14), .inl (cI, 110, .inl (upd (fun _ => 0) (0 : Int32).toNatClampNeg x2)))).set 16 ((u 15), .inl (cI, 110, .inl (upd (fun _ => 0) (0 : Int32).toNatClampNeg 0)))).set 17 ((u 16), .inl (cI, 110, .inl (upd (fun _ => 0) (0 : Int32).toNatClampNeg 0)))).set 18 ((u 17), .inl (cI, 110, .inl (upd (fun _ => 0) (0 : Int32).toNatClampNeg (-1))))).set 19 ((u 18), .inl (cI, 110, .inl (upd (fun _ => 0) (0 : Int32).toNatClampNeg (-1))))) sz)) 0 0 (va_A ((((((((xW o u cI cZ cJ).set 13 ((u 12), .inr (5, ([.int 0, .ref (u 13), .ref (u 14), .ref (u 15), .ref (u 16), .ref (u 17), .ref (u 18)].set 0 (.int 1))))).set 14 ((u 13), .inl (cI, 110, .inl (upd (fun _ => 0) (0 : Int32).toNatClampNeg 1)))).set 15 ((u 14), .inl (cI, 110, .inl (upd (fun _ => 0) (0 : Int32).toNatClampNeg x2)))).set 16 ((u 15), .inl (cI, 110, .inl (upd (fun _ => 0) (0 : Int32).toNatClampNeg 0)))).set 17 ((u 16), .inl (cI, 110, .inl (upd (fun _ => 0) (0 : Int32).toNatClampNeg 0)))).set 18 ((u 17), .inl (cI, 110, .inl (upd (fun _ => 0) (0 : Int32).toNatClampNeg (-1))))).set 19 ((u 18), .inl (cI, 110, .inl (upd (fun _ => 0) (0 : Int32).toNatClampNeg (-1))))) sz) := by
  refine aStart (lv := [(0, .ref (u 12)), (1, .int 0)]) (Qc := fun A => wQi ((-1)) D ((((((((xW o u cI cZ cJ).set 13 ((u 12), .inr (5, ([.int 0, .ref (u 13), .ref (u 14), .ref (u 15), .ref (u 16), .ref (u 17), .ref (u 18)].set 0 (.int 1))))).set 14 ((u 13), .inl (cI, 110, .inl (upd (fun _ => 0) (0 : Int32).toNatClampNeg 1)))).set 15 ((u 14), .inl (cI, 110, .inl (upd (fun _ => 0) (0 : Int32).toNatClampNeg x2)))).set 16 ((u 15), .inl (cI, 110, .inl (upd (fun _ => 0) (0 : Int32).toNatClampNeg 0)))).set 17 ((u 16), .inl (cI, 110, .inl (upd (fun _ => 0) (0 : Int32).toNatClampNeg 0)))).set 18 ((u 17), .inl (cI, 110, .inl (upd (fun _ => 0) (0 : Int32).toNatClampNeg (-1))))).set 19 ((u 18), .inl (cI, 110, .inl (upd (fun _ => 0) (0 : Int32).toNatClampNeg (-1))))) A) (by decide) (Nat.le_of_ble_eq_true rfl) rfl ?_
  intro p e s m args below meth c ls A H S hr hlocks hnm hl hK hP hD hS hA hB
  have hx := S.1
  have hb := S.2.1
  refine xgs S hB.z0 hS kw_3_91 rfl dX5_partA_0 ?_
  refine lv_aload_n hx hb dX5_partA_3 rfl (lv_at hl 0 rfl) ?_
  refine xg (ci := 5) S inX5 rfl hK hP (q0 := 13) rfl 1 (by decide) rfl kw_1_111 rfl dX5_partA_4 ?_
  refine lv_iload_n hx hb dX5_partA_7 rfl (lv_at hl 1 rfl) ?_
  refine xiald (t0 := 0) (v := 1) S hK hP (q0 := 14) rfl rfl (vin rfl) rfl dX5_partA_8 ?_
  refine xti (v := 2) S hB.t0 hS (vin rfl) rfl dX5_partA_9 ?_
  refine lv_iconst (v := 4) hx hb dX5_partA_10 (by decide) ?_
  refine lv_icmp_lt (tgt := 23) hx hb dX5_partA_11 (by decide) (fun _ => ?_) (fun c => absurd c (by decide))
  refine lv_iconst (v := (-1)) hx hb dX5_partA_23 (by decide) ?_
  exact wEnd S hr hlocks hP hD hS (Nat.le_of_ble_eq_true rfl) (Nat.le_of_ble_eq_true rfl) dX5_partA_24 rfl

set_option maxHeartbeats 8000000 in
set_option maxRecDepth 100000 in
theorem c_X5_claim_1 (l : Launch) (D : va_G) (cI cZ cJ : ClassId) (o : Nat) (u : Nat → Nat) (ra ga : Nat → Nat) (sz : Nat) (x2 : Int32) (lo_x2 : 0 ≤ x2) (hi_x2 : x2 ≤ 15) : Met l yX5_claim (uW yX5_claim cX5_claim 3 none) ({ frames := 0, cells := 0, slots := 0, locals := 0 }) (va_Pc [.ref (u 12), .int (-1), .int 0] (aS ra ga D (tyL cI cZ cJ) ((((((((xW o u cI cZ cJ).set 13 ((u 12), .inr (5, ([.int 0, .ref (u 13), .ref (u 14), .ref (u 15), .ref (u 16), .ref (u 17), .ref (u 18)].set 0 (.int 1))))).set 14 ((u 13), .inl (cI, 110, .inl (upd (fun _ => 0) (0 : Int32).toNatClampNeg 1)))).set 15 ((u 14), .inl (cI, 110, .inl (upd (fun _ => 0) (0 : Int32).toNatClampNeg x2)))).set 16 ((u 15), .inl (cI, 110, .inl (upd (fun _ => 0) (0 : Int32).toNatClampNeg 0)))).set 17 ((u 16), .inl (cI, 110, .inl (upd (fun _ => 0) (0 : Int32).toNatClampNeg 0)))).set 18 ((u 17), .inl (cI, 110, .inl (upd (fun _ => 0) (0 : Int32).toNatClampNeg (-1))))).set 19 ((u 18), .inl (cI, 110, .inl (upd (fun _ => 0) (0 : Int32).toNatClampNeg (-1))))) sz)) (wQv D ((((((((xW o u cI cZ cJ).set 13 ((u 12), .inr (5, ([.int 0, .ref (u 13), .ref (u 14), .ref (u 15), .ref (u 16), .ref (u 17), .ref (u 18)].set 0 (.int 1))))).set 14 ((u 13), .inl (cI, 110, .inl (upd (fun _ => 0) (0 : Int32).toNatClampNeg 1)))).set 15 ((u 14), .inl (cI, 110, .inl (upd (fun _ => 0) (0 : Int32).toNatClampNeg x2)))).set 16 ((u 15), .inl (cI, 110, .inl (upd (fun _ => 0) (0 : Int32).toNatClampNeg 0)))).set 17 ((u 16), .inl (cI, 110, .inl (upd (fun _ => 0) (0 : Int32).toNatClampNeg 0)))).set 18 ((u 17), .inl (cI, 110, .inl (upd (fun _ => 0) (0 : Int32).toNatClampNeg (-1))))).set 19 ((u 18), .inl (cI, 110, .inl (upd (fun _ => 0) (0 : Int32).toNatClampNeg (-1))))) (va_A ((((((((xW o u cI cZ cJ).set 13 ((u 12), .inr (5, ([.int 0, .ref (u 13), .ref (u 14), .ref (u 15), .ref (u 16), .ref (u 17), .ref (u 18)].set 0 (.int 1))))).set 14 ((u 13), .inl (cI, 110, .inl (upd (fun _ => 0) (0 : Int32).toNatClampNeg 1)))).set 15 ((u 14), .inl (cI, 110, .inl (upd (fun _ => 0) (0 : Int32).toNatClampNeg x2)))).set 16 ((u 15), .inl (cI, 110, .inl (upd (fun _ => 0) (0 : Int32).toNatClampNeg 0)))).set 17 ((u 16), .inl (cI, 110, .inl (upd (fun _ => 0) (0 : Int32).toNatClampNeg 0)))).set 18 ((u 17), .inl (cI, 110, .inl (upd (fun _ => 0) (0 : Int32).toNatClampNeg (-1))))).set 19 ((u 18), .inl (cI, 110, .inl (upd (fun _ => 0) (0 : Int32).toNatClampNeg (-1))))) sz)) 0 0 (va_A ((((((((xW o u cI cZ cJ).set 13 ((u 12), .inr (5, ([.int 0, .ref (u 13), .ref (u 14), .ref (u 15), .ref (u 16), .ref (u 17), .ref (u 18)].set 0 (.int 1))))).set 14 ((u 13), .inl (cI, 110, .inl (upd (fun _ => 0) (0 : Int32).toNatClampNeg 1)))).set 15 ((u 14), .inl (cI, 110, .inl (upd (fun _ => 0) (0 : Int32).toNatClampNeg x2)))).set 16 ((u 15), .inl (cI, 110, .inl (upd (fun _ => 0) (0 : Int32).toNatClampNeg 0)))).set 17 ((u 16), .inl (cI, 110, .inl (upd (fun _ => 0) (0 : Int32).toNatClampNeg 0)))).set 18 ((u 17), .inl (cI, 110, .inl (upd (fun _ => 0) (0 : Int32).toNatClampNeg (-1))))).set 19 ((u 18), .inl (cI, 110, .inl (upd (fun _ => 0) (0 : Int32).toNatClampNeg (-1))))) sz) := by
  refine aStart (lv := [(0, .ref (u 12)), (1, .int (-1)), (2, .int 0)]) (Qc := fun A => wQv D ((((((((xW o u cI cZ cJ).set 13 ((u 12), .inr (5, ([.int 0, .ref (u 13), .ref (u 14), .ref (u 15), .ref (u 16), .ref (u 17), .ref (u 18)].set 0 (.int 1))))).set 14 ((u 13), .inl (cI, 110, .inl (upd (fun _ => 0) (0 : Int32).toNatClampNeg 1)))).set 15 ((u 14), .inl (cI, 110, .inl (upd (fun _ => 0) (0 : Int32).toNatClampNeg x2)))).set 16 ((u 15), .inl (cI, 110, .inl (upd (fun _ => 0) (0 : Int32).toNatClampNeg 0)))).set 17 ((u 16), .inl (cI, 110, .inl (upd (fun _ => 0) (0 : Int32).toNatClampNeg 0)))).set 18 ((u 17), .inl (cI, 110, .inl (upd (fun _ => 0) (0 : Int32).toNatClampNeg (-1))))).set 19 ((u 18), .inl (cI, 110, .inl (upd (fun _ => 0) (0 : Int32).toNatClampNeg (-1))))) A) (by decide) (Nat.le_of_ble_eq_true rfl) rfl ?_
  intro p e s m args below meth c ls A H S hr hlocks hnm hl hK hP hD hS hA hB
  have hx := S.1
  have hb := S.2.1
  refine lv_iload_n hx hb dX5_claim_0 rfl (lv_at hl 1 rfl) ?_
  refine lv_iconst (v := (-1)) hx hb dX5_claim_1 (by decide) ?_
  refine lv_icmp_eq (tgt := 12) hx hb dX5_claim_2 (by decide) (fun _ => ?_) (fun c => absurd c (by decide))
  exact wEndv S hr hlocks hP hD hS (Nat.le_of_ble_eq_true rfl) (Nat.le_of_ble_eq_true rfl) dX5_claim_12

set_option maxHeartbeats 8000000 in
set_option maxRecDepth 100000 in
theorem c_X5_partB_1 (l : Launch) (D : va_G) (cI cZ cJ : ClassId) (o : Nat) (u : Nat → Nat) (ra ga : Nat → Nat) (sz : Nat) (x2 : Int32) (lo_x2 : 0 ≤ x2) (hi_x2 : x2 ≤ 15) : Met l yX5_partB (uW yX5_partB cX5_partB 2 (some .int)) ({ frames := 0, cells := 0, slots := 0, locals := 0 }) (va_Pc [.ref (u 12), .int 0] (aS ra ga D (tyL cI cZ cJ) ((((((((xW o u cI cZ cJ).set 13 ((u 12), .inr (5, ([.int 0, .ref (u 13), .ref (u 14), .ref (u 15), .ref (u 16), .ref (u 17), .ref (u 18)].set 0 (.int 1))))).set 14 ((u 13), .inl (cI, 110, .inl (upd (fun _ => 0) (0 : Int32).toNatClampNeg 1)))).set 15 ((u 14), .inl (cI, 110, .inl (upd (fun _ => 0) (0 : Int32).toNatClampNeg x2)))).set 16 ((u 15), .inl (cI, 110, .inl (upd (fun _ => 0) (0 : Int32).toNatClampNeg 0)))).set 17 ((u 16), .inl (cI, 110, .inl (upd (fun _ => 0) (0 : Int32).toNatClampNeg 0)))).set 18 ((u 17), .inl (cI, 110, .inl (upd (fun _ => 0) (0 : Int32).toNatClampNeg (-1))))).set 19 ((u 18), .inl (cI, 110, .inl (upd (fun _ => 0) (0 : Int32).toNatClampNeg (-1))))) sz)) (wQi ((-1)) D ((((((((xW o u cI cZ cJ).set 13 ((u 12), .inr (5, ([.int 0, .ref (u 13), .ref (u 14), .ref (u 15), .ref (u 16), .ref (u 17), .ref (u 18)].set 0 (.int 1))))).set 14 ((u 13), .inl (cI, 110, .inl (upd (fun _ => 0) (0 : Int32).toNatClampNeg 1)))).set 15 ((u 14), .inl (cI, 110, .inl (upd (fun _ => 0) (0 : Int32).toNatClampNeg x2)))).set 16 ((u 15), .inl (cI, 110, .inl (upd (fun _ => 0) (0 : Int32).toNatClampNeg 0)))).set 17 ((u 16), .inl (cI, 110, .inl (upd (fun _ => 0) (0 : Int32).toNatClampNeg 0)))).set 18 ((u 17), .inl (cI, 110, .inl (upd (fun _ => 0) (0 : Int32).toNatClampNeg (-1))))).set 19 ((u 18), .inl (cI, 110, .inl (upd (fun _ => 0) (0 : Int32).toNatClampNeg (-1))))) (va_A ((((((((xW o u cI cZ cJ).set 13 ((u 12), .inr (5, ([.int 0, .ref (u 13), .ref (u 14), .ref (u 15), .ref (u 16), .ref (u 17), .ref (u 18)].set 0 (.int 1))))).set 14 ((u 13), .inl (cI, 110, .inl (upd (fun _ => 0) (0 : Int32).toNatClampNeg 1)))).set 15 ((u 14), .inl (cI, 110, .inl (upd (fun _ => 0) (0 : Int32).toNatClampNeg x2)))).set 16 ((u 15), .inl (cI, 110, .inl (upd (fun _ => 0) (0 : Int32).toNatClampNeg 0)))).set 17 ((u 16), .inl (cI, 110, .inl (upd (fun _ => 0) (0 : Int32).toNatClampNeg 0)))).set 18 ((u 17), .inl (cI, 110, .inl (upd (fun _ => 0) (0 : Int32).toNatClampNeg (-1))))).set 19 ((u 18), .inl (cI, 110, .inl (upd (fun _ => 0) (0 : Int32).toNatClampNeg (-1))))) sz)) 0 0 (va_A ((((((((xW o u cI cZ cJ).set 13 ((u 12), .inr (5, ([.int 0, .ref (u 13), .ref (u 14), .ref (u 15), .ref (u 16), .ref (u 17), .ref (u 18)].set 0 (.int 1))))).set 14 ((u 13), .inl (cI, 110, .inl (upd (fun _ => 0) (0 : Int32).toNatClampNeg 1)))).set 15 ((u 14), .inl (cI, 110, .inl (upd (fun _ => 0) (0 : Int32).toNatClampNeg x2)))).set 16 ((u 15), .inl (cI, 110, .inl (upd (fun _ => 0) (0 : Int32).toNatClampNeg 0)))).set 17 ((u 16), .inl (cI, 110, .inl (upd (fun _ => 0) (0 : Int32).toNatClampNeg 0)))).set 18 ((u 17), .inl (cI, 110, .inl (upd (fun _ => 0) (0 : Int32).toNatClampNeg (-1))))).set 19 ((u 18), .inl (cI, 110, .inl (upd (fun _ => 0) (0 : Int32).toNatClampNeg (-1))))) sz) := by
  refine aStart (lv := [(0, .ref (u 12)), (1, .int 0)]) (Qc := fun A => wQi ((-1)) D ((((((((xW o u cI cZ cJ).set 13 ((u 12), .inr (5, ([.int 0, .ref (u 13), .ref (u 14), .ref (u 15), .ref (u 16), .ref (u 17), .ref (u 18)].set 0 (.int 1))))).set 14 ((u 13), .inl (cI, 110, .inl (upd (fun _ => 0) (0 : Int32).toNatClampNeg 1)))).set 15 ((u 14), .inl (cI, 110, .inl (upd (fun _ => 0) (0 : Int32).toNatClampNeg x2)))).set 16 ((u 15), .inl (cI, 110, .inl (upd (fun _ => 0) (0 : Int32).toNatClampNeg 0)))).set 17 ((u 16), .inl (cI, 110, .inl (upd (fun _ => 0) (0 : Int32).toNatClampNeg 0)))).set 18 ((u 17), .inl (cI, 110, .inl (upd (fun _ => 0) (0 : Int32).toNatClampNeg (-1))))).set 19 ((u 18), .inl (cI, 110, .inl (upd (fun _ => 0) (0 : Int32).toNatClampNeg (-1))))) A) (by decide) (Nat.le_of_ble_eq_true rfl) rfl ?_
  intro p e s m args below meth c ls A H S hr hlocks hnm hl hK hP hD hS hA hB
  have hx := S.1
  have hb := S.2.1
  refine xgs S hB.z1 hS kw_3_228 rfl dX5_partB_0 ?_
  refine lv_aload_n hx hb dX5_partB_3 rfl (lv_at hl 0 rfl) ?_
  refine xg (ci := 5) S inX5 rfl hK hP (q0 := 13) rfl 1 (by decide) rfl kw_1_111 rfl dX5_partB_4 ?_
  refine lv_iload_n hx hb dX5_partB_7 rfl (lv_at hl 1 rfl) ?_
  refine xiald (t0 := 0) (v := 1) S hK hP (q0 := 14) rfl rfl (vin rfl) rfl dX5_partB_8 ?_
  refine xti (v := 0) S hB.t1 hS (vin rfl) rfl dX5_partB_9 ?_
  refine lv_iconst (v := 4) hx hb dX5_partB_10 (by decide) ?_
  refine lv_icmp_lt (tgt := 23) hx hb dX5_partB_11 (by decide) (fun _ => ?_) (fun c => absurd c (by decide))
  refine lv_iconst (v := (-1)) hx hb dX5_partB_23 (by decide) ?_
  exact wEnd S hr hlocks hP hD hS (Nat.le_of_ble_eq_true rfl) (Nat.le_of_ble_eq_true rfl) dX5_partB_24 rfl

set_option maxHeartbeats 8000000 in
set_option maxRecDepth 100000 in
theorem c_X5_partC_1 (l : Launch) (D : va_G) (cI cZ cJ : ClassId) (o : Nat) (u : Nat → Nat) (ra ga : Nat → Nat) (sz : Nat) (x2 : Int32) (lo_x2 : 0 ≤ x2) (hi_x2 : x2 ≤ 15) : Met l yX5_partC (uW yX5_partC cX5_partC 2 (some .int)) ({ frames := 0, cells := 0, slots := 0, locals := 0 }) (va_Pc [.ref (u 12), .int 0] (aS ra ga D (tyL cI cZ cJ) ((((((((xW o u cI cZ cJ).set 13 ((u 12), .inr (5, ([.int 0, .ref (u 13), .ref (u 14), .ref (u 15), .ref (u 16), .ref (u 17), .ref (u 18)].set 0 (.int 1))))).set 14 ((u 13), .inl (cI, 110, .inl (upd (fun _ => 0) (0 : Int32).toNatClampNeg 1)))).set 15 ((u 14), .inl (cI, 110, .inl (upd (fun _ => 0) (0 : Int32).toNatClampNeg x2)))).set 16 ((u 15), .inl (cI, 110, .inl (upd (fun _ => 0) (0 : Int32).toNatClampNeg 0)))).set 17 ((u 16), .inl (cI, 110, .inl (upd (fun _ => 0) (0 : Int32).toNatClampNeg 0)))).set 18 ((u 17), .inl (cI, 110, .inl (upd (fun _ => 0) (0 : Int32).toNatClampNeg (-1))))).set 19 ((u 18), .inl (cI, 110, .inl (upd (fun _ => 0) (0 : Int32).toNatClampNeg (-1))))) sz)) (wQi ((-1)) D ((((((((xW o u cI cZ cJ).set 13 ((u 12), .inr (5, ([.int 0, .ref (u 13), .ref (u 14), .ref (u 15), .ref (u 16), .ref (u 17), .ref (u 18)].set 0 (.int 1))))).set 14 ((u 13), .inl (cI, 110, .inl (upd (fun _ => 0) (0 : Int32).toNatClampNeg 1)))).set 15 ((u 14), .inl (cI, 110, .inl (upd (fun _ => 0) (0 : Int32).toNatClampNeg x2)))).set 16 ((u 15), .inl (cI, 110, .inl (upd (fun _ => 0) (0 : Int32).toNatClampNeg 0)))).set 17 ((u 16), .inl (cI, 110, .inl (upd (fun _ => 0) (0 : Int32).toNatClampNeg 0)))).set 18 ((u 17), .inl (cI, 110, .inl (upd (fun _ => 0) (0 : Int32).toNatClampNeg (-1))))).set 19 ((u 18), .inl (cI, 110, .inl (upd (fun _ => 0) (0 : Int32).toNatClampNeg (-1))))) (va_A ((((((((xW o u cI cZ cJ).set 13 ((u 12), .inr (5, ([.int 0, .ref (u 13), .ref (u 14), .ref (u 15), .ref (u 16), .ref (u 17), .ref (u 18)].set 0 (.int 1))))).set 14 ((u 13), .inl (cI, 110, .inl (upd (fun _ => 0) (0 : Int32).toNatClampNeg 1)))).set 15 ((u 14), .inl (cI, 110, .inl (upd (fun _ => 0) (0 : Int32).toNatClampNeg x2)))).set 16 ((u 15), .inl (cI, 110, .inl (upd (fun _ => 0) (0 : Int32).toNatClampNeg 0)))).set 17 ((u 16), .inl (cI, 110, .inl (upd (fun _ => 0) (0 : Int32).toNatClampNeg 0)))).set 18 ((u 17), .inl (cI, 110, .inl (upd (fun _ => 0) (0 : Int32).toNatClampNeg (-1))))).set 19 ((u 18), .inl (cI, 110, .inl (upd (fun _ => 0) (0 : Int32).toNatClampNeg (-1))))) sz)) 0 0 (va_A ((((((((xW o u cI cZ cJ).set 13 ((u 12), .inr (5, ([.int 0, .ref (u 13), .ref (u 14), .ref (u 15), .ref (u 16), .ref (u 17), .ref (u 18)].set 0 (.int 1))))).set 14 ((u 13), .inl (cI, 110, .inl (upd (fun _ => 0) (0 : Int32).toNatClampNeg 1)))).set 15 ((u 14), .inl (cI, 110, .inl (upd (fun _ => 0) (0 : Int32).toNatClampNeg x2)))).set 16 ((u 15), .inl (cI, 110, .inl (upd (fun _ => 0) (0 : Int32).toNatClampNeg 0)))).set 17 ((u 16), .inl (cI, 110, .inl (upd (fun _ => 0) (0 : Int32).toNatClampNeg 0)))).set 18 ((u 17), .inl (cI, 110, .inl (upd (fun _ => 0) (0 : Int32).toNatClampNeg (-1))))).set 19 ((u 18), .inl (cI, 110, .inl (upd (fun _ => 0) (0 : Int32).toNatClampNeg (-1))))) sz) := by
  refine aStart (lv := [(0, .ref (u 12)), (1, .int 0)]) (Qc := fun A => wQi ((-1)) D ((((((((xW o u cI cZ cJ).set 13 ((u 12), .inr (5, ([.int 0, .ref (u 13), .ref (u 14), .ref (u 15), .ref (u 16), .ref (u 17), .ref (u 18)].set 0 (.int 1))))).set 14 ((u 13), .inl (cI, 110, .inl (upd (fun _ => 0) (0 : Int32).toNatClampNeg 1)))).set 15 ((u 14), .inl (cI, 110, .inl (upd (fun _ => 0) (0 : Int32).toNatClampNeg x2)))).set 16 ((u 15), .inl (cI, 110, .inl (upd (fun _ => 0) (0 : Int32).toNatClampNeg 0)))).set 17 ((u 16), .inl (cI, 110, .inl (upd (fun _ => 0) (0 : Int32).toNatClampNeg 0)))).set 18 ((u 17), .inl (cI, 110, .inl (upd (fun _ => 0) (0 : Int32).toNatClampNeg (-1))))).set 19 ((u 18), .inl (cI, 110, .inl (upd (fun _ => 0) (0 : Int32).toNatClampNeg (-1))))) A) (by decide) (Nat.le_of_ble_eq_true rfl) rfl ?_
  intro p e s m args below meth c ls A H S hr hlocks hnm hl hK hP hD hS hA hB
  have hx := S.1
  have hb := S.2.1
  refine xgs S hB.z2 hS kw_3_222 rfl dX5_partC_0 ?_
  refine lv_aload_n hx hb dX5_partC_3 rfl (lv_at hl 0 rfl) ?_
  refine xg (ci := 5) S inX5 rfl hK hP (q0 := 13) rfl 1 (by decide) rfl kw_1_111 rfl dX5_partC_4 ?_
  refine lv_iload_n hx hb dX5_partC_7 rfl (lv_at hl 1 rfl) ?_
  refine xiald (t0 := 0) (v := 1) S hK hP (q0 := 14) rfl rfl (vin rfl) rfl dX5_partC_8 ?_
  refine xti (v := 0) S hB.t2 hS (vin rfl) rfl dX5_partC_9 ?_
  refine lv_iconst (v := 4) hx hb dX5_partC_10 (by decide) ?_
  refine lv_icmp_lt (tgt := 23) hx hb dX5_partC_11 (by decide) (fun _ => ?_) (fun c => absurd c (by decide))
  refine lv_iconst (v := (-1)) hx hb dX5_partC_23 (by decide) ?_
  exact wEnd S hr hlocks hP hD hS (Nat.le_of_ble_eq_true rfl) (Nat.le_of_ble_eq_true rfl) dX5_partC_24 rfl

set_option maxHeartbeats 8000000 in
set_option maxRecDepth 100000 in
theorem c_X5_add_1 (l : Launch) (D : va_G) (cI cZ cJ : ClassId) (o : Nat) (u : Nat → Nat) (ra ga : Nat → Nat) (sz : Nat) (x2 : Int32) (lo_x2 : 0 ≤ x2) (hi_x2 : x2 ≤ 15) : Met l yX5_add (uW yX5_add cX5_add 6 (some .int)) ({ frames := 1, cells := 0, slots := 0, locals := 22 }) (va_Pc [.ref (u 12), .int 1, .int x2, .int 0, .int 0] (aS ra ga D (tyL cI cZ cJ) (xW o u cI cZ cJ) sz)) (wQi (0) D ((((((((xW o u cI cZ cJ).set 13 ((u 12), .inr (5, ([.int 0, .ref (u 13), .ref (u 14), .ref (u 15), .ref (u 16), .ref (u 17), .ref (u 18)].set 0 (.int 1))))).set 14 ((u 13), .inl (cI, 110, .inl (upd (fun _ => 0) (0 : Int32).toNatClampNeg 1)))).set 15 ((u 14), .inl (cI, 110, .inl (upd (fun _ => 0) (0 : Int32).toNatClampNeg x2)))).set 16 ((u 15), .inl (cI, 110, .inl (upd (fun _ => 0) (0 : Int32).toNatClampNeg 0)))).set 17 ((u 16), .inl (cI, 110, .inl (upd (fun _ => 0) (0 : Int32).toNatClampNeg 0)))).set 18 ((u 17), .inl (cI, 110, .inl (upd (fun _ => 0) (0 : Int32).toNatClampNeg (-1))))).set 19 ((u 18), .inl (cI, 110, .inl (upd (fun _ => 0) (0 : Int32).toNatClampNeg (-1))))) (va_A (xW o u cI cZ cJ) sz)) 0 0 (va_A (xW o u cI cZ cJ) sz) := by
  refine aStart (lv := [(0, .ref (u 12)), (1, .int 1), (2, .int x2), (3, .int 0), (4, .int 0)]) (Qc := fun A => wQi (0) D ((((((((xW o u cI cZ cJ).set 13 ((u 12), .inr (5, ([.int 0, .ref (u 13), .ref (u 14), .ref (u 15), .ref (u 16), .ref (u 17), .ref (u 18)].set 0 (.int 1))))).set 14 ((u 13), .inl (cI, 110, .inl (upd (fun _ => 0) (0 : Int32).toNatClampNeg 1)))).set 15 ((u 14), .inl (cI, 110, .inl (upd (fun _ => 0) (0 : Int32).toNatClampNeg x2)))).set 16 ((u 15), .inl (cI, 110, .inl (upd (fun _ => 0) (0 : Int32).toNatClampNeg 0)))).set 17 ((u 16), .inl (cI, 110, .inl (upd (fun _ => 0) (0 : Int32).toNatClampNeg 0)))).set 18 ((u 17), .inl (cI, 110, .inl (upd (fun _ => 0) (0 : Int32).toNatClampNeg (-1))))).set 19 ((u 18), .inl (cI, 110, .inl (upd (fun _ => 0) (0 : Int32).toNatClampNeg (-1))))) A) (by decide) (Nat.le_of_ble_eq_true rfl) rfl ?_
  intro p e s m args below meth c ls A H S hr hlocks hnm hl hK hP hD hS hA hB
  have hx := S.1
  have hb := S.2.1
  refine lv_aload_n hx hb dX5_add_0 rfl (lv_at hl 0 rfl) ?_
  refine xg (ci := 5) S inX5 rfl hK hP xW_13 0 (by decide) rfl kw_1_107 rfl dX5_add_1 ?_
  refine lv_istore (lv' := [(5, .int 0), (0, .ref (u 12)), (1, .int 1), (2, .int x2), (3, .int 0), (4, .int 0)]) hx hb dX5_add_4 hl (by decide) rfl (fun ls hl => ?_)
  refine lv_aload_n hx hb dX5_add_6 rfl (lv_at hl 1 rfl) ?_
  refine lv_dup hx hb dX5_add_7 rfl ?_
  refine xg (ci := 5) S inX5 rfl hK hP xW_13 0 (by decide) rfl kw_1_107 rfl dX5_add_8 ?_
  refine lv_iconst (v := 1) hx hb dX5_add_11 (by decide) ?_
  refine xiadd (v := 1) S dX5_add_12 (by decide) ?_
  refine xp (ci := 5) (v := .int 1) S inX5 tyX5 tyX5_ok nmX5 rfl hK hP hD hS xW_13 0 (by decide) kw_1_107 rfl rfl rfl rfl (Nat.le_of_ble_eq_true rfl) dX5_add_13 (fun H locs hP hD hS => ?_)
  have hP : va_P D vwCl ((xW o u cI cZ cJ).set 13 ((u 12), .inr (5, ([.int 0, .ref (u 13), .ref (u 14), .ref (u 15), .ref (u 16), .ref (u 17), .ref (u 18)].set 0 (.int 1))))) H := hP
  have hD : va_D A ((xW o u cI cZ cJ).set 13 ((u 12), .inr (5, ([.int 0, .ref (u 13), .ref (u 14), .ref (u 15), .ref (u 16), .ref (u 17), .ref (u 18)].set 0 (.int 1))))) := hD
  refine lv_aload_n hx hb dX5_add_16 rfl (lv_at hl 1 rfl) ?_
  refine xg (ci := 5) S inX5 rfl hK hP (q0 := 13) rfl 1 (by decide) rfl kw_1_111 rfl dX5_add_17 ?_
  refine lv_iload hx hb dX5_add_20 (lv_at hl 0 rfl) ?_
  refine lv_iload_n hx hb dX5_add_22 rfl (lv_at hl 2 rfl) ?_
  refine xiast (t0 := 0) S hK hP hD hS (q0 := 14) rfl rfl (vin rfl) dX5_add_23 (fun H locs hP hD hS => ?_)
  have hP : va_P D vwCl (((xW o u cI cZ cJ).set 13 ((u 12), .inr (5, ([.int 0, .ref (u 13), .ref (u 14), .ref (u 15), .ref (u 16), .ref (u 17), .ref (u 18)].set 0 (.int 1))))).set 14 ((u 13), .inl (cI, 110, .inl (upd (fun _ => 0) (0 : Int32).toNatClampNeg 1)))) H := hP
  have hD : va_D A (((xW o u cI cZ cJ).set 13 ((u 12), .inr (5, ([.int 0, .ref (u 13), .ref (u 14), .ref (u 15), .ref (u 16), .ref (u 17), .ref (u 18)].set 0 (.int 1))))).set 14 ((u 13), .inl (cI, 110, .inl (upd (fun _ => 0) (0 : Int32).toNatClampNeg 1)))) := hD
  refine lv_aload_n hx hb dX5_add_24 rfl (lv_at hl 1 rfl) ?_
  refine xg (ci := 5) S inX5 rfl hK hP (q0 := 13) rfl 2 (by decide) rfl kw_1_116 rfl dX5_add_25 ?_
  refine lv_iload hx hb dX5_add_28 (lv_at hl 0 rfl) ?_
  refine lv_iload_n hx hb dX5_add_30 rfl (lv_at hl 3 rfl) ?_
  refine xiast (t0 := 0) S hK hP hD hS (q0 := 15) rfl rfl (vin rfl) dX5_add_31 (fun H locs hP hD hS => ?_)
  have hP : va_P D vwCl ((((xW o u cI cZ cJ).set 13 ((u 12), .inr (5, ([.int 0, .ref (u 13), .ref (u 14), .ref (u 15), .ref (u 16), .ref (u 17), .ref (u 18)].set 0 (.int 1))))).set 14 ((u 13), .inl (cI, 110, .inl (upd (fun _ => 0) (0 : Int32).toNatClampNeg 1)))).set 15 ((u 14), .inl (cI, 110, .inl (upd (fun _ => 0) (0 : Int32).toNatClampNeg x2)))) H := hP
  have hD : va_D A ((((xW o u cI cZ cJ).set 13 ((u 12), .inr (5, ([.int 0, .ref (u 13), .ref (u 14), .ref (u 15), .ref (u 16), .ref (u 17), .ref (u 18)].set 0 (.int 1))))).set 14 ((u 13), .inl (cI, 110, .inl (upd (fun _ => 0) (0 : Int32).toNatClampNeg 1)))).set 15 ((u 14), .inl (cI, 110, .inl (upd (fun _ => 0) (0 : Int32).toNatClampNeg x2)))) := hD
  refine lv_aload_n hx hb dX5_add_32 rfl (lv_at hl 1 rfl) ?_
  refine xg (ci := 5) S inX5 rfl hK hP (q0 := 13) rfl 3 (by decide) rfl kw_1_120 rfl dX5_add_33 ?_
  refine lv_iload hx hb dX5_add_36 (lv_at hl 0 rfl) ?_
  refine lv_iload_n hx hb dX5_add_38 rfl (lv_at hl 4 rfl) ?_
  refine xiast (t0 := 0) S hK hP hD hS (q0 := 16) rfl rfl (vin rfl) dX5_add_39 (fun H locs hP hD hS => ?_)
  have hP : va_P D vwCl (((((xW o u cI cZ cJ).set 13 ((u 12), .inr (5, ([.int 0, .ref (u 13), .ref (u 14), .ref (u 15), .ref (u 16), .ref (u 17), .ref (u 18)].set 0 (.int 1))))).set 14 ((u 13), .inl (cI, 110, .inl (upd (fun _ => 0) (0 : Int32).toNatClampNeg 1)))).set 15 ((u 14), .inl (cI, 110, .inl (upd (fun _ => 0) (0 : Int32).toNatClampNeg x2)))).set 16 ((u 15), .inl (cI, 110, .inl (upd (fun _ => 0) (0 : Int32).toNatClampNeg 0)))) H := hP
  have hD : va_D A (((((xW o u cI cZ cJ).set 13 ((u 12), .inr (5, ([.int 0, .ref (u 13), .ref (u 14), .ref (u 15), .ref (u 16), .ref (u 17), .ref (u 18)].set 0 (.int 1))))).set 14 ((u 13), .inl (cI, 110, .inl (upd (fun _ => 0) (0 : Int32).toNatClampNeg 1)))).set 15 ((u 14), .inl (cI, 110, .inl (upd (fun _ => 0) (0 : Int32).toNatClampNeg x2)))).set 16 ((u 15), .inl (cI, 110, .inl (upd (fun _ => 0) (0 : Int32).toNatClampNeg 0)))) := hD
  refine lv_aload_n hx hb dX5_add_40 rfl (lv_at hl 1 rfl) ?_
  refine xg (ci := 5) S inX5 rfl hK hP (q0 := 13) rfl 4 (by decide) rfl kw_1_125 rfl dX5_add_41 ?_
  refine lv_iload hx hb dX5_add_44 (lv_at hl 0 rfl) ?_
  refine lv_iload hx hb dX5_add_46 (lv_at hl 5 rfl) ?_
  refine xiast (t0 := 0) S hK hP hD hS (q0 := 17) rfl rfl (vin rfl) dX5_add_48 (fun H locs hP hD hS => ?_)
  have hP : va_P D vwCl ((((((xW o u cI cZ cJ).set 13 ((u 12), .inr (5, ([.int 0, .ref (u 13), .ref (u 14), .ref (u 15), .ref (u 16), .ref (u 17), .ref (u 18)].set 0 (.int 1))))).set 14 ((u 13), .inl (cI, 110, .inl (upd (fun _ => 0) (0 : Int32).toNatClampNeg 1)))).set 15 ((u 14), .inl (cI, 110, .inl (upd (fun _ => 0) (0 : Int32).toNatClampNeg x2)))).set 16 ((u 15), .inl (cI, 110, .inl (upd (fun _ => 0) (0 : Int32).toNatClampNeg 0)))).set 17 ((u 16), .inl (cI, 110, .inl (upd (fun _ => 0) (0 : Int32).toNatClampNeg 0)))) H := hP
  have hD : va_D A ((((((xW o u cI cZ cJ).set 13 ((u 12), .inr (5, ([.int 0, .ref (u 13), .ref (u 14), .ref (u 15), .ref (u 16), .ref (u 17), .ref (u 18)].set 0 (.int 1))))).set 14 ((u 13), .inl (cI, 110, .inl (upd (fun _ => 0) (0 : Int32).toNatClampNeg 1)))).set 15 ((u 14), .inl (cI, 110, .inl (upd (fun _ => 0) (0 : Int32).toNatClampNeg x2)))).set 16 ((u 15), .inl (cI, 110, .inl (upd (fun _ => 0) (0 : Int32).toNatClampNeg 0)))).set 17 ((u 16), .inl (cI, 110, .inl (upd (fun _ => 0) (0 : Int32).toNatClampNeg 0)))) := hD
  refine lv_aload_n hx hb dX5_add_49 rfl (lv_at hl 1 rfl) ?_
  refine xg (ci := 5) S inX5 rfl hK hP (q0 := 13) rfl 5 (by decide) rfl kw_1_130 rfl dX5_add_50 ?_
  refine lv_iload hx hb dX5_add_53 (lv_at hl 0 rfl) ?_
  refine lv_iconst (v := (-1)) hx hb dX5_add_55 (by decide) ?_
  refine xiast (t0 := 0) S hK hP hD hS (q0 := 18) rfl rfl (vin rfl) dX5_add_56 (fun H locs hP hD hS => ?_)
  have hP : va_P D vwCl (((((((xW o u cI cZ cJ).set 13 ((u 12), .inr (5, ([.int 0, .ref (u 13), .ref (u 14), .ref (u 15), .ref (u 16), .ref (u 17), .ref (u 18)].set 0 (.int 1))))).set 14 ((u 13), .inl (cI, 110, .inl (upd (fun _ => 0) (0 : Int32).toNatClampNeg 1)))).set 15 ((u 14), .inl (cI, 110, .inl (upd (fun _ => 0) (0 : Int32).toNatClampNeg x2)))).set 16 ((u 15), .inl (cI, 110, .inl (upd (fun _ => 0) (0 : Int32).toNatClampNeg 0)))).set 17 ((u 16), .inl (cI, 110, .inl (upd (fun _ => 0) (0 : Int32).toNatClampNeg 0)))).set 18 ((u 17), .inl (cI, 110, .inl (upd (fun _ => 0) (0 : Int32).toNatClampNeg (-1))))) H := hP
  have hD : va_D A (((((((xW o u cI cZ cJ).set 13 ((u 12), .inr (5, ([.int 0, .ref (u 13), .ref (u 14), .ref (u 15), .ref (u 16), .ref (u 17), .ref (u 18)].set 0 (.int 1))))).set 14 ((u 13), .inl (cI, 110, .inl (upd (fun _ => 0) (0 : Int32).toNatClampNeg 1)))).set 15 ((u 14), .inl (cI, 110, .inl (upd (fun _ => 0) (0 : Int32).toNatClampNeg x2)))).set 16 ((u 15), .inl (cI, 110, .inl (upd (fun _ => 0) (0 : Int32).toNatClampNeg 0)))).set 17 ((u 16), .inl (cI, 110, .inl (upd (fun _ => 0) (0 : Int32).toNatClampNeg 0)))).set 18 ((u 17), .inl (cI, 110, .inl (upd (fun _ => 0) (0 : Int32).toNatClampNeg (-1))))) := hD
  refine lv_aload_n hx hb dX5_add_57 rfl (lv_at hl 1 rfl) ?_
  refine xg (ci := 5) S inX5 rfl hK hP (q0 := 13) rfl 6 (by decide) rfl kw_1_134 rfl dX5_add_58 ?_
  refine lv_iload hx hb dX5_add_61 (lv_at hl 0 rfl) ?_
  refine lv_iconst (v := (-1)) hx hb dX5_add_63 (by decide) ?_
  refine xiast (t0 := 0) S hK hP hD hS (q0 := 19) rfl rfl (vin rfl) dX5_add_64 (fun H locs hP hD hS => ?_)
  have hP : va_P D vwCl ((((((((xW o u cI cZ cJ).set 13 ((u 12), .inr (5, ([.int 0, .ref (u 13), .ref (u 14), .ref (u 15), .ref (u 16), .ref (u 17), .ref (u 18)].set 0 (.int 1))))).set 14 ((u 13), .inl (cI, 110, .inl (upd (fun _ => 0) (0 : Int32).toNatClampNeg 1)))).set 15 ((u 14), .inl (cI, 110, .inl (upd (fun _ => 0) (0 : Int32).toNatClampNeg x2)))).set 16 ((u 15), .inl (cI, 110, .inl (upd (fun _ => 0) (0 : Int32).toNatClampNeg 0)))).set 17 ((u 16), .inl (cI, 110, .inl (upd (fun _ => 0) (0 : Int32).toNatClampNeg 0)))).set 18 ((u 17), .inl (cI, 110, .inl (upd (fun _ => 0) (0 : Int32).toNatClampNeg (-1))))).set 19 ((u 18), .inl (cI, 110, .inl (upd (fun _ => 0) (0 : Int32).toNatClampNeg (-1))))) H := hP
  have hD : va_D A ((((((((xW o u cI cZ cJ).set 13 ((u 12), .inr (5, ([.int 0, .ref (u 13), .ref (u 14), .ref (u 15), .ref (u 16), .ref (u 17), .ref (u 18)].set 0 (.int 1))))).set 14 ((u 13), .inl (cI, 110, .inl (upd (fun _ => 0) (0 : Int32).toNatClampNeg 1)))).set 15 ((u 14), .inl (cI, 110, .inl (upd (fun _ => 0) (0 : Int32).toNatClampNeg x2)))).set 16 ((u 15), .inl (cI, 110, .inl (upd (fun _ => 0) (0 : Int32).toNatClampNeg 0)))).set 17 ((u 16), .inl (cI, 110, .inl (upd (fun _ => 0) (0 : Int32).toNatClampNeg 0)))).set 18 ((u 17), .inl (cI, 110, .inl (upd (fun _ => 0) (0 : Int32).toNatClampNeg (-1))))).set 19 ((u 18), .inl (cI, 110, .inl (upd (fun _ => 0) (0 : Int32).toNatClampNeg (-1))))) := hD
  refine lv_aload_n hx hb dX5_add_65 rfl (lv_at hl 1 rfl) ?_
  refine lv_aload_n hx hb dX5_add_66 rfl (lv_at hl 1 rfl) ?_
  refine lv_iload hx hb dX5_add_67 (lv_at hl 0 rfl) ?_
  refine aVi (As := [.int 0]) (ci := 5) S (c_X5_partA_1 l D cI cZ cJ o u ra ga H.size x2 lo_x2 hi_x2) mi_X5_partA kw_6_57 rfl rfl ⟨Nat.le_of_ble_eq_true rfl, Nat.le_of_ble_eq_true rfl⟩ hP hD hK hS hA hB (k := 13) rfl rfl rfl hl.1 (Nat.le_of_ble_eq_true rfl) ⟨Nat.le_of_ble_eq_true rfl, Nat.le_of_ble_eq_true rfl⟩ dX5_add_69 (fun H locs hz hP hD hS => ?_)
  refine lv_iload hx hb dX5_add_72 (lv_at hl 0 rfl) ?_
  refine aVv (As := [.int (-1), .int 0]) (ci := 5) S (c_X5_claim_1 l D cI cZ cJ o u ra ga H.size x2 lo_x2 hi_x2) mi_X5_claim kw_6_58 rfl rfl ⟨Nat.le_of_ble_eq_true rfl, Nat.le_of_ble_eq_true rfl⟩ hP hD hK hS hA hB (k := 13) rfl rfl rfl hl.1 (Nat.le_of_ble_eq_true rfl) ⟨Nat.le_of_ble_eq_true rfl, Nat.le_of_ble_eq_true rfl⟩ dX5_add_74 (fun H locs hz hP hD hS => ?_)
  refine lv_aload_n hx hb dX5_add_77 rfl (lv_at hl 1 rfl) ?_
  refine lv_aload_n hx hb dX5_add_78 rfl (lv_at hl 1 rfl) ?_
  refine lv_iload hx hb dX5_add_79 (lv_at hl 0 rfl) ?_
  refine aVi (As := [.int 0]) (ci := 5) S (c_X5_partB_1 l D cI cZ cJ o u ra ga H.size x2 lo_x2 hi_x2) mi_X5_partB kw_6_62 rfl rfl ⟨Nat.le_of_ble_eq_true rfl, Nat.le_of_ble_eq_true rfl⟩ hP hD hK hS hA hB (k := 13) rfl rfl rfl hl.1 (Nat.le_of_ble_eq_true rfl) ⟨Nat.le_of_ble_eq_true rfl, Nat.le_of_ble_eq_true rfl⟩ dX5_add_81 (fun H locs hz hP hD hS => ?_)
  refine lv_iload hx hb dX5_add_84 (lv_at hl 0 rfl) ?_
  refine aVv (As := [.int (-1), .int 0]) (ci := 5) S (c_X5_claim_1 l D cI cZ cJ o u ra ga H.size x2 lo_x2 hi_x2) mi_X5_claim kw_6_58 rfl rfl ⟨Nat.le_of_ble_eq_true rfl, Nat.le_of_ble_eq_true rfl⟩ hP hD hK hS hA hB (k := 13) rfl rfl rfl hl.1 (Nat.le_of_ble_eq_true rfl) ⟨Nat.le_of_ble_eq_true rfl, Nat.le_of_ble_eq_true rfl⟩ dX5_add_86 (fun H locs hz hP hD hS => ?_)
  refine lv_aload_n hx hb dX5_add_89 rfl (lv_at hl 1 rfl) ?_
  refine lv_aload_n hx hb dX5_add_90 rfl (lv_at hl 1 rfl) ?_
  refine lv_iload hx hb dX5_add_91 (lv_at hl 0 rfl) ?_
  refine aVi (As := [.int 0]) (ci := 5) S (c_X5_partC_1 l D cI cZ cJ o u ra ga H.size x2 lo_x2 hi_x2) mi_X5_partC kw_6_63 rfl rfl ⟨Nat.le_of_ble_eq_true rfl, Nat.le_of_ble_eq_true rfl⟩ hP hD hK hS hA hB (k := 13) rfl rfl rfl hl.1 (Nat.le_of_ble_eq_true rfl) ⟨Nat.le_of_ble_eq_true rfl, Nat.le_of_ble_eq_true rfl⟩ dX5_add_93 (fun H locs hz hP hD hS => ?_)
  refine lv_iload hx hb dX5_add_96 (lv_at hl 0 rfl) ?_
  refine aVv (As := [.int (-1), .int 0]) (ci := 5) S (c_X5_claim_1 l D cI cZ cJ o u ra ga H.size x2 lo_x2 hi_x2) mi_X5_claim kw_6_58 rfl rfl ⟨Nat.le_of_ble_eq_true rfl, Nat.le_of_ble_eq_true rfl⟩ hP hD hK hS hA hB (k := 13) rfl rfl rfl hl.1 (Nat.le_of_ble_eq_true rfl) ⟨Nat.le_of_ble_eq_true rfl, Nat.le_of_ble_eq_true rfl⟩ dX5_add_98 (fun H locs hz hP hD hS => ?_)
  refine lv_iload hx hb dX5_add_101 (lv_at hl 0 rfl) ?_
  exact wEnd S hr hlocks hP hD hS (Nat.le_of_ble_eq_true rfl) (Nat.le_of_ble_eq_true rfl) dX5_add_103 rfl

set_option maxHeartbeats 8000000 in
set_option maxRecDepth 100000 in
theorem c_X8_node_5 (l : Launch) (D : va_G) (cI cZ cJ : ClassId) (o : Nat) (u : Nat → Nat) (hst : l.stackTraces = false) (ra ga : Nat → Nat) (sz : Nat) (x2 : Int32) (x3 : Int32) (x4 : Int32) (hi_x2 : x2 ≤ (-1)) : vx_Met l yX8_node (uW yX8_node cX8_node 5 (some .int)) ({ frames := 7, cells := 1, slots := 6, locals := 102 }) (va_Pc [.ref o, .int 1, .int x2, .int x3, .int x4] (aS ra ga D (tyL cI cZ cJ) (xW o u cI cZ cJ) sz)) (nQi (va_A (xW o u cI cZ cJ) sz)) (wX "java/lang/IllegalArgumentException" D (xW o u cI cZ cJ) (va_A (xW o u cI cZ cJ) sz)) 1 6 (va_A (xW o u cI cZ cJ) sz) := by
  refine xStart (lv := [(0, .ref o), (1, .int 1), (2, .int x2), (3, .int x3), (4, .int x4)]) (Qc := fun A => nQi A) (XC := fun A => wX "java/lang/IllegalArgumentException" D (xW o u cI cZ cJ) A) (by decide) (Nat.le_of_ble_eq_true rfl) rfl ?_
  intro p e s m args below meth c ls A H S hr hlocks hnm hl hK hP hD hS hA hB hnt
  have hx := S.1
  have hb := S.2.1
  refine lv_aload_n hx hb dX8_node_0 rfl (lv_at hl 0 rfl) ?_
  refine xg (ci := 8) S inX8 rfl hK hP xW_0 1 (by decide) rfl kw_3_21 rfl dX8_node_1 ?_
  refine lv_iload_n hx hb dX8_node_4 rfl (lv_at hl 1 rfl) ?_
  refine lv_iload_n hx hb dX8_node_5 rfl (lv_at hl 2 rfl) ?_
  refine lv_iload_n hx hb dX8_node_6 rfl (lv_at hl 3 rfl) ?_
  refine lv_iload hx hb dX8_node_7 (lv_at hl 4 rfl) ?_
  refine aVi (As := [.int 1, .int x2, .int x3, .int x4]) (ci := 5) S (c_X5_suits_5 l D cI cZ cJ o u ra ga H.size x2 x3 x4 hi_x2) mi_X5_suits kw_6_27 rfl rfl ⟨Nat.le_of_ble_eq_true rfl, Nat.le_of_ble_eq_true rfl⟩ hP hD hK hS hA hB xW_13 rfl rfl hl.1 (Nat.le_of_ble_eq_true rfl) ⟨Nat.le_of_ble_eq_true rfl, Nat.le_of_ble_eq_true rfl⟩ dX8_node_9 (fun H locs hz hP hD hS => ?_)
  exact tSv (As := [.int 0]) S (c_X8_needArgument_0 l D cI cZ cJ o u hst ra ga H.size) ms_X8_needArgument kw_4_4 rfl rfl ⟨Nat.le_of_ble_eq_true rfl, Nat.le_of_ble_eq_true rfl⟩ hP hD hK hS hA hB hl.1 (Nat.le_of_ble_eq_true rfl) ⟨Nat.le_of_ble_eq_true rfl, Nat.le_of_ble_eq_true rfl⟩ dX8_node_12 hnt hlocks (Nat.le_of_ble_eq_true rfl) (Nat.le_of_ble_eq_true rfl)

set_option maxHeartbeats 8000000 in
set_option maxRecDepth 100000 in
theorem c_X8_node_6 (l : Launch) (D : va_G) (cI cZ cJ : ClassId) (o : Nat) (u : Nat → Nat) (hst : l.stackTraces = false) (ra ga : Nat → Nat) (sz : Nat) (x2 : Int32) (x3 : Int32) (x4 : Int32) (lo_x2 : 16 ≤ x2) : vx_Met l yX8_node (uW yX8_node cX8_node 5 (some .int)) ({ frames := 7, cells := 1, slots := 6, locals := 102 }) (va_Pc [.ref o, .int 1, .int x2, .int x3, .int x4] (aS ra ga D (tyL cI cZ cJ) (xW o u cI cZ cJ) sz)) (nQi (va_A (xW o u cI cZ cJ) sz)) (wX "java/lang/IllegalArgumentException" D (xW o u cI cZ cJ) (va_A (xW o u cI cZ cJ) sz)) 1 6 (va_A (xW o u cI cZ cJ) sz) := by
  refine xStart (lv := [(0, .ref o), (1, .int 1), (2, .int x2), (3, .int x3), (4, .int x4)]) (Qc := fun A => nQi A) (XC := fun A => wX "java/lang/IllegalArgumentException" D (xW o u cI cZ cJ) A) (by decide) (Nat.le_of_ble_eq_true rfl) rfl ?_
  intro p e s m args below meth c ls A H S hr hlocks hnm hl hK hP hD hS hA hB hnt
  have hx := S.1
  have hb := S.2.1
  refine lv_aload_n hx hb dX8_node_0 rfl (lv_at hl 0 rfl) ?_
  refine xg (ci := 8) S inX8 rfl hK hP xW_0 1 (by decide) rfl kw_3_21 rfl dX8_node_1 ?_
  refine lv_iload_n hx hb dX8_node_4 rfl (lv_at hl 1 rfl) ?_
  refine lv_iload_n hx hb dX8_node_5 rfl (lv_at hl 2 rfl) ?_
  refine lv_iload_n hx hb dX8_node_6 rfl (lv_at hl 3 rfl) ?_
  refine lv_iload hx hb dX8_node_7 (lv_at hl 4 rfl) ?_
  refine aVi (As := [.int 1, .int x2, .int x3, .int x4]) (ci := 5) S (c_X5_suits_6 l D cI cZ cJ o u ra ga H.size x2 x3 x4 lo_x2) mi_X5_suits kw_6_27 rfl rfl ⟨Nat.le_of_ble_eq_true rfl, Nat.le_of_ble_eq_true rfl⟩ hP hD hK hS hA hB xW_13 rfl rfl hl.1 (Nat.le_of_ble_eq_true rfl) ⟨Nat.le_of_ble_eq_true rfl, Nat.le_of_ble_eq_true rfl⟩ dX8_node_9 (fun H locs hz hP hD hS => ?_)
  exact tSv (As := [.int 0]) S (c_X8_needArgument_0 l D cI cZ cJ o u hst ra ga H.size) ms_X8_needArgument kw_4_4 rfl rfl ⟨Nat.le_of_ble_eq_true rfl, Nat.le_of_ble_eq_true rfl⟩ hP hD hK hS hA hB hl.1 (Nat.le_of_ble_eq_true rfl) ⟨Nat.le_of_ble_eq_true rfl, Nat.le_of_ble_eq_true rfl⟩ dX8_node_12 hnt hlocks (Nat.le_of_ble_eq_true rfl) (Nat.le_of_ble_eq_true rfl)

set_option maxHeartbeats 8000000 in
set_option maxRecDepth 100000 in
theorem c_X5_suits_8 (l : Launch) (D : va_G) (cI cZ cJ : ClassId) (o : Nat) (u : Nat → Nat) (ra ga : Nat → Nat) (sz : Nat) (x2 : Int32) (x4 : Int32) (lo_x2 : 0 ≤ x2) (hi_x2 : x2 ≤ 15) (ne_x4_0 : ¬ x4 = 0) : Met l yX5_suits (uW yX5_suits cX5_suits 5 (some .boolean)) ({ frames := 2, cells := 0, slots := 0, locals := 42 }) (va_Pc [.ref (u 12), .int 1, .int x2, .int 0, .int x4] (aS ra ga D (tyL cI cZ cJ) (xW o u cI cZ cJ) sz)) (wQi (0) D (xW o u cI cZ cJ) (va_A (xW o u cI cZ cJ) sz)) 0 0 (va_A (xW o u cI cZ cJ) sz) := by
  refine aStart (lv := [(0, .ref (u 12)), (1, .int 1), (2, .int x2), (3, .int 0), (4, .int x4)]) (Qc := fun A => wQi (0) D (xW o u cI cZ cJ) A) (by decide) (Nat.le_of_ble_eq_true rfl) rfl ?_
  intro p e s m args below meth c ls A H S hr hlocks hnm hl hK hP hD hS hA hB
  have hx := S.1
  have hb := S.2.1
  refine lv_iload_n hx hb dX5_suits_0 rfl (lv_at hl 1 rfl) ?_
  refine lv_if_lt (tgt := 10) hx hb dX5_suits_1 (by decide) (fun c => absurd c (by decide)) (fun _ => ?_)
  refine lv_iload_n hx hb dX5_suits_4 rfl (lv_at hl 1 rfl) ?_
  refine lv_bipush (v := 21) hx hb dX5_suits_5 (by decide) ?_
  refine lv_icmp_le (tgt := 12) hx hb dX5_suits_7 (by decide) (fun _ => ?_) (fun c => absurd c (by decide))
  refine lv_aload_n hx hb dX5_suits_12 rfl (lv_at hl 0 rfl) ?_
  refine xgs S hB.z0 hS kw_3_91 rfl dX5_suits_13 ?_
  refine lv_iload_n hx hb dX5_suits_16 rfl (lv_at hl 1 rfl) ?_
  refine xti (v := 2) S hB.t0 hS (vin rfl) rfl dX5_suits_17 ?_
  refine lv_iload_n hx hb dX5_suits_18 rfl (lv_at hl 2 rfl) ?_
  refine aVi (As := [.int 2, .int x2]) (ci := 5) S (c_X5_fills_8 l D cI cZ cJ o u ra ga H.size x2 lo_x2 hi_x2) mi_X5_fills kw_6_31 rfl rfl ⟨Nat.le_of_ble_eq_true rfl, Nat.le_of_ble_eq_true rfl⟩ hP hD hK hS hA hB xW_13 rfl rfl hl.1 (Nat.le_of_ble_eq_true rfl) ⟨Nat.le_of_ble_eq_true rfl, Nat.le_of_ble_eq_true rfl⟩ dX5_suits_19 (fun H locs hz hP hD hS => ?_)
  refine lv_if_eq (tgt := 112) hx hb dX5_suits_22 (by decide) (fun c => absurd c (by decide)) (fun _ => ?_)
  refine lv_aload_n hx hb dX5_suits_25 rfl (lv_at hl 0 rfl) ?_
  refine xgs S hB.z1 hS kw_3_228 rfl dX5_suits_26 ?_
  refine lv_iload_n hx hb dX5_suits_29 rfl (lv_at hl 1 rfl) ?_
  refine xti (v := 0) S hB.t1 hS (vin rfl) rfl dX5_suits_30 ?_
  refine lv_iload_n hx hb dX5_suits_31 rfl (lv_at hl 3 rfl) ?_
  refine rdV (As := [.int 0, .int 0]) (ci := 5) S (c_X5_fills_3 l D cI cZ cJ o u) mi_X5_fills kw_6_31 ⟨rfl, rfl⟩ ⟨Nat.le_of_ble_eq_true rfl, Nat.le_of_ble_eq_true rfl⟩ hP hK xW_13 rfl rfl hl.1 (Nat.le_of_ble_eq_true rfl) ⟨Nat.le_of_ble_eq_true rfl, Nat.le_of_ble_eq_true rfl⟩ dX5_suits_32 ?_
  refine lv_if_eq (tgt := 112) hx hb dX5_suits_35 (by decide) (fun c => absurd c (by decide)) (fun _ => ?_)
  refine lv_aload_n hx hb dX5_suits_38 rfl (lv_at hl 0 rfl) ?_
  refine xgs S hB.z2 hS kw_3_222 rfl dX5_suits_39 ?_
  refine lv_iload_n hx hb dX5_suits_42 rfl (lv_at hl 1 rfl) ?_
  refine xti (v := 0) S hB.t2 hS (vin rfl) rfl dX5_suits_43 ?_
  refine lv_iload hx hb dX5_suits_44 (lv_at hl 4 rfl) ?_
  refine rdV (As := [.int 0, .int x4]) (ci := 5) S (c_X5_fills_4 l D cI cZ cJ o u x4 ne_x4_0) mi_X5_fills kw_6_31 ⟨rfl, rfl⟩ ⟨Nat.le_of_ble_eq_true rfl, Nat.le_of_ble_eq_true rfl⟩ hP hK xW_13 rfl rfl hl.1 (Nat.le_of_ble_eq_true rfl) ⟨Nat.le_of_ble_eq_true rfl, Nat.le_of_ble_eq_true rfl⟩ dX5_suits_46 ?_
  refine lv_if_eq (tgt := 112) hx hb dX5_suits_49 (by decide) (fun _ => ?_) (fun c => absurd c (by decide))
  refine lv_iconst (v := 0) hx hb dX5_suits_112 (by decide) ?_
  exact wEndZ S hr hlocks hP hD hS (Nat.le_of_ble_eq_true rfl) (Nat.le_of_ble_eq_true rfl) dX5_suits_113 rfl rfl

set_option maxHeartbeats 8000000 in
set_option maxRecDepth 100000 in
theorem c_X8_node_7 (l : Launch) (D : va_G) (cI cZ cJ : ClassId) (o : Nat) (u : Nat → Nat) (ra ga : Nat → Nat) (sz : Nat) (x2 : Int32) (lo_x2 : 0 ≤ x2) (hi_x2 : x2 ≤ 15) : Met l yX8_node (uW yX8_node cX8_node 5 (some .int)) ({ frames := 3, cells := 0, slots := 0, locals := 66 }) (va_Pc [.ref o, .int 1, .int x2, .int 0, .int 0] (aS ra ga D (tyL cI cZ cJ) (xW o u cI cZ cJ) sz)) (wQi (0) D ((((((((xW o u cI cZ cJ).set 13 ((u 12), .inr (5, ([.int 0, .ref (u 13), .ref (u 14), .ref (u 15), .ref (u 16), .ref (u 17), .ref (u 18)].set 0 (.int 1))))).set 14 ((u 13), .inl (cI, 110, .inl (upd (fun _ => 0) (0 : Int32).toNatClampNeg 1)))).set 15 ((u 14), .inl (cI, 110, .inl (upd (fun _ => 0) (0 : Int32).toNatClampNeg x2)))).set 16 ((u 15), .inl (cI, 110, .inl (upd (fun _ => 0) (0 : Int32).toNatClampNeg 0)))).set 17 ((u 16), .inl (cI, 110, .inl (upd (fun _ => 0) (0 : Int32).toNatClampNeg 0)))).set 18 ((u 17), .inl (cI, 110, .inl (upd (fun _ => 0) (0 : Int32).toNatClampNeg (-1))))).set 19 ((u 18), .inl (cI, 110, .inl (upd (fun _ => 0) (0 : Int32).toNatClampNeg (-1))))) (va_A (xW o u cI cZ cJ) sz)) 0 0 (va_A (xW o u cI cZ cJ) sz) := by
  refine aStart (lv := [(0, .ref o), (1, .int 1), (2, .int x2), (3, .int 0), (4, .int 0)]) (Qc := fun A => wQi (0) D ((((((((xW o u cI cZ cJ).set 13 ((u 12), .inr (5, ([.int 0, .ref (u 13), .ref (u 14), .ref (u 15), .ref (u 16), .ref (u 17), .ref (u 18)].set 0 (.int 1))))).set 14 ((u 13), .inl (cI, 110, .inl (upd (fun _ => 0) (0 : Int32).toNatClampNeg 1)))).set 15 ((u 14), .inl (cI, 110, .inl (upd (fun _ => 0) (0 : Int32).toNatClampNeg x2)))).set 16 ((u 15), .inl (cI, 110, .inl (upd (fun _ => 0) (0 : Int32).toNatClampNeg 0)))).set 17 ((u 16), .inl (cI, 110, .inl (upd (fun _ => 0) (0 : Int32).toNatClampNeg 0)))).set 18 ((u 17), .inl (cI, 110, .inl (upd (fun _ => 0) (0 : Int32).toNatClampNeg (-1))))).set 19 ((u 18), .inl (cI, 110, .inl (upd (fun _ => 0) (0 : Int32).toNatClampNeg (-1))))) A) (by decide) (Nat.le_of_ble_eq_true rfl) rfl ?_
  intro p e s m args below meth c ls A H S hr hlocks hnm hl hK hP hD hS hA hB
  have hx := S.1
  have hb := S.2.1
  refine lv_aload_n hx hb dX8_node_0 rfl (lv_at hl 0 rfl) ?_
  refine xg (ci := 8) S inX8 rfl hK hP xW_0 1 (by decide) rfl kw_3_21 rfl dX8_node_1 ?_
  refine lv_iload_n hx hb dX8_node_4 rfl (lv_at hl 1 rfl) ?_
  refine lv_iload_n hx hb dX8_node_5 rfl (lv_at hl 2 rfl) ?_
  refine lv_iload_n hx hb dX8_node_6 rfl (lv_at hl 3 rfl) ?_
  refine lv_iload hx hb dX8_node_7 (lv_at hl 4 rfl) ?_
  refine aVi (As := [.int 1, .int x2, .int 0, .int 0]) (ci := 5) S (c_X5_suits_7 l D cI cZ cJ o u ra ga H.size x2 lo_x2 hi_x2) mi_X5_suits kw_6_27 rfl rfl ⟨Nat.le_of_ble_eq_true rfl, Nat.le_of_ble_eq_true rfl⟩ hP hD hK hS hA hB xW_13 rfl rfl hl.1 (Nat.le_of_ble_eq_true rfl) ⟨Nat.le_of_ble_eq_true rfl, Nat.le_of_ble_eq_true rfl⟩ dX8_node_9 (fun H locs hz hP hD hS => ?_)
  refine aSv (As := [.int 1]) S (c_X8_needArgument_1 l D cI cZ cJ o u ra ga H.size) ms_X8_needArgument kw_4_4 rfl rfl ⟨Nat.le_of_ble_eq_true rfl, Nat.le_of_ble_eq_true rfl⟩ hP hD hK hS hA hB hl.1 (Nat.le_of_ble_eq_true rfl) ⟨Nat.le_of_ble_eq_true rfl, Nat.le_of_ble_eq_true rfl⟩ dX8_node_12 (fun H locs hz hP hD hS => ?_)
  refine lv_aload_n hx hb dX8_node_15 rfl (lv_at hl 0 rfl) ?_
  refine xg (ci := 8) S inX8 rfl hK hP xW_0 1 (by decide) rfl kw_3_21 rfl dX8_node_16 ?_
  refine xg (ci := 5) S inX5 rfl hK hP xW_13 0 (by decide) rfl kw_1_110 rfl dX8_node_19 ?_
  refine lv_bipush (v := 110) hx hb dX8_node_22 (by decide) ?_
  refine lv_icmp_ge (tgt := 31) hx hb dX8_node_24 (by decide) (fun c => absurd c (by decide)) (fun _ => ?_)
  refine lv_iconst (v := 1) hx hb dX8_node_27 (by decide) ?_
  refine lv_goto (tgt := 32) hx hb dX8_node_28 (by decide) ?_
  refine aSv (As := [.int 1]) S (c_X8_needState_0 l D cI cZ cJ o u ra ga H.size) ms_X8_needState kw_5_183 rfl rfl ⟨Nat.le_of_ble_eq_true rfl, Nat.le_of_ble_eq_true rfl⟩ hP hD hK hS hA hB hl.1 (Nat.le_of_ble_eq_true rfl) ⟨Nat.le_of_ble_eq_true rfl, Nat.le_of_ble_eq_true rfl⟩ dX8_node_32 (fun H locs hz hP hD hS => ?_)
  refine lv_aload_n hx hb dX8_node_35 rfl (lv_at hl 0 rfl) ?_
  refine lv_iconst (v := 1) hx hb dX8_node_36 (by decide) ?_
  refine xp (ci := 8) (v := .int 1) S inX8 tyX8 tyX8_ok nmX8 rfl hK hP hD hS xW_0 9 (by decide) kw_3_29 rfl rfl rfl rfl (Nat.le_of_ble_eq_true rfl) dX8_node_37 (fun H locs hP hD hS => ?_)
  have hP : va_P D vwCl (xW o u cI cZ cJ) H := hP
  have hD : va_D A (xW o u cI cZ cJ) := hD
  refine lv_aload_n hx hb dX8_node_40 rfl (lv_at hl 0 rfl) ?_
  refine xg (ci := 8) S inX8 rfl hK hP xW_0 1 (by decide) rfl kw_3_21 rfl dX8_node_41 ?_
  refine lv_iload_n hx hb dX8_node_44 rfl (lv_at hl 1 rfl) ?_
  refine lv_iload_n hx hb dX8_node_45 rfl (lv_at hl 2 rfl) ?_
  refine lv_iload_n hx hb dX8_node_46 rfl (lv_at hl 3 rfl) ?_
  refine lv_iload hx hb dX8_node_47 (lv_at hl 4 rfl) ?_
  refine aVi (As := [.int 1, .int x2, .int 0, .int 0]) (ci := 5) S (c_X5_add_1 l D cI cZ cJ o u ra ga H.size x2 lo_x2 hi_x2) mi_X5_add kw_6_53 rfl rfl ⟨Nat.le_of_ble_eq_true rfl, Nat.le_of_ble_eq_true rfl⟩ hP hD hK hS hA hB xW_13 rfl rfl hl.1 (Nat.le_of_ble_eq_true rfl) ⟨Nat.le_of_ble_eq_true rfl, Nat.le_of_ble_eq_true rfl⟩ dX8_node_49 (fun H locs hz hP hD hS => ?_)
  exact wEnd S hr hlocks hP hD hS (Nat.le_of_ble_eq_true rfl) (Nat.le_of_ble_eq_true rfl) dX8_node_52 rfl

set_option maxHeartbeats 8000000 in
set_option maxRecDepth 100000 in
theorem c_X8_node_8 (l : Launch) (D : va_G) (cI cZ cJ : ClassId) (o : Nat) (u : Nat → Nat) (hst : l.stackTraces = false) (ra ga : Nat → Nat) (sz : Nat) (x2 : Int32) (x4 : Int32) (lo_x2 : 0 ≤ x2) (hi_x2 : x2 ≤ 15) (ne_x4_0 : ¬ x4 = 0) : vx_Met l yX8_node (uW yX8_node cX8_node 5 (some .int)) ({ frames := 7, cells := 1, slots := 6, locals := 102 }) (va_Pc [.ref o, .int 1, .int x2, .int 0, .int x4] (aS ra ga D (tyL cI cZ cJ) (xW o u cI cZ cJ) sz)) (nQi (va_A (xW o u cI cZ cJ) sz)) (wX "java/lang/IllegalArgumentException" D (xW o u cI cZ cJ) (va_A (xW o u cI cZ cJ) sz)) 1 6 (va_A (xW o u cI cZ cJ) sz) := by
  refine xStart (lv := [(0, .ref o), (1, .int 1), (2, .int x2), (3, .int 0), (4, .int x4)]) (Qc := fun A => nQi A) (XC := fun A => wX "java/lang/IllegalArgumentException" D (xW o u cI cZ cJ) A) (by decide) (Nat.le_of_ble_eq_true rfl) rfl ?_
  intro p e s m args below meth c ls A H S hr hlocks hnm hl hK hP hD hS hA hB hnt
  have hx := S.1
  have hb := S.2.1
  refine lv_aload_n hx hb dX8_node_0 rfl (lv_at hl 0 rfl) ?_
  refine xg (ci := 8) S inX8 rfl hK hP xW_0 1 (by decide) rfl kw_3_21 rfl dX8_node_1 ?_
  refine lv_iload_n hx hb dX8_node_4 rfl (lv_at hl 1 rfl) ?_
  refine lv_iload_n hx hb dX8_node_5 rfl (lv_at hl 2 rfl) ?_
  refine lv_iload_n hx hb dX8_node_6 rfl (lv_at hl 3 rfl) ?_
  refine lv_iload hx hb dX8_node_7 (lv_at hl 4 rfl) ?_
  refine aVi (As := [.int 1, .int x2, .int 0, .int x4]) (ci := 5) S (c_X5_suits_8 l D cI cZ cJ o u ra ga H.size x2 x4 lo_x2 hi_x2 ne_x4_0) mi_X5_suits kw_6_27 rfl rfl ⟨Nat.le_of_ble_eq_true rfl, Nat.le_of_ble_eq_true rfl⟩ hP hD hK hS hA hB xW_13 rfl rfl hl.1 (Nat.le_of_ble_eq_true rfl) ⟨Nat.le_of_ble_eq_true rfl, Nat.le_of_ble_eq_true rfl⟩ dX8_node_9 (fun H locs hz hP hD hS => ?_)
  exact tSv (As := [.int 0]) S (c_X8_needArgument_0 l D cI cZ cJ o u hst ra ga H.size) ms_X8_needArgument kw_4_4 rfl rfl ⟨Nat.le_of_ble_eq_true rfl, Nat.le_of_ble_eq_true rfl⟩ hP hD hK hS hA hB hl.1 (Nat.le_of_ble_eq_true rfl) ⟨Nat.le_of_ble_eq_true rfl, Nat.le_of_ble_eq_true rfl⟩ dX8_node_12 hnt hlocks (Nat.le_of_ble_eq_true rfl) (Nat.le_of_ble_eq_true rfl)

set_option maxHeartbeats 8000000 in
set_option maxRecDepth 100000 in
theorem c_X5_suits_9 (l : Launch) (D : va_G) (cI cZ cJ : ClassId) (o : Nat) (u : Nat → Nat) (ra ga : Nat → Nat) (sz : Nat) (x2 : Int32) (x3 : Int32) (x4 : Int32) (lo_x2 : 0 ≤ x2) (hi_x2 : x2 ≤ 15) (ne_x3_0 : ¬ x3 = 0) : Met l yX5_suits (uW yX5_suits cX5_suits 5 (some .boolean)) ({ frames := 2, cells := 0, slots := 0, locals := 42 }) (va_Pc [.ref (u 12), .int 1, .int x2, .int x3, .int x4] (aS ra ga D (tyL cI cZ cJ) (xW o u cI cZ cJ) sz)) (wQi (0) D (xW o u cI cZ cJ) (va_A (xW o u cI cZ cJ) sz)) 0 0 (va_A (xW o u cI cZ cJ) sz) := by
  refine aStart (lv := [(0, .ref (u 12)), (1, .int 1), (2, .int x2), (3, .int x3), (4, .int x4)]) (Qc := fun A => wQi (0) D (xW o u cI cZ cJ) A) (by decide) (Nat.le_of_ble_eq_true rfl) rfl ?_
  intro p e s m args below meth c ls A H S hr hlocks hnm hl hK hP hD hS hA hB
  have hx := S.1
  have hb := S.2.1
  refine lv_iload_n hx hb dX5_suits_0 rfl (lv_at hl 1 rfl) ?_
  refine lv_if_lt (tgt := 10) hx hb dX5_suits_1 (by decide) (fun c => absurd c (by decide)) (fun _ => ?_)
  refine lv_iload_n hx hb dX5_suits_4 rfl (lv_at hl 1 rfl) ?_
  refine lv_bipush (v := 21) hx hb dX5_suits_5 (by decide) ?_
  refine lv_icmp_le (tgt := 12) hx hb dX5_suits_7 (by decide) (fun _ => ?_) (fun c => absurd c (by decide))
  refine lv_aload_n hx hb dX5_suits_12 rfl (lv_at hl 0 rfl) ?_
  refine xgs S hB.z0 hS kw_3_91 rfl dX5_suits_13 ?_
  refine lv_iload_n hx hb dX5_suits_16 rfl (lv_at hl 1 rfl) ?_
  refine xti (v := 2) S hB.t0 hS (vin rfl) rfl dX5_suits_17 ?_
  refine lv_iload_n hx hb dX5_suits_18 rfl (lv_at hl 2 rfl) ?_
  refine aVi (As := [.int 2, .int x2]) (ci := 5) S (c_X5_fills_8 l D cI cZ cJ o u ra ga H.size x2 lo_x2 hi_x2) mi_X5_fills kw_6_31 rfl rfl ⟨Nat.le_of_ble_eq_true rfl, Nat.le_of_ble_eq_true rfl⟩ hP hD hK hS hA hB xW_13 rfl rfl hl.1 (Nat.le_of_ble_eq_true rfl) ⟨Nat.le_of_ble_eq_true rfl, Nat.le_of_ble_eq_true rfl⟩ dX5_suits_19 (fun H locs hz hP hD hS => ?_)
  refine lv_if_eq (tgt := 112) hx hb dX5_suits_22 (by decide) (fun c => absurd c (by decide)) (fun _ => ?_)
  refine lv_aload_n hx hb dX5_suits_25 rfl (lv_at hl 0 rfl) ?_
  refine xgs S hB.z1 hS kw_3_228 rfl dX5_suits_26 ?_
  refine lv_iload_n hx hb dX5_suits_29 rfl (lv_at hl 1 rfl) ?_
  refine xti (v := 0) S hB.t1 hS (vin rfl) rfl dX5_suits_30 ?_
  refine lv_iload_n hx hb dX5_suits_31 rfl (lv_at hl 3 rfl) ?_
  refine rdV (As := [.int 0, .int x3]) (ci := 5) S (c_X5_fills_5 l D cI cZ cJ o u x3 ne_x3_0) mi_X5_fills kw_6_31 ⟨rfl, rfl⟩ ⟨Nat.le_of_ble_eq_true rfl, Nat.le_of_ble_eq_true rfl⟩ hP hK xW_13 rfl rfl hl.1 (Nat.le_of_ble_eq_true rfl) ⟨Nat.le_of_ble_eq_true rfl, Nat.le_of_ble_eq_true rfl⟩ dX5_suits_32 ?_
  refine lv_if_eq (tgt := 112) hx hb dX5_suits_35 (by decide) (fun _ => ?_) (fun c => absurd c (by decide))
  refine lv_iconst (v := 0) hx hb dX5_suits_112 (by decide) ?_
  exact wEndZ S hr hlocks hP hD hS (Nat.le_of_ble_eq_true rfl) (Nat.le_of_ble_eq_true rfl) dX5_suits_113 rfl rfl

set_option maxHeartbeats 8000000 in
set_option maxRecDepth 100000 in
theorem c_X8_node_9 (l : Launch) (D : va_G) (cI cZ cJ : ClassId) (o : Nat) (u : Nat → Nat) (hst : l.stackTraces = false) (ra ga : Nat → Nat) (sz : Nat) (x2 : Int32) (x3 : Int32) (x4 : Int32) (lo_x2 : 0 ≤ x2) (hi_x2 : x2 ≤ 15) (ne_x3_0 : ¬ x3 = 0) : vx_Met l yX8_node (uW yX8_node cX8_node 5 (some .int)) ({ frames := 7, cells := 1, slots := 6, locals := 102 }) (va_Pc [.ref o, .int 1, .int x2, .int x3, .int x4] (aS ra ga D (tyL cI cZ cJ) (xW o u cI cZ cJ) sz)) (nQi (va_A (xW o u cI cZ cJ) sz)) (wX "java/lang/IllegalArgumentException" D (xW o u cI cZ cJ) (va_A (xW o u cI cZ cJ) sz)) 1 6 (va_A (xW o u cI cZ cJ) sz) := by
  refine xStart (lv := [(0, .ref o), (1, .int 1), (2, .int x2), (3, .int x3), (4, .int x4)]) (Qc := fun A => nQi A) (XC := fun A => wX "java/lang/IllegalArgumentException" D (xW o u cI cZ cJ) A) (by decide) (Nat.le_of_ble_eq_true rfl) rfl ?_
  intro p e s m args below meth c ls A H S hr hlocks hnm hl hK hP hD hS hA hB hnt
  have hx := S.1
  have hb := S.2.1
  refine lv_aload_n hx hb dX8_node_0 rfl (lv_at hl 0 rfl) ?_
  refine xg (ci := 8) S inX8 rfl hK hP xW_0 1 (by decide) rfl kw_3_21 rfl dX8_node_1 ?_
  refine lv_iload_n hx hb dX8_node_4 rfl (lv_at hl 1 rfl) ?_
  refine lv_iload_n hx hb dX8_node_5 rfl (lv_at hl 2 rfl) ?_
  refine lv_iload_n hx hb dX8_node_6 rfl (lv_at hl 3 rfl) ?_
  refine lv_iload hx hb dX8_node_7 (lv_at hl 4 rfl) ?_
  refine aVi (As := [.int 1, .int x2, .int x3, .int x4]) (ci := 5) S (c_X5_suits_9 l D cI cZ cJ o u ra ga H.size x2 x3 x4 lo_x2 hi_x2 ne_x3_0) mi_X5_suits kw_6_27 rfl rfl ⟨Nat.le_of_ble_eq_true rfl, Nat.le_of_ble_eq_true rfl⟩ hP hD hK hS hA hB xW_13 rfl rfl hl.1 (Nat.le_of_ble_eq_true rfl) ⟨Nat.le_of_ble_eq_true rfl, Nat.le_of_ble_eq_true rfl⟩ dX8_node_9 (fun H locs hz hP hD hS => ?_)
  exact tSv (As := [.int 0]) S (c_X8_needArgument_0 l D cI cZ cJ o u hst ra ga H.size) ms_X8_needArgument kw_4_4 rfl rfl ⟨Nat.le_of_ble_eq_true rfl, Nat.le_of_ble_eq_true rfl⟩ hP hD hK hS hA hB hl.1 (Nat.le_of_ble_eq_true rfl) ⟨Nat.le_of_ble_eq_true rfl, Nat.le_of_ble_eq_true rfl⟩ dX8_node_12 hnt hlocks (Nat.le_of_ble_eq_true rfl) (Nat.le_of_ble_eq_true rfl)
