set_option maxHeartbeats 8000000 in
set_option maxRecDepth 100000 in
theorem c_X8_isName_9 (l : Launch) (D : va_G) (cI cZ cJ : ClassId) (o : Nat) (u : Nat → Nat) : Met l yX8_isName (uW yX8_isName cX8_isName 1 (some .boolean)) ({ frames := 0, cells := 0, slots := 0, locals := 0 }) (va_Pc [.int 3] (pS D (tyL cI cZ cJ) (((((((xW o u cI cZ cJ).set 0 (o, .inr (8, ((xF u).set 9 (.int 0))))).set 32 ((u 31), .inl (cZ, 10, .inl (upd (upd (upd (upd (upd (upd (upd (upd (upd (upd (fun _ => 0) (0 : Int32).toNatClampNeg 0) (1 : Int32).toNatClampNeg 0) (2 : Int32).toNatClampNeg 0) (3 : Int32).toNatClampNeg 0) (4 : Int32).toNatClampNeg 0) (5 : Int32).toNatClampNeg 0) (6 : Int32).toNatClampNeg 0) (7 : Int32).toNatClampNeg 0) (8 : Int32).toNatClampNeg 0) (9 : Int32).toNatClampNeg 0)))).set 34 ((u 33), .inr (2, ([.ref (u 0), .ref (u 12), .ref (u 19), .int 0, .ref (u 34), .ref (u 35), .ref (u 36), .ref (u 37), .int 0].set 3 (.int 1))))).set 35 ((u 34), .inl (cI, 120, .inl (upd (fun _ => 0) (0 : Int32).toNatClampNeg 10)))).set 36 ((u 35), .inl (cI, 120, .inl (upd (fun _ => 0) (0 : Int32).toNatClampNeg 0)))).set 37 ((u 36), .inl (cI, 120, .inl (upd (fun _ => 0) (0 : Int32).toNatClampNeg (-1))))))) (QcRead (1)) 0 0 (fun _ => False) := by
  refine rdStart (lv := [(0, .int 3)]) (by decide) (Nat.le_of_ble_eq_true rfl) rfl ?_
  intro p e s m args below meth c ls S hr hlocks hl hP hK
  have hx := S.1
  have hb := S.2.1
  refine lv_iload_n hx hb dX8_isName_0 rfl (lv_at hl 0 rfl) ?_
  refine lv_if_lt (tgt := 14) hx hb dX8_isName_1 (by decide) (fun c => absurd c (by decide)) (fun _ => ?_)
  refine lv_iload_n hx hb dX8_isName_4 rfl (lv_at hl 0 rfl) ?_
  refine lv_bipush (v := 16) hx hb dX8_isName_5 (by decide) ?_
  refine lv_icmp_ge (tgt := 14) hx hb dX8_isName_7 (by decide) (fun c => absurd c (by decide)) (fun _ => ?_)
  refine lv_iconst (v := 1) hx hb dX8_isName_10 (by decide) ?_
  refine lv_goto (tgt := 15) hx hb dX8_isName_11 (by decide) ?_
  exact rdEndZ S hr hlocks dX8_isName_15 rfl rfl

set_option maxHeartbeats 8000000 in
set_option maxRecDepth 100000 in
theorem c_X1_declares_5 (l : Launch) (D : va_G) (cI cZ cJ : ClassId) (o : Nat) (u : Nat → Nat) : Met l yX1_declares (uW yX1_declares cX1_declares 3 (some .boolean)) ({ frames := 0, cells := 0, slots := 0, locals := 0 }) (va_Pc [.ref (u 0), .int 0, .int 3] (pS D (tyL cI cZ cJ) (((((((xW o u cI cZ cJ).set 0 (o, .inr (8, ((xF u).set 9 (.int 0))))).set 32 ((u 31), .inl (cZ, 10, .inl (upd (upd (upd (upd (upd (upd (upd (upd (upd (upd (fun _ => 0) (0 : Int32).toNatClampNeg 0) (1 : Int32).toNatClampNeg 0) (2 : Int32).toNatClampNeg 0) (3 : Int32).toNatClampNeg 0) (4 : Int32).toNatClampNeg 0) (5 : Int32).toNatClampNeg 0) (6 : Int32).toNatClampNeg 0) (7 : Int32).toNatClampNeg 0) (8 : Int32).toNatClampNeg 0) (9 : Int32).toNatClampNeg 0)))).set 34 ((u 33), .inr (2, ([.ref (u 0), .ref (u 12), .ref (u 19), .int 0, .ref (u 34), .ref (u 35), .ref (u 36), .ref (u 37), .int 0].set 3 (.int 1))))).set 35 ((u 34), .inl (cI, 120, .inl (upd (fun _ => 0) (0 : Int32).toNatClampNeg 10)))).set 36 ((u 35), .inl (cI, 120, .inl (upd (fun _ => 0) (0 : Int32).toNatClampNeg 0)))).set 37 ((u 36), .inl (cI, 120, .inl (upd (fun _ => 0) (0 : Int32).toNatClampNeg (-1))))))) (QcRead (0)) 0 0 (fun _ => False) := by
  refine rdStart (lv := [(0, .ref (u 0)), (1, .int 0), (2, .int 3)]) (by decide) (Nat.le_of_ble_eq_true rfl) rfl ?_
  intro p e s m args below meth c ls S hr hlocks hl hP hK
  have hx := S.1
  have hb := S.2.1
  refine lv_aload_n hx hb dX1_declares_0 rfl (lv_at hl 0 rfl) ?_
  refine xg (ci := 1) S inX1 rfl hK hP (q0 := 1) rfl 7 (by decide) rfl kw_1_61 rfl dX1_declares_1 ?_
  refine lv_iload_n hx hb dX1_declares_4 rfl (lv_at hl 1 rfl) ?_
  refine lv_bipush (v := 16) hx hb dX1_declares_5 (by decide) ?_
  refine ximul (v := 0) S dX1_declares_7 (by decide) ?_
  refine lv_iload_n hx hb dX1_declares_8 rfl (lv_at hl 2 rfl) ?_
  refine xiadd (v := 3) S dX1_declares_9 (by decide) ?_
  refine xiald (t0 := 0) (v := (-1)) S hK hP (q0 := 8) rfl rfl (vin rfl) rfl dX1_declares_10 ?_
  refine lv_iconst (v := (-1)) hx hb dX1_declares_11 (by decide) ?_
  refine lv_icmp_eq (tgt := 19) hx hb dX1_declares_12 (by decide) (fun _ => ?_) (fun c => absurd c (by decide))
  refine lv_iconst (v := 0) hx hb dX1_declares_19 (by decide) ?_
  exact rdEndZ S hr hlocks dX1_declares_20 rfl rfl

set_option maxHeartbeats 8000000 in
set_option maxRecDepth 100000 in
theorem c_X4_reaching_4 (l : Launch) (D : va_G) (cI cZ cJ : ClassId) (o : Nat) (u : Nat → Nat) : Met l yX4_reaching (uW yX4_reaching cX4_reaching 6 (some .int)) ({ frames := 0, cells := 0, slots := 0, locals := 0 }) (va_Pc [.ref (u 19), .int 0, .int 3] (pS D (tyL cI cZ cJ) (((((((xW o u cI cZ cJ).set 0 (o, .inr (8, ((xF u).set 9 (.int 0))))).set 32 ((u 31), .inl (cZ, 10, .inl (upd (upd (upd (upd (upd (upd (upd (upd (upd (upd (fun _ => 0) (0 : Int32).toNatClampNeg 0) (1 : Int32).toNatClampNeg 0) (2 : Int32).toNatClampNeg 0) (3 : Int32).toNatClampNeg 0) (4 : Int32).toNatClampNeg 0) (5 : Int32).toNatClampNeg 0) (6 : Int32).toNatClampNeg 0) (7 : Int32).toNatClampNeg 0) (8 : Int32).toNatClampNeg 0) (9 : Int32).toNatClampNeg 0)))).set 34 ((u 33), .inr (2, ([.ref (u 0), .ref (u 12), .ref (u 19), .int 0, .ref (u 34), .ref (u 35), .ref (u 36), .ref (u 37), .int 0].set 3 (.int 1))))).set 35 ((u 34), .inl (cI, 120, .inl (upd (fun _ => 0) (0 : Int32).toNatClampNeg 10)))).set 36 ((u 35), .inl (cI, 120, .inl (upd (fun _ => 0) (0 : Int32).toNatClampNeg 0)))).set 37 ((u 36), .inl (cI, 120, .inl (upd (fun _ => 0) (0 : Int32).toNatClampNeg (-1))))))) (QcRead (0)) 0 0 (fun _ => False) := by
  refine rdStart (lv := [(0, .ref (u 19)), (1, .int 0), (2, .int 3)]) (by decide) (Nat.le_of_ble_eq_true rfl) rfl ?_
  intro p e s m args below meth c ls S hr hlocks hl hP hK
  have hx := S.1
  have hb := S.2.1
  refine lv_iconst (v := 0) hx hb dX4_reaching_0 (by decide) ?_
  refine lv_istore_n (lv' := [(3, .int 0), (0, .ref (u 19)), (1, .int 0), (2, .int 3)]) hx hb dX4_reaching_1 rfl hl (by decide) rfl (fun ls hl => ?_)
  refine lv_iconst (v := 0) hx hb dX4_reaching_2 (by decide) ?_
  refine lv_istore (lv' := [(4, .int 0), (3, .int 0), (0, .ref (u 19)), (1, .int 0), (2, .int 3)]) hx hb dX4_reaching_3 hl (by decide) rfl (fun ls hl => ?_)
  refine lv_iload hx hb dX4_reaching_5 (lv_at hl 0 rfl) ?_
  refine lv_aload_n hx hb dX4_reaching_7 rfl (lv_at hl 2 rfl) ?_
  refine xg (ci := 4) S inX4 rfl hK hP (q0 := 20) rfl 1 (by decide) rfl kw_1_159 rfl dX4_reaching_8 ?_
  refine xg (ci := 5) S inX5 rfl hK hP (q0 := 13) rfl 0 (by decide) rfl kw_1_108 rfl dX4_reaching_11 ?_
  refine lv_icmp_ge (tgt := 133) hx hb dX4_reaching_14 (by decide) (fun _ => ?_) (fun c => absurd c (by decide))
  refine lv_iload_n hx hb dX4_reaching_133 rfl (lv_at hl 1 rfl) ?_
  exact rdEnd S hr hlocks dX4_reaching_134 rfl

set_option maxHeartbeats 8000000 in
set_option maxRecDepth 100000 in
theorem c_X8_hiddenBy_8 (l : Launch) (D : va_G) (cI cZ cJ : ClassId) (o : Nat) (u : Nat → Nat) (ra ga : Nat → Nat) (sz : Nat) : Met l yX8_hiddenBy (uW yX8_hiddenBy cX8_hiddenBy 3 (some .int)) ({ frames := 2, cells := 0, slots := 0, locals := 42 }) (va_Pc [.ref o, .int 0, .int 3] (aS ra ga D (tyL cI cZ cJ) (((((((xW o u cI cZ cJ).set 0 (o, .inr (8, ((xF u).set 9 (.int 0))))).set 32 ((u 31), .inl (cZ, 10, .inl (upd (upd (upd (upd (upd (upd (upd (upd (upd (upd (fun _ => 0) (0 : Int32).toNatClampNeg 0) (1 : Int32).toNatClampNeg 0) (2 : Int32).toNatClampNeg 0) (3 : Int32).toNatClampNeg 0) (4 : Int32).toNatClampNeg 0) (5 : Int32).toNatClampNeg 0) (6 : Int32).toNatClampNeg 0) (7 : Int32).toNatClampNeg 0) (8 : Int32).toNatClampNeg 0) (9 : Int32).toNatClampNeg 0)))).set 34 ((u 33), .inr (2, ([.ref (u 0), .ref (u 12), .ref (u 19), .int 0, .ref (u 34), .ref (u 35), .ref (u 36), .ref (u 37), .int 0].set 3 (.int 1))))).set 35 ((u 34), .inl (cI, 120, .inl (upd (fun _ => 0) (0 : Int32).toNatClampNeg 10)))).set 36 ((u 35), .inl (cI, 120, .inl (upd (fun _ => 0) (0 : Int32).toNatClampNeg 0)))).set 37 ((u 36), .inl (cI, 120, .inl (upd (fun _ => 0) (0 : Int32).toNatClampNeg (-1))))) sz)) (wQi (0) D (((((((xW o u cI cZ cJ).set 0 (o, .inr (8, ((xF u).set 9 (.int 0))))).set 32 ((u 31), .inl (cZ, 10, .inl (upd (upd (upd (upd (upd (upd (upd (upd (upd (upd (fun _ => 0) (0 : Int32).toNatClampNeg 0) (1 : Int32).toNatClampNeg 0) (2 : Int32).toNatClampNeg 0) (3 : Int32).toNatClampNeg 0) (4 : Int32).toNatClampNeg 0) (5 : Int32).toNatClampNeg 0) (6 : Int32).toNatClampNeg 0) (7 : Int32).toNatClampNeg 0) (8 : Int32).toNatClampNeg 0) (9 : Int32).toNatClampNeg 0)))).set 34 ((u 33), .inr (2, ([.ref (u 0), .ref (u 12), .ref (u 19), .int 0, .ref (u 34), .ref (u 35), .ref (u 36), .ref (u 37), .int 0].set 3 (.int 1))))).set 35 ((u 34), .inl (cI, 120, .inl (upd (fun _ => 0) (0 : Int32).toNatClampNeg 10)))).set 36 ((u 35), .inl (cI, 120, .inl (upd (fun _ => 0) (0 : Int32).toNatClampNeg 0)))).set 37 ((u 36), .inl (cI, 120, .inl (upd (fun _ => 0) (0 : Int32).toNatClampNeg (-1))))) (va_A (((((((xW o u cI cZ cJ).set 0 (o, .inr (8, ((xF u).set 9 (.int 0))))).set 32 ((u 31), .inl (cZ, 10, .inl (upd (upd (upd (upd (upd (upd (upd (upd (upd (upd (fun _ => 0) (0 : Int32).toNatClampNeg 0) (1 : Int32).toNatClampNeg 0) (2 : Int32).toNatClampNeg 0) (3 : Int32).toNatClampNeg 0) (4 : Int32).toNatClampNeg 0) (5 : Int32).toNatClampNeg 0) (6 : Int32).toNatClampNeg 0) (7 : Int32).toNatClampNeg 0) (8 : Int32).toNatClampNeg 0) (9 : Int32).toNatClampNeg 0)))).set 34 ((u 33), .inr (2, ([.ref (u 0), .ref (u 12), .ref (u 19), .int 0, .ref (u 34), .ref (u 35), .ref (u 36), .ref (u 37), .int 0].set 3 (.int 1))))).set 35 ((u 34), .inl (cI, 120, .inl (upd (fun _ => 0) (0 : Int32).toNatClampNeg 10)))).set 36 ((u 35), .inl (cI, 120, .inl (upd (fun _ => 0) (0 : Int32).toNatClampNeg 0)))).set 37 ((u 36), .inl (cI, 120, .inl (upd (fun _ => 0) (0 : Int32).toNatClampNeg (-1))))) sz)) 0 0 (va_A (((((((xW o u cI cZ cJ).set 0 (o, .inr (8, ((xF u).set 9 (.int 0))))).set 32 ((u 31), .inl (cZ, 10, .inl (upd (upd (upd (upd (upd (upd (upd (upd (upd (upd (fun _ => 0) (0 : Int32).toNatClampNeg 0) (1 : Int32).toNatClampNeg 0) (2 : Int32).toNatClampNeg 0) (3 : Int32).toNatClampNeg 0) (4 : Int32).toNatClampNeg 0) (5 : Int32).toNatClampNeg 0) (6 : Int32).toNatClampNeg 0) (7 : Int32).toNatClampNeg 0) (8 : Int32).toNatClampNeg 0) (9 : Int32).toNatClampNeg 0)))).set 34 ((u 33), .inr (2, ([.ref (u 0), .ref (u 12), .ref (u 19), .int 0, .ref (u 34), .ref (u 35), .ref (u 36), .ref (u 37), .int 0].set 3 (.int 1))))).set 35 ((u 34), .inl (cI, 120, .inl (upd (fun _ => 0) (0 : Int32).toNatClampNeg 10)))).set 36 ((u 35), .inl (cI, 120, .inl (upd (fun _ => 0) (0 : Int32).toNatClampNeg 0)))).set 37 ((u 36), .inl (cI, 120, .inl (upd (fun _ => 0) (0 : Int32).toNatClampNeg (-1))))) sz) := by
  refine aStart (lv := [(0, .ref o), (1, .int 0), (2, .int 3)]) (Qc := fun A => wQi (0) D (((((((xW o u cI cZ cJ).set 0 (o, .inr (8, ((xF u).set 9 (.int 0))))).set 32 ((u 31), .inl (cZ, 10, .inl (upd (upd (upd (upd (upd (upd (upd (upd (upd (upd (fun _ => 0) (0 : Int32).toNatClampNeg 0) (1 : Int32).toNatClampNeg 0) (2 : Int32).toNatClampNeg 0) (3 : Int32).toNatClampNeg 0) (4 : Int32).toNatClampNeg 0) (5 : Int32).toNatClampNeg 0) (6 : Int32).toNatClampNeg 0) (7 : Int32).toNatClampNeg 0) (8 : Int32).toNatClampNeg 0) (9 : Int32).toNatClampNeg 0)))).set 34 ((u 33), .inr (2, ([.ref (u 0), .ref (u 12), .ref (u 19), .int 0, .ref (u 34), .ref (u 35), .ref (u 36), .ref (u 37), .int 0].set 3 (.int 1))))).set 35 ((u 34), .inl (cI, 120, .inl (upd (fun _ => 0) (0 : Int32).toNatClampNeg 10)))).set 36 ((u 35), .inl (cI, 120, .inl (upd (fun _ => 0) (0 : Int32).toNatClampNeg 0)))).set 37 ((u 36), .inl (cI, 120, .inl (upd (fun _ => 0) (0 : Int32).toNatClampNeg (-1))))) A) (by decide) (Nat.le_of_ble_eq_true rfl) rfl ?_
  intro p e s m args below meth c ls A H S hr hlocks hnm hl hK hP hD hS hA hB
  have hx := S.1
  have hb := S.2.1
  refine lv_aload_n hx hb dX8_hiddenBy_0 rfl (lv_at hl 0 rfl) ?_
  refine lv_iload_n hx hb dX8_hiddenBy_1 rfl (lv_at hl 1 rfl) ?_
  refine aVv (As := [.int 0]) (ci := 8) S (c_X8_needProcedure_3 l D cI cZ cJ o u ra ga H.size) mi_X8_needProcedure kw_4_166 rfl rfl ⟨Nat.le_of_ble_eq_true rfl, Nat.le_of_ble_eq_true rfl⟩ hP hD hK hS hA hB (k := 0) rfl rfl rfl hl.1 (Nat.le_of_ble_eq_true rfl) ⟨Nat.le_of_ble_eq_true rfl, Nat.le_of_ble_eq_true rfl⟩ dX8_hiddenBy_2 (fun H locs hz hP hD hS => ?_)
  refine lv_iload_n hx hb dX8_hiddenBy_5 rfl (lv_at hl 2 rfl) ?_
  refine rdS (As := [.int 3]) S (c_X8_isName_9 l D cI cZ cJ o u) ms_X8_isName kw_4_198 ⟨rfl, rfl⟩ ⟨Nat.le_of_ble_eq_true rfl, Nat.le_of_ble_eq_true rfl⟩ hP hK hl.1 (Nat.le_of_ble_eq_true rfl) ⟨Nat.le_of_ble_eq_true rfl, Nat.le_of_ble_eq_true rfl⟩ dX8_hiddenBy_6 ?_
  refine aSv (As := [.int 1]) S (c_X8_needArgument_3 l D cI cZ cJ o u ra ga H.size) ms_X8_needArgument kw_4_4 rfl rfl ⟨Nat.le_of_ble_eq_true rfl, Nat.le_of_ble_eq_true rfl⟩ hP hD hK hS hA hB hl.1 (Nat.le_of_ble_eq_true rfl) ⟨Nat.le_of_ble_eq_true rfl, Nat.le_of_ble_eq_true rfl⟩ dX8_hiddenBy_9 (fun H locs hz hP hD hS => ?_)
  refine lv_aload_n hx hb dX8_hiddenBy_12 rfl (lv_at hl 0 rfl) ?_
  refine aVv (As := []) (ci := 8) S (c_X8_refresh_1 l D cI cZ cJ o u ra ga H.size) mi_X8_refresh kw_3_71 rfl rfl ⟨Nat.le_of_ble_eq_true rfl, Nat.le_of_ble_eq_true rfl⟩ hP hD hK hS hA hB (k := 0) rfl rfl rfl hl.1 (Nat.le_of_ble_eq_true rfl) ⟨Nat.le_of_ble_eq_true rfl, Nat.le_of_ble_eq_true rfl⟩ dX8_hiddenBy_13 (fun H locs hz hP hD hS => ?_)
  refine lv_aload_n hx hb dX8_hiddenBy_16 rfl (lv_at hl 0 rfl) ?_
  refine xg (ci := 8) S inX8 rfl hK hP (q0 := 0) rfl 0 (by decide) rfl kw_3_20 rfl dX8_hiddenBy_17 ?_
  refine lv_iload_n hx hb dX8_hiddenBy_20 rfl (lv_at hl 1 rfl) ?_
  refine lv_iload_n hx hb dX8_hiddenBy_21 rfl (lv_at hl 2 rfl) ?_
  refine rdV (As := [.int 0, .int 3]) (ci := 1) S (c_X1_declares_5 l D cI cZ cJ o u) mi_X1_declares kw_4_201 ⟨rfl, rfl⟩ ⟨Nat.le_of_ble_eq_true rfl, Nat.le_of_ble_eq_true rfl⟩ hP hK (k := 1) rfl rfl rfl hl.1 (Nat.le_of_ble_eq_true rfl) ⟨Nat.le_of_ble_eq_true rfl, Nat.le_of_ble_eq_true rfl⟩ dX8_hiddenBy_22 ?_
  refine lv_if_eq (tgt := 32) hx hb dX8_hiddenBy_25 (by decide) (fun _ => ?_) (fun c => absurd c (by decide))
  refine lv_aload_n hx hb dX8_hiddenBy_32 rfl (lv_at hl 0 rfl) ?_
  refine xg (ci := 8) S inX8 rfl hK hP (q0 := 0) rfl 2 (by decide) rfl kw_3_22 rfl dX8_hiddenBy_33 ?_
  refine lv_iload_n hx hb dX8_hiddenBy_36 rfl (lv_at hl 1 rfl) ?_
  refine lv_iload_n hx hb dX8_hiddenBy_37 rfl (lv_at hl 2 rfl) ?_
  refine rdV (As := [.int 0, .int 3]) (ci := 4) S (c_X4_reaching_4 l D cI cZ cJ o u) mi_X4_reaching kw_4_202 ⟨rfl, rfl⟩ ⟨Nat.le_of_ble_eq_true rfl, Nat.le_of_ble_eq_true rfl⟩ hP hK (k := 20) rfl rfl rfl hl.1 (Nat.le_of_ble_eq_true rfl) ⟨Nat.le_of_ble_eq_true rfl, Nat.le_of_ble_eq_true rfl⟩ dX8_hiddenBy_38 ?_
  exact wEnd S hr hlocks hP hD hS (Nat.le_of_ble_eq_true rfl) (Nat.le_of_ble_eq_true rfl) dX8_hiddenBy_41 rfl

set_option maxHeartbeats 8000000 in
set_option maxRecDepth 100000 in
theorem c_X8_isName_10 (l : Launch) (D : va_G) (cI cZ cJ : ClassId) (o : Nat) (u : Nat → Nat) : Met l yX8_isName (uW yX8_isName cX8_isName 1 (some .boolean)) ({ frames := 0, cells := 0, slots := 0, locals := 0 }) (va_Pc [.int 4] (pS D (tyL cI cZ cJ) (((((((xW o u cI cZ cJ).set 0 (o, .inr (8, ((xF u).set 9 (.int 0))))).set 32 ((u 31), .inl (cZ, 10, .inl (upd (upd (upd (upd (upd (upd (upd (upd (upd (upd (fun _ => 0) (0 : Int32).toNatClampNeg 0) (1 : Int32).toNatClampNeg 0) (2 : Int32).toNatClampNeg 0) (3 : Int32).toNatClampNeg 0) (4 : Int32).toNatClampNeg 0) (5 : Int32).toNatClampNeg 0) (6 : Int32).toNatClampNeg 0) (7 : Int32).toNatClampNeg 0) (8 : Int32).toNatClampNeg 0) (9 : Int32).toNatClampNeg 0)))).set 34 ((u 33), .inr (2, ([.ref (u 0), .ref (u 12), .ref (u 19), .int 0, .ref (u 34), .ref (u 35), .ref (u 36), .ref (u 37), .int 0].set 3 (.int 1))))).set 35 ((u 34), .inl (cI, 120, .inl (upd (fun _ => 0) (0 : Int32).toNatClampNeg 10)))).set 36 ((u 35), .inl (cI, 120, .inl (upd (fun _ => 0) (0 : Int32).toNatClampNeg 0)))).set 37 ((u 36), .inl (cI, 120, .inl (upd (fun _ => 0) (0 : Int32).toNatClampNeg (-1))))))) (QcRead (1)) 0 0 (fun _ => False) := by
  refine rdStart (lv := [(0, .int 4)]) (by decide) (Nat.le_of_ble_eq_true rfl) rfl ?_
  intro p e s m args below meth c ls S hr hlocks hl hP hK
  have hx := S.1
  have hb := S.2.1
  refine lv_iload_n hx hb dX8_isName_0 rfl (lv_at hl 0 rfl) ?_
  refine lv_if_lt (tgt := 14) hx hb dX8_isName_1 (by decide) (fun c => absurd c (by decide)) (fun _ => ?_)
  refine lv_iload_n hx hb dX8_isName_4 rfl (lv_at hl 0 rfl) ?_
  refine lv_bipush (v := 16) hx hb dX8_isName_5 (by decide) ?_
  refine lv_icmp_ge (tgt := 14) hx hb dX8_isName_7 (by decide) (fun c => absurd c (by decide)) (fun _ => ?_)
  refine lv_iconst (v := 1) hx hb dX8_isName_10 (by decide) ?_
  refine lv_goto (tgt := 15) hx hb dX8_isName_11 (by decide) ?_
  exact rdEndZ S hr hlocks dX8_isName_15 rfl rfl

set_option maxHeartbeats 8000000 in
set_option maxRecDepth 100000 in
theorem c_X1_declares_6 (l : Launch) (D : va_G) (cI cZ cJ : ClassId) (o : Nat) (u : Nat → Nat) : Met l yX1_declares (uW yX1_declares cX1_declares 3 (some .boolean)) ({ frames := 0, cells := 0, slots := 0, locals := 0 }) (va_Pc [.ref (u 0), .int 0, .int 4] (pS D (tyL cI cZ cJ) (((((((xW o u cI cZ cJ).set 0 (o, .inr (8, ((xF u).set 9 (.int 0))))).set 32 ((u 31), .inl (cZ, 10, .inl (upd (upd (upd (upd (upd (upd (upd (upd (upd (upd (fun _ => 0) (0 : Int32).toNatClampNeg 0) (1 : Int32).toNatClampNeg 0) (2 : Int32).toNatClampNeg 0) (3 : Int32).toNatClampNeg 0) (4 : Int32).toNatClampNeg 0) (5 : Int32).toNatClampNeg 0) (6 : Int32).toNatClampNeg 0) (7 : Int32).toNatClampNeg 0) (8 : Int32).toNatClampNeg 0) (9 : Int32).toNatClampNeg 0)))).set 34 ((u 33), .inr (2, ([.ref (u 0), .ref (u 12), .ref (u 19), .int 0, .ref (u 34), .ref (u 35), .ref (u 36), .ref (u 37), .int 0].set 3 (.int 1))))).set 35 ((u 34), .inl (cI, 120, .inl (upd (fun _ => 0) (0 : Int32).toNatClampNeg 10)))).set 36 ((u 35), .inl (cI, 120, .inl (upd (fun _ => 0) (0 : Int32).toNatClampNeg 0)))).set 37 ((u 36), .inl (cI, 120, .inl (upd (fun _ => 0) (0 : Int32).toNatClampNeg (-1))))))) (QcRead (0)) 0 0 (fun _ => False) := by
  refine rdStart (lv := [(0, .ref (u 0)), (1, .int 0), (2, .int 4)]) (by decide) (Nat.le_of_ble_eq_true rfl) rfl ?_
  intro p e s m args below meth c ls S hr hlocks hl hP hK
  have hx := S.1
  have hb := S.2.1
  refine lv_aload_n hx hb dX1_declares_0 rfl (lv_at hl 0 rfl) ?_
  refine xg (ci := 1) S inX1 rfl hK hP (q0 := 1) rfl 7 (by decide) rfl kw_1_61 rfl dX1_declares_1 ?_
  refine lv_iload_n hx hb dX1_declares_4 rfl (lv_at hl 1 rfl) ?_
  refine lv_bipush (v := 16) hx hb dX1_declares_5 (by decide) ?_
  refine ximul (v := 0) S dX1_declares_7 (by decide) ?_
  refine lv_iload_n hx hb dX1_declares_8 rfl (lv_at hl 2 rfl) ?_
  refine xiadd (v := 4) S dX1_declares_9 (by decide) ?_
  refine xiald (t0 := 0) (v := (-1)) S hK hP (q0 := 8) rfl rfl (vin rfl) rfl dX1_declares_10 ?_
  refine lv_iconst (v := (-1)) hx hb dX1_declares_11 (by decide) ?_
  refine lv_icmp_eq (tgt := 19) hx hb dX1_declares_12 (by decide) (fun _ => ?_) (fun c => absurd c (by decide))
  refine lv_iconst (v := 0) hx hb dX1_declares_19 (by decide) ?_
  exact rdEndZ S hr hlocks dX1_declares_20 rfl rfl

set_option maxHeartbeats 8000000 in
set_option maxRecDepth 100000 in
theorem c_X4_reaching_5 (l : Launch) (D : va_G) (cI cZ cJ : ClassId) (o : Nat) (u : Nat → Nat) : Met l yX4_reaching (uW yX4_reaching cX4_reaching 6 (some .int)) ({ frames := 0, cells := 0, slots := 0, locals := 0 }) (va_Pc [.ref (u 19), .int 0, .int 4] (pS D (tyL cI cZ cJ) (((((((xW o u cI cZ cJ).set 0 (o, .inr (8, ((xF u).set 9 (.int 0))))).set 32 ((u 31), .inl (cZ, 10, .inl (upd (upd (upd (upd (upd (upd (upd (upd (upd (upd (fun _ => 0) (0 : Int32).toNatClampNeg 0) (1 : Int32).toNatClampNeg 0) (2 : Int32).toNatClampNeg 0) (3 : Int32).toNatClampNeg 0) (4 : Int32).toNatClampNeg 0) (5 : Int32).toNatClampNeg 0) (6 : Int32).toNatClampNeg 0) (7 : Int32).toNatClampNeg 0) (8 : Int32).toNatClampNeg 0) (9 : Int32).toNatClampNeg 0)))).set 34 ((u 33), .inr (2, ([.ref (u 0), .ref (u 12), .ref (u 19), .int 0, .ref (u 34), .ref (u 35), .ref (u 36), .ref (u 37), .int 0].set 3 (.int 1))))).set 35 ((u 34), .inl (cI, 120, .inl (upd (fun _ => 0) (0 : Int32).toNatClampNeg 10)))).set 36 ((u 35), .inl (cI, 120, .inl (upd (fun _ => 0) (0 : Int32).toNatClampNeg 0)))).set 37 ((u 36), .inl (cI, 120, .inl (upd (fun _ => 0) (0 : Int32).toNatClampNeg (-1))))))) (QcRead (0)) 0 0 (fun _ => False) := by
  refine rdStart (lv := [(0, .ref (u 19)), (1, .int 0), (2, .int 4)]) (by decide) (Nat.le_of_ble_eq_true rfl) rfl ?_
  intro p e s m args below meth c ls S hr hlocks hl hP hK
  have hx := S.1
  have hb := S.2.1
  refine lv_iconst (v := 0) hx hb dX4_reaching_0 (by decide) ?_
  refine lv_istore_n (lv' := [(3, .int 0), (0, .ref (u 19)), (1, .int 0), (2, .int 4)]) hx hb dX4_reaching_1 rfl hl (by decide) rfl (fun ls hl => ?_)
  refine lv_iconst (v := 0) hx hb dX4_reaching_2 (by decide) ?_
  refine lv_istore (lv' := [(4, .int 0), (3, .int 0), (0, .ref (u 19)), (1, .int 0), (2, .int 4)]) hx hb dX4_reaching_3 hl (by decide) rfl (fun ls hl => ?_)
  refine lv_iload hx hb dX4_reaching_5 (lv_at hl 0 rfl) ?_
  refine lv_aload_n hx hb dX4_reaching_7 rfl (lv_at hl 2 rfl) ?_
  refine xg (ci := 4) S inX4 rfl hK hP (q0 := 20) rfl 1 (by decide) rfl kw_1_159 rfl dX4_reaching_8 ?_
  refine xg (ci := 5) S inX5 rfl hK hP (q0 := 13) rfl 0 (by decide) rfl kw_1_108 rfl dX4_reaching_11 ?_
  refine lv_icmp_ge (tgt := 133) hx hb dX4_reaching_14 (by decide) (fun _ => ?_) (fun c => absurd c (by decide))
  refine lv_iload_n hx hb dX4_reaching_133 rfl (lv_at hl 1 rfl) ?_
  exact rdEnd S hr hlocks dX4_reaching_134 rfl

set_option maxHeartbeats 8000000 in
set_option maxRecDepth 100000 in
theorem c_X8_hiddenBy_9 (l : Launch) (D : va_G) (cI cZ cJ : ClassId) (o : Nat) (u : Nat → Nat) (ra ga : Nat → Nat) (sz : Nat) : Met l yX8_hiddenBy (uW yX8_hiddenBy cX8_hiddenBy 3 (some .int)) ({ frames := 2, cells := 0, slots := 0, locals := 42 }) (va_Pc [.ref o, .int 0, .int 4] (aS ra ga D (tyL cI cZ cJ) (((((((xW o u cI cZ cJ).set 0 (o, .inr (8, ((xF u).set 9 (.int 0))))).set 32 ((u 31), .inl (cZ, 10, .inl (upd (upd (upd (upd (upd (upd (upd (upd (upd (upd (fun _ => 0) (0 : Int32).toNatClampNeg 0) (1 : Int32).toNatClampNeg 0) (2 : Int32).toNatClampNeg 0) (3 : Int32).toNatClampNeg 0) (4 : Int32).toNatClampNeg 0) (5 : Int32).toNatClampNeg 0) (6 : Int32).toNatClampNeg 0) (7 : Int32).toNatClampNeg 0) (8 : Int32).toNatClampNeg 0) (9 : Int32).toNatClampNeg 0)))).set 34 ((u 33), .inr (2, ([.ref (u 0), .ref (u 12), .ref (u 19), .int 0, .ref (u 34), .ref (u 35), .ref (u 36), .ref (u 37), .int 0].set 3 (.int 1))))).set 35 ((u 34), .inl (cI, 120, .inl (upd (fun _ => 0) (0 : Int32).toNatClampNeg 10)))).set 36 ((u 35), .inl (cI, 120, .inl (upd (fun _ => 0) (0 : Int32).toNatClampNeg 0)))).set 37 ((u 36), .inl (cI, 120, .inl (upd (fun _ => 0) (0 : Int32).toNatClampNeg (-1))))) sz)) (wQi (0) D (((((((xW o u cI cZ cJ).set 0 (o, .inr (8, ((xF u).set 9 (.int 0))))).set 32 ((u 31), .inl (cZ, 10, .inl (upd (upd (upd (upd (upd (upd (upd (upd (upd (upd (fun _ => 0) (0 : Int32).toNatClampNeg 0) (1 : Int32).toNatClampNeg 0) (2 : Int32).toNatClampNeg 0) (3 : Int32).toNatClampNeg 0) (4 : Int32).toNatClampNeg 0) (5 : Int32).toNatClampNeg 0) (6 : Int32).toNatClampNeg 0) (7 : Int32).toNatClampNeg 0) (8 : Int32).toNatClampNeg 0) (9 : Int32).toNatClampNeg 0)))).set 34 ((u 33), .inr (2, ([.ref (u 0), .ref (u 12), .ref (u 19), .int 0, .ref (u 34), .ref (u 35), .ref (u 36), .ref (u 37), .int 0].set 3 (.int 1))))).set 35 ((u 34), .inl (cI, 120, .inl (upd (fun _ => 0) (0 : Int32).toNatClampNeg 10)))).set 36 ((u 35), .inl (cI, 120, .inl (upd (fun _ => 0) (0 : Int32).toNatClampNeg 0)))).set 37 ((u 36), .inl (cI, 120, .inl (upd (fun _ => 0) (0 : Int32).toNatClampNeg (-1))))) (va_A (((((((xW o u cI cZ cJ).set 0 (o, .inr (8, ((xF u).set 9 (.int 0))))).set 32 ((u 31), .inl (cZ, 10, .inl (upd (upd (upd (upd (upd (upd (upd (upd (upd (upd (fun _ => 0) (0 : Int32).toNatClampNeg 0) (1 : Int32).toNatClampNeg 0) (2 : Int32).toNatClampNeg 0) (3 : Int32).toNatClampNeg 0) (4 : Int32).toNatClampNeg 0) (5 : Int32).toNatClampNeg 0) (6 : Int32).toNatClampNeg 0) (7 : Int32).toNatClampNeg 0) (8 : Int32).toNatClampNeg 0) (9 : Int32).toNatClampNeg 0)))).set 34 ((u 33), .inr (2, ([.ref (u 0), .ref (u 12), .ref (u 19), .int 0, .ref (u 34), .ref (u 35), .ref (u 36), .ref (u 37), .int 0].set 3 (.int 1))))).set 35 ((u 34), .inl (cI, 120, .inl (upd (fun _ => 0) (0 : Int32).toNatClampNeg 10)))).set 36 ((u 35), .inl (cI, 120, .inl (upd (fun _ => 0) (0 : Int32).toNatClampNeg 0)))).set 37 ((u 36), .inl (cI, 120, .inl (upd (fun _ => 0) (0 : Int32).toNatClampNeg (-1))))) sz)) 0 0 (va_A (((((((xW o u cI cZ cJ).set 0 (o, .inr (8, ((xF u).set 9 (.int 0))))).set 32 ((u 31), .inl (cZ, 10, .inl (upd (upd (upd (upd (upd (upd (upd (upd (upd (upd (fun _ => 0) (0 : Int32).toNatClampNeg 0) (1 : Int32).toNatClampNeg 0) (2 : Int32).toNatClampNeg 0) (3 : Int32).toNatClampNeg 0) (4 : Int32).toNatClampNeg 0) (5 : Int32).toNatClampNeg 0) (6 : Int32).toNatClampNeg 0) (7 : Int32).toNatClampNeg 0) (8 : Int32).toNatClampNeg 0) (9 : Int32).toNatClampNeg 0)))).set 34 ((u 33), .inr (2, ([.ref (u 0), .ref (u 12), .ref (u 19), .int 0, .ref (u 34), .ref (u 35), .ref (u 36), .ref (u 37), .int 0].set 3 (.int 1))))).set 35 ((u 34), .inl (cI, 120, .inl (upd (fun _ => 0) (0 : Int32).toNatClampNeg 10)))).set 36 ((u 35), .inl (cI, 120, .inl (upd (fun _ => 0) (0 : Int32).toNatClampNeg 0)))).set 37 ((u 36), .inl (cI, 120, .inl (upd (fun _ => 0) (0 : Int32).toNatClampNeg (-1))))) sz) := by
  refine aStart (lv := [(0, .ref o), (1, .int 0), (2, .int 4)]) (Qc := fun A => wQi (0) D (((((((xW o u cI cZ cJ).set 0 (o, .inr (8, ((xF u).set 9 (.int 0))))).set 32 ((u 31), .inl (cZ, 10, .inl (upd (upd (upd (upd (upd (upd (upd (upd (upd (upd (fun _ => 0) (0 : Int32).toNatClampNeg 0) (1 : Int32).toNatClampNeg 0) (2 : Int32).toNatClampNeg 0) (3 : Int32).toNatClampNeg 0) (4 : Int32).toNatClampNeg 0) (5 : Int32).toNatClampNeg 0) (6 : Int32).toNatClampNeg 0) (7 : Int32).toNatClampNeg 0) (8 : Int32).toNatClampNeg 0) (9 : Int32).toNatClampNeg 0)))).set 34 ((u 33), .inr (2, ([.ref (u 0), .ref (u 12), .ref (u 19), .int 0, .ref (u 34), .ref (u 35), .ref (u 36), .ref (u 37), .int 0].set 3 (.int 1))))).set 35 ((u 34), .inl (cI, 120, .inl (upd (fun _ => 0) (0 : Int32).toNatClampNeg 10)))).set 36 ((u 35), .inl (cI, 120, .inl (upd (fun _ => 0) (0 : Int32).toNatClampNeg 0)))).set 37 ((u 36), .inl (cI, 120, .inl (upd (fun _ => 0) (0 : Int32).toNatClampNeg (-1))))) A) (by decide) (Nat.le_of_ble_eq_true rfl) rfl ?_
  intro p e s m args below meth c ls A H S hr hlocks hnm hl hK hP hD hS hA hB
  have hx := S.1
  have hb := S.2.1
  refine lv_aload_n hx hb dX8_hiddenBy_0 rfl (lv_at hl 0 rfl) ?_
  refine lv_iload_n hx hb dX8_hiddenBy_1 rfl (lv_at hl 1 rfl) ?_
  refine aVv (As := [.int 0]) (ci := 8) S (c_X8_needProcedure_3 l D cI cZ cJ o u ra ga H.size) mi_X8_needProcedure kw_4_166 rfl rfl ⟨Nat.le_of_ble_eq_true rfl, Nat.le_of_ble_eq_true rfl⟩ hP hD hK hS hA hB (k := 0) rfl rfl rfl hl.1 (Nat.le_of_ble_eq_true rfl) ⟨Nat.le_of_ble_eq_true rfl, Nat.le_of_ble_eq_true rfl⟩ dX8_hiddenBy_2 (fun H locs hz hP hD hS => ?_)
  refine lv_iload_n hx hb dX8_hiddenBy_5 rfl (lv_at hl 2 rfl) ?_
  refine rdS (As := [.int 4]) S (c_X8_isName_10 l D cI cZ cJ o u) ms_X8_isName kw_4_198 ⟨rfl, rfl⟩ ⟨Nat.le_of_ble_eq_true rfl, Nat.le_of_ble_eq_true rfl⟩ hP hK hl.1 (Nat.le_of_ble_eq_true rfl) ⟨Nat.le_of_ble_eq_true rfl, Nat.le_of_ble_eq_true rfl⟩ dX8_hiddenBy_6 ?_
  refine aSv (As := [.int 1]) S (c_X8_needArgument_3 l D cI cZ cJ o u ra ga H.size) ms_X8_needArgument kw_4_4 rfl rfl ⟨Nat.le_of_ble_eq_true rfl, Nat.le_of_ble_eq_true rfl⟩ hP hD hK hS hA hB hl.1 (Nat.le_of_ble_eq_true rfl) ⟨Nat.le_of_ble_eq_true rfl, Nat.le_of_ble_eq_true rfl⟩ dX8_hiddenBy_9 (fun H locs hz hP hD hS => ?_)
  refine lv_aload_n hx hb dX8_hiddenBy_12 rfl (lv_at hl 0 rfl) ?_
  refine aVv (As := []) (ci := 8) S (c_X8_refresh_1 l D cI cZ cJ o u ra ga H.size) mi_X8_refresh kw_3_71 rfl rfl ⟨Nat.le_of_ble_eq_true rfl, Nat.le_of_ble_eq_true rfl⟩ hP hD hK hS hA hB (k := 0) rfl rfl rfl hl.1 (Nat.le_of_ble_eq_true rfl) ⟨Nat.le_of_ble_eq_true rfl, Nat.le_of_ble_eq_true rfl⟩ dX8_hiddenBy_13 (fun H locs hz hP hD hS => ?_)
  refine lv_aload_n hx hb dX8_hiddenBy_16 rfl (lv_at hl 0 rfl) ?_
  refine xg (ci := 8) S inX8 rfl hK hP (q0 := 0) rfl 0 (by decide) rfl kw_3_20 rfl dX8_hiddenBy_17 ?_
  refine lv_iload_n hx hb dX8_hiddenBy_20 rfl (lv_at hl 1 rfl) ?_
  refine lv_iload_n hx hb dX8_hiddenBy_21 rfl (lv_at hl 2 rfl) ?_
  refine rdV (As := [.int 0, .int 4]) (ci := 1) S (c_X1_declares_6 l D cI cZ cJ o u) mi_X1_declares kw_4_201 ⟨rfl, rfl⟩ ⟨Nat.le_of_ble_eq_true rfl, Nat.le_of_ble_eq_true rfl⟩ hP hK (k := 1) rfl rfl rfl hl.1 (Nat.le_of_ble_eq_true rfl) ⟨Nat.le_of_ble_eq_true rfl, Nat.le_of_ble_eq_true rfl⟩ dX8_hiddenBy_22 ?_
  refine lv_if_eq (tgt := 32) hx hb dX8_hiddenBy_25 (by decide) (fun _ => ?_) (fun c => absurd c (by decide))
  refine lv_aload_n hx hb dX8_hiddenBy_32 rfl (lv_at hl 0 rfl) ?_
  refine xg (ci := 8) S inX8 rfl hK hP (q0 := 0) rfl 2 (by decide) rfl kw_3_22 rfl dX8_hiddenBy_33 ?_
  refine lv_iload_n hx hb dX8_hiddenBy_36 rfl (lv_at hl 1 rfl) ?_
  refine lv_iload_n hx hb dX8_hiddenBy_37 rfl (lv_at hl 2 rfl) ?_
  refine rdV (As := [.int 0, .int 4]) (ci := 4) S (c_X4_reaching_5 l D cI cZ cJ o u) mi_X4_reaching kw_4_202 ⟨rfl, rfl⟩ ⟨Nat.le_of_ble_eq_true rfl, Nat.le_of_ble_eq_true rfl⟩ hP hK (k := 20) rfl rfl rfl hl.1 (Nat.le_of_ble_eq_true rfl) ⟨Nat.le_of_ble_eq_true rfl, Nat.le_of_ble_eq_true rfl⟩ dX8_hiddenBy_38 ?_
  exact wEnd S hr hlocks hP hD hS (Nat.le_of_ble_eq_true rfl) (Nat.le_of_ble_eq_true rfl) dX8_hiddenBy_41 rfl

set_option maxHeartbeats 8000000 in
set_option maxRecDepth 100000 in
theorem c_X8_isName_11 (l : Launch) (D : va_G) (cI cZ cJ : ClassId) (o : Nat) (u : Nat → Nat) : Met l yX8_isName (uW yX8_isName cX8_isName 1 (some .boolean)) ({ frames := 0, cells := 0, slots := 0, locals := 0 }) (va_Pc [.int 5] (pS D (tyL cI cZ cJ) (((((((xW o u cI cZ cJ).set 0 (o, .inr (8, ((xF u).set 9 (.int 0))))).set 32 ((u 31), .inl (cZ, 10, .inl (upd (upd (upd (upd (upd (upd (upd (upd (upd (upd (fun _ => 0) (0 : Int32).toNatClampNeg 0) (1 : Int32).toNatClampNeg 0) (2 : Int32).toNatClampNeg 0) (3 : Int32).toNatClampNeg 0) (4 : Int32).toNatClampNeg 0) (5 : Int32).toNatClampNeg 0) (6 : Int32).toNatClampNeg 0) (7 : Int32).toNatClampNeg 0) (8 : Int32).toNatClampNeg 0) (9 : Int32).toNatClampNeg 0)))).set 34 ((u 33), .inr (2, ([.ref (u 0), .ref (u 12), .ref (u 19), .int 0, .ref (u 34), .ref (u 35), .ref (u 36), .ref (u 37), .int 0].set 3 (.int 1))))).set 35 ((u 34), .inl (cI, 120, .inl (upd (fun _ => 0) (0 : Int32).toNatClampNeg 10)))).set 36 ((u 35), .inl (cI, 120, .inl (upd (fun _ => 0) (0 : Int32).toNatClampNeg 0)))).set 37 ((u 36), .inl (cI, 120, .inl (upd (fun _ => 0) (0 : Int32).toNatClampNeg (-1))))))) (QcRead (1)) 0 0 (fun _ => False) := by
  refine rdStart (lv := [(0, .int 5)]) (by decide) (Nat.le_of_ble_eq_true rfl) rfl ?_
  intro p e s m args below meth c ls S hr hlocks hl hP hK
  have hx := S.1
  have hb := S.2.1
  refine lv_iload_n hx hb dX8_isName_0 rfl (lv_at hl 0 rfl) ?_
  refine lv_if_lt (tgt := 14) hx hb dX8_isName_1 (by decide) (fun c => absurd c (by decide)) (fun _ => ?_)
  refine lv_iload_n hx hb dX8_isName_4 rfl (lv_at hl 0 rfl) ?_
  refine lv_bipush (v := 16) hx hb dX8_isName_5 (by decide) ?_
  refine lv_icmp_ge (tgt := 14) hx hb dX8_isName_7 (by decide) (fun c => absurd c (by decide)) (fun _ => ?_)
  refine lv_iconst (v := 1) hx hb dX8_isName_10 (by decide) ?_
  refine lv_goto (tgt := 15) hx hb dX8_isName_11 (by decide) ?_
  exact rdEndZ S hr hlocks dX8_isName_15 rfl rfl

set_option maxHeartbeats 8000000 in
set_option maxRecDepth 100000 in
theorem c_X1_declares_7 (l : Launch) (D : va_G) (cI cZ cJ : ClassId) (o : Nat) (u : Nat → Nat) : Met l yX1_declares (uW yX1_declares cX1_declares 3 (some .boolean)) ({ frames := 0, cells := 0, slots := 0, locals := 0 }) (va_Pc [.ref (u 0), .int 0, .int 5] (pS D (tyL cI cZ cJ) (((((((xW o u cI cZ cJ).set 0 (o, .inr (8, ((xF u).set 9 (.int 0))))).set 32 ((u 31), .inl (cZ, 10, .inl (upd (upd (upd (upd (upd (upd (upd (upd (upd (upd (fun _ => 0) (0 : Int32).toNatClampNeg 0) (1 : Int32).toNatClampNeg 0) (2 : Int32).toNatClampNeg 0) (3 : Int32).toNatClampNeg 0) (4 : Int32).toNatClampNeg 0) (5 : Int32).toNatClampNeg 0) (6 : Int32).toNatClampNeg 0) (7 : Int32).toNatClampNeg 0) (8 : Int32).toNatClampNeg 0) (9 : Int32).toNatClampNeg 0)))).set 34 ((u 33), .inr (2, ([.ref (u 0), .ref (u 12), .ref (u 19), .int 0, .ref (u 34), .ref (u 35), .ref (u 36), .ref (u 37), .int 0].set 3 (.int 1))))).set 35 ((u 34), .inl (cI, 120, .inl (upd (fun _ => 0) (0 : Int32).toNatClampNeg 10)))).set 36 ((u 35), .inl (cI, 120, .inl (upd (fun _ => 0) (0 : Int32).toNatClampNeg 0)))).set 37 ((u 36), .inl (cI, 120, .inl (upd (fun _ => 0) (0 : Int32).toNatClampNeg (-1))))))) (QcRead (0)) 0 0 (fun _ => False) := by
  refine rdStart (lv := [(0, .ref (u 0)), (1, .int 0), (2, .int 5)]) (by decide) (Nat.le_of_ble_eq_true rfl) rfl ?_
  intro p e s m args below meth c ls S hr hlocks hl hP hK
  have hx := S.1
  have hb := S.2.1
  refine lv_aload_n hx hb dX1_declares_0 rfl (lv_at hl 0 rfl) ?_
  refine xg (ci := 1) S inX1 rfl hK hP (q0 := 1) rfl 7 (by decide) rfl kw_1_61 rfl dX1_declares_1 ?_
  refine lv_iload_n hx hb dX1_declares_4 rfl (lv_at hl 1 rfl) ?_
  refine lv_bipush (v := 16) hx hb dX1_declares_5 (by decide) ?_
  refine ximul (v := 0) S dX1_declares_7 (by decide) ?_
  refine lv_iload_n hx hb dX1_declares_8 rfl (lv_at hl 2 rfl) ?_
  refine xiadd (v := 5) S dX1_declares_9 (by decide) ?_
  refine xiald (t0 := 0) (v := (-1)) S hK hP (q0 := 8) rfl rfl (vin rfl) rfl dX1_declares_10 ?_
  refine lv_iconst (v := (-1)) hx hb dX1_declares_11 (by decide) ?_
  refine lv_icmp_eq (tgt := 19) hx hb dX1_declares_12 (by decide) (fun _ => ?_) (fun c => absurd c (by decide))
  refine lv_iconst (v := 0) hx hb dX1_declares_19 (by decide) ?_
  exact rdEndZ S hr hlocks dX1_declares_20 rfl rfl

set_option maxHeartbeats 8000000 in
set_option maxRecDepth 100000 in
theorem c_X4_reaching_6 (l : Launch) (D : va_G) (cI cZ cJ : ClassId) (o : Nat) (u : Nat → Nat) : Met l yX4_reaching (uW yX4_reaching cX4_reaching 6 (some .int)) ({ frames := 0, cells := 0, slots := 0, locals := 0 }) (va_Pc [.ref (u 19), .int 0, .int 5] (pS D (tyL cI cZ cJ) (((((((xW o u cI cZ cJ).set 0 (o, .inr (8, ((xF u).set 9 (.int 0))))).set 32 ((u 31), .inl (cZ, 10, .inl (upd (upd (upd (upd (upd (upd (upd (upd (upd (upd (fun _ => 0) (0 : Int32).toNatClampNeg 0) (1 : Int32).toNatClampNeg 0) (2 : Int32).toNatClampNeg 0) (3 : Int32).toNatClampNeg 0) (4 : Int32).toNatClampNeg 0) (5 : Int32).toNatClampNeg 0) (6 : Int32).toNatClampNeg 0) (7 : Int32).toNatClampNeg 0) (8 : Int32).toNatClampNeg 0) (9 : Int32).toNatClampNeg 0)))).set 34 ((u 33), .inr (2, ([.ref (u 0), .ref (u 12), .ref (u 19), .int 0, .ref (u 34), .ref (u 35), .ref (u 36), .ref (u 37), .int 0].set 3 (.int 1))))).set 35 ((u 34), .inl (cI, 120, .inl (upd (fun _ => 0) (0 : Int32).toNatClampNeg 10)))).set 36 ((u 35), .inl (cI, 120, .inl (upd (fun _ => 0) (0 : Int32).toNatClampNeg 0)))).set 37 ((u 36), .inl (cI, 120, .inl (upd (fun _ => 0) (0 : Int32).toNatClampNeg (-1))))))) (QcRead (0)) 0 0 (fun _ => False) := by
  refine rdStart (lv := [(0, .ref (u 19)), (1, .int 0), (2, .int 5)]) (by decide) (Nat.le_of_ble_eq_true rfl) rfl ?_
  intro p e s m args below meth c ls S hr hlocks hl hP hK
  have hx := S.1
  have hb := S.2.1
  refine lv_iconst (v := 0) hx hb dX4_reaching_0 (by decide) ?_
  refine lv_istore_n (lv' := [(3, .int 0), (0, .ref (u 19)), (1, .int 0), (2, .int 5)]) hx hb dX4_reaching_1 rfl hl (by decide) rfl (fun ls hl => ?_)
  refine lv_iconst (v := 0) hx hb dX4_reaching_2 (by decide) ?_
  refine lv_istore (lv' := [(4, .int 0), (3, .int 0), (0, .ref (u 19)), (1, .int 0), (2, .int 5)]) hx hb dX4_reaching_3 hl (by decide) rfl (fun ls hl => ?_)
  refine lv_iload hx hb dX4_reaching_5 (lv_at hl 0 rfl) ?_
  refine lv_aload_n hx hb dX4_reaching_7 rfl (lv_at hl 2 rfl) ?_
  refine xg (ci := 4) S inX4 rfl hK hP (q0 := 20) rfl 1 (by decide) rfl kw_1_159 rfl dX4_reaching_8 ?_
  refine xg (ci := 5) S inX5 rfl hK hP (q0 := 13) rfl 0 (by decide) rfl kw_1_108 rfl dX4_reaching_11 ?_
  refine lv_icmp_ge (tgt := 133) hx hb dX4_reaching_14 (by decide) (fun _ => ?_) (fun c => absurd c (by decide))
  refine lv_iload_n hx hb dX4_reaching_133 rfl (lv_at hl 1 rfl) ?_
  exact rdEnd S hr hlocks dX4_reaching_134 rfl

set_option maxHeartbeats 8000000 in
set_option maxRecDepth 100000 in
theorem c_X8_hiddenBy_10 (l : Launch) (D : va_G) (cI cZ cJ : ClassId) (o : Nat) (u : Nat → Nat) (ra ga : Nat → Nat) (sz : Nat) : Met l yX8_hiddenBy (uW yX8_hiddenBy cX8_hiddenBy 3 (some .int)) ({ frames := 2, cells := 0, slots := 0, locals := 42 }) (va_Pc [.ref o, .int 0, .int 5] (aS ra ga D (tyL cI cZ cJ) (((((((xW o u cI cZ cJ).set 0 (o, .inr (8, ((xF u).set 9 (.int 0))))).set 32 ((u 31), .inl (cZ, 10, .inl (upd (upd (upd (upd (upd (upd (upd (upd (upd (upd (fun _ => 0) (0 : Int32).toNatClampNeg 0) (1 : Int32).toNatClampNeg 0) (2 : Int32).toNatClampNeg 0) (3 : Int32).toNatClampNeg 0) (4 : Int32).toNatClampNeg 0) (5 : Int32).toNatClampNeg 0) (6 : Int32).toNatClampNeg 0) (7 : Int32).toNatClampNeg 0) (8 : Int32).toNatClampNeg 0) (9 : Int32).toNatClampNeg 0)))).set 34 ((u 33), .inr (2, ([.ref (u 0), .ref (u 12), .ref (u 19), .int 0, .ref (u 34), .ref (u 35), .ref (u 36), .ref (u 37), .int 0].set 3 (.int 1))))).set 35 ((u 34), .inl (cI, 120, .inl (upd (fun _ => 0) (0 : Int32).toNatClampNeg 10)))).set 36 ((u 35), .inl (cI, 120, .inl (upd (fun _ => 0) (0 : Int32).toNatClampNeg 0)))).set 37 ((u 36), .inl (cI, 120, .inl (upd (fun _ => 0) (0 : Int32).toNatClampNeg (-1))))) sz)) (wQi (0) D (((((((xW o u cI cZ cJ).set 0 (o, .inr (8, ((xF u).set 9 (.int 0))))).set 32 ((u 31), .inl (cZ, 10, .inl (upd (upd (upd (upd (upd (upd (upd (upd (upd (upd (fun _ => 0) (0 : Int32).toNatClampNeg 0) (1 : Int32).toNatClampNeg 0) (2 : Int32).toNatClampNeg 0) (3 : Int32).toNatClampNeg 0) (4 : Int32).toNatClampNeg 0) (5 : Int32).toNatClampNeg 0) (6 : Int32).toNatClampNeg 0) (7 : Int32).toNatClampNeg 0) (8 : Int32).toNatClampNeg 0) (9 : Int32).toNatClampNeg 0)))).set 34 ((u 33), .inr (2, ([.ref (u 0), .ref (u 12), .ref (u 19), .int 0, .ref (u 34), .ref (u 35), .ref (u 36), .ref (u 37), .int 0].set 3 (.int 1))))).set 35 ((u 34), .inl (cI, 120, .inl (upd (fun _ => 0) (0 : Int32).toNatClampNeg 10)))).set 36 ((u 35), .inl (cI, 120, .inl (upd (fun _ => 0) (0 : Int32).toNatClampNeg 0)))).set 37 ((u 36), .inl (cI, 120, .inl (upd (fun _ => 0) (0 : Int32).toNatClampNeg (-1))))) (va_A (((((((xW o u cI cZ cJ).set 0 (o, .inr (8, ((xF u).set 9 (.int 0))))).set 32 ((u 31), .inl (cZ, 10, .inl (upd (upd (upd (upd (upd (upd (upd (upd (upd (upd (fun _ => 0) (0 : Int32).toNatClampNeg 0) (1 : Int32).toNatClampNeg 0) (2 : Int32).toNatClampNeg 0) (3 : Int32).toNatClampNeg 0) (4 : Int32).toNatClampNeg 0) (5 : Int32).toNatClampNeg 0) (6 : Int32).toNatClampNeg 0) (7 : Int32).toNatClampNeg 0) (8 : Int32).toNatClampNeg 0) (9 : Int32).toNatClampNeg 0)))).set 34 ((u 33), .inr (2, ([.ref (u 0), .ref (u 12), .ref (u 19), .int 0, .ref (u 34), .ref (u 35), .ref (u 36), .ref (u 37), .int 0].set 3 (.int 1))))).set 35 ((u 34), .inl (cI, 120, .inl (upd (fun _ => 0) (0 : Int32).toNatClampNeg 10)))).set 36 ((u 35), .inl (cI, 120, .inl (upd (fun _ => 0) (0 : Int32).toNatClampNeg 0)))).set 37 ((u 36), .inl (cI, 120, .inl (upd (fun _ => 0) (0 : Int32).toNatClampNeg (-1))))) sz)) 0 0 (va_A (((((((xW o u cI cZ cJ).set 0 (o, .inr (8, ((xF u).set 9 (.int 0))))).set 32 ((u 31), .inl (cZ, 10, .inl (upd (upd (upd (upd (upd (upd (upd (upd (upd (upd (fun _ => 0) (0 : Int32).toNatClampNeg 0) (1 : Int32).toNatClampNeg 0) (2 : Int32).toNatClampNeg 0) (3 : Int32).toNatClampNeg 0) (4 : Int32).toNatClampNeg 0) (5 : Int32).toNatClampNeg 0) (6 : Int32).toNatClampNeg 0) (7 : Int32).toNatClampNeg 0) (8 : Int32).toNatClampNeg 0) (9 : Int32).toNatClampNeg 0)))).set 34 ((u 33), .inr (2, ([.ref (u 0), .ref (u 12), .ref (u 19), .int 0, .ref (u 34), .ref (u 35), .ref (u 36), .ref (u 37), .int 0].set 3 (.int 1))))).set 35 ((u 34), .inl (cI, 120, .inl (upd (fun _ => 0) (0 : Int32).toNatClampNeg 10)))).set 36 ((u 35), .inl (cI, 120, .inl (upd (fun _ => 0) (0 : Int32).toNatClampNeg 0)))).set 37 ((u 36), .inl (cI, 120, .inl (upd (fun _ => 0) (0 : Int32).toNatClampNeg (-1))))) sz) := by
  refine aStart (lv := [(0, .ref o), (1, .int 0), (2, .int 5)]) (Qc := fun A => wQi (0) D (((((((xW o u cI cZ cJ).set 0 (o, .inr (8, ((xF u).set 9 (.int 0))))).set 32 ((u 31), .inl (cZ, 10, .inl (upd (upd (upd (upd (upd (upd (upd (upd (upd (upd (fun _ => 0) (0 : Int32).toNatClampNeg 0) (1 : Int32).toNatClampNeg 0) (2 : Int32).toNatClampNeg 0) (3 : Int32).toNatClampNeg 0) (4 : Int32).toNatClampNeg 0) (5 : Int32).toNatClampNeg 0) (6 : Int32).toNatClampNeg 0) (7 : Int32).toNatClampNeg 0) (8 : Int32).toNatClampNeg 0) (9 : Int32).toNatClampNeg 0)))).set 34 ((u 33), .inr (2, ([.ref (u 0), .ref (u 12), .ref (u 19), .int 0, .ref (u 34), .ref (u 35), .ref (u 36), .ref (u 37), .int 0].set 3 (.int 1))))).set 35 ((u 34), .inl (cI, 120, .inl (upd (fun _ => 0) (0 : Int32).toNatClampNeg 10)))).set 36 ((u 35), .inl (cI, 120, .inl (upd (fun _ => 0) (0 : Int32).toNatClampNeg 0)))).set 37 ((u 36), .inl (cI, 120, .inl (upd (fun _ => 0) (0 : Int32).toNatClampNeg (-1))))) A) (by decide) (Nat.le_of_ble_eq_true rfl) rfl ?_
  intro p e s m args below meth c ls A H S hr hlocks hnm hl hK hP hD hS hA hB
  have hx := S.1
  have hb := S.2.1
  refine lv_aload_n hx hb dX8_hiddenBy_0 rfl (lv_at hl 0 rfl) ?_
  refine lv_iload_n hx hb dX8_hiddenBy_1 rfl (lv_at hl 1 rfl) ?_
  refine aVv (As := [.int 0]) (ci := 8) S (c_X8_needProcedure_3 l D cI cZ cJ o u ra ga H.size) mi_X8_needProcedure kw_4_166 rfl rfl ⟨Nat.le_of_ble_eq_true rfl, Nat.le_of_ble_eq_true rfl⟩ hP hD hK hS hA hB (k := 0) rfl rfl rfl hl.1 (Nat.le_of_ble_eq_true rfl) ⟨Nat.le_of_ble_eq_true rfl, Nat.le_of_ble_eq_true rfl⟩ dX8_hiddenBy_2 (fun H locs hz hP hD hS => ?_)
  refine lv_iload_n hx hb dX8_hiddenBy_5 rfl (lv_at hl 2 rfl) ?_
  refine rdS (As := [.int 5]) S (c_X8_isName_11 l D cI cZ cJ o u) ms_X8_isName kw_4_198 ⟨rfl, rfl⟩ ⟨Nat.le_of_ble_eq_true rfl, Nat.le_of_ble_eq_true rfl⟩ hP hK hl.1 (Nat.le_of_ble_eq_true rfl) ⟨Nat.le_of_ble_eq_true rfl, Nat.le_of_ble_eq_true rfl⟩ dX8_hiddenBy_6 ?_
  refine aSv (As := [.int 1]) S (c_X8_needArgument_3 l D cI cZ cJ o u ra ga H.size) ms_X8_needArgument kw_4_4 rfl rfl ⟨Nat.le_of_ble_eq_true rfl, Nat.le_of_ble_eq_true rfl⟩ hP hD hK hS hA hB hl.1 (Nat.le_of_ble_eq_true rfl) ⟨Nat.le_of_ble_eq_true rfl, Nat.le_of_ble_eq_true rfl⟩ dX8_hiddenBy_9 (fun H locs hz hP hD hS => ?_)
  refine lv_aload_n hx hb dX8_hiddenBy_12 rfl (lv_at hl 0 rfl) ?_
  refine aVv (As := []) (ci := 8) S (c_X8_refresh_1 l D cI cZ cJ o u ra ga H.size) mi_X8_refresh kw_3_71 rfl rfl ⟨Nat.le_of_ble_eq_true rfl, Nat.le_of_ble_eq_true rfl⟩ hP hD hK hS hA hB (k := 0) rfl rfl rfl hl.1 (Nat.le_of_ble_eq_true rfl) ⟨Nat.le_of_ble_eq_true rfl, Nat.le_of_ble_eq_true rfl⟩ dX8_hiddenBy_13 (fun H locs hz hP hD hS => ?_)
  refine lv_aload_n hx hb dX8_hiddenBy_16 rfl (lv_at hl 0 rfl) ?_
  refine xg (ci := 8) S inX8 rfl hK hP (q0 := 0) rfl 0 (by decide) rfl kw_3_20 rfl dX8_hiddenBy_17 ?_
  refine lv_iload_n hx hb dX8_hiddenBy_20 rfl (lv_at hl 1 rfl) ?_
  refine lv_iload_n hx hb dX8_hiddenBy_21 rfl (lv_at hl 2 rfl) ?_
  refine rdV (As := [.int 0, .int 5]) (ci := 1) S (c_X1_declares_7 l D cI cZ cJ o u) mi_X1_declares kw_4_201 ⟨rfl, rfl⟩ ⟨Nat.le_of_ble_eq_true rfl, Nat.le_of_ble_eq_true rfl⟩ hP hK (k := 1) rfl rfl rfl hl.1 (Nat.le_of_ble_eq_true rfl) ⟨Nat.le_of_ble_eq_true rfl, Nat.le_of_ble_eq_true rfl⟩ dX8_hiddenBy_22 ?_
  refine lv_if_eq (tgt := 32) hx hb dX8_hiddenBy_25 (by decide) (fun _ => ?_) (fun c => absurd c (by decide))
  refine lv_aload_n hx hb dX8_hiddenBy_32 rfl (lv_at hl 0 rfl) ?_
  refine xg (ci := 8) S inX8 rfl hK hP (q0 := 0) rfl 2 (by decide) rfl kw_3_22 rfl dX8_hiddenBy_33 ?_
  refine lv_iload_n hx hb dX8_hiddenBy_36 rfl (lv_at hl 1 rfl) ?_
  refine lv_iload_n hx hb dX8_hiddenBy_37 rfl (lv_at hl 2 rfl) ?_
  refine rdV (As := [.int 0, .int 5]) (ci := 4) S (c_X4_reaching_6 l D cI cZ cJ o u) mi_X4_reaching kw_4_202 ⟨rfl, rfl⟩ ⟨Nat.le_of_ble_eq_true rfl, Nat.le_of_ble_eq_true rfl⟩ hP hK (k := 20) rfl rfl rfl hl.1 (Nat.le_of_ble_eq_true rfl) ⟨Nat.le_of_ble_eq_true rfl, Nat.le_of_ble_eq_true rfl⟩ dX8_hiddenBy_38 ?_
  exact wEnd S hr hlocks hP hD hS (Nat.le_of_ble_eq_true rfl) (Nat.le_of_ble_eq_true rfl) dX8_hiddenBy_41 rfl

set_option maxHeartbeats 8000000 in
set_option maxRecDepth 100000 in
theorem c_X8_isName_12 (l : Launch) (D : va_G) (cI cZ cJ : ClassId) (o : Nat) (u : Nat → Nat) : Met l yX8_isName (uW yX8_isName cX8_isName 1 (some .boolean)) ({ frames := 0, cells := 0, slots := 0, locals := 0 }) (va_Pc [.int 6] (pS D (tyL cI cZ cJ) (((((((xW o u cI cZ cJ).set 0 (o, .inr (8, ((xF u).set 9 (.int 0))))).set 32 ((u 31), .inl (cZ, 10, .inl (upd (upd (upd (upd (upd (upd (upd (upd (upd (upd (fun _ => 0) (0 : Int32).toNatClampNeg 0) (1 : Int32).toNatClampNeg 0) (2 : Int32).toNatClampNeg 0) (3 : Int32).toNatClampNeg 0) (4 : Int32).toNatClampNeg 0) (5 : Int32).toNatClampNeg 0) (6 : Int32).toNatClampNeg 0) (7 : Int32).toNatClampNeg 0) (8 : Int32).toNatClampNeg 0) (9 : Int32).toNatClampNeg 0)))).set 34 ((u 33), .inr (2, ([.ref (u 0), .ref (u 12), .ref (u 19), .int 0, .ref (u 34), .ref (u 35), .ref (u 36), .ref (u 37), .int 0].set 3 (.int 1))))).set 35 ((u 34), .inl (cI, 120, .inl (upd (fun _ => 0) (0 : Int32).toNatClampNeg 10)))).set 36 ((u 35), .inl (cI, 120, .inl (upd (fun _ => 0) (0 : Int32).toNatClampNeg 0)))).set 37 ((u 36), .inl (cI, 120, .inl (upd (fun _ => 0) (0 : Int32).toNatClampNeg (-1))))))) (QcRead (1)) 0 0 (fun _ => False) := by
  refine rdStart (lv := [(0, .int 6)]) (by decide) (Nat.le_of_ble_eq_true rfl) rfl ?_
  intro p e s m args below meth c ls S hr hlocks hl hP hK
  have hx := S.1
  have hb := S.2.1
  refine lv_iload_n hx hb dX8_isName_0 rfl (lv_at hl 0 rfl) ?_
  refine lv_if_lt (tgt := 14) hx hb dX8_isName_1 (by decide) (fun c => absurd c (by decide)) (fun _ => ?_)
  refine lv_iload_n hx hb dX8_isName_4 rfl (lv_at hl 0 rfl) ?_
  refine lv_bipush (v := 16) hx hb dX8_isName_5 (by decide) ?_
  refine lv_icmp_ge (tgt := 14) hx hb dX8_isName_7 (by decide) (fun c => absurd c (by decide)) (fun _ => ?_)
  refine lv_iconst (v := 1) hx hb dX8_isName_10 (by decide) ?_
  refine lv_goto (tgt := 15) hx hb dX8_isName_11 (by decide) ?_
  exact rdEndZ S hr hlocks dX8_isName_15 rfl rfl

set_option maxHeartbeats 8000000 in
set_option maxRecDepth 100000 in
theorem c_X1_declares_8 (l : Launch) (D : va_G) (cI cZ cJ : ClassId) (o : Nat) (u : Nat → Nat) : Met l yX1_declares (uW yX1_declares cX1_declares 3 (some .boolean)) ({ frames := 0, cells := 0, slots := 0, locals := 0 }) (va_Pc [.ref (u 0), .int 0, .int 6] (pS D (tyL cI cZ cJ) (((((((xW o u cI cZ cJ).set 0 (o, .inr (8, ((xF u).set 9 (.int 0))))).set 32 ((u 31), .inl (cZ, 10, .inl (upd (upd (upd (upd (upd (upd (upd (upd (upd (upd (fun _ => 0) (0 : Int32).toNatClampNeg 0) (1 : Int32).toNatClampNeg 0) (2 : Int32).toNatClampNeg 0) (3 : Int32).toNatClampNeg 0) (4 : Int32).toNatClampNeg 0) (5 : Int32).toNatClampNeg 0) (6 : Int32).toNatClampNeg 0) (7 : Int32).toNatClampNeg 0) (8 : Int32).toNatClampNeg 0) (9 : Int32).toNatClampNeg 0)))).set 34 ((u 33), .inr (2, ([.ref (u 0), .ref (u 12), .ref (u 19), .int 0, .ref (u 34), .ref (u 35), .ref (u 36), .ref (u 37), .int 0].set 3 (.int 1))))).set 35 ((u 34), .inl (cI, 120, .inl (upd (fun _ => 0) (0 : Int32).toNatClampNeg 10)))).set 36 ((u 35), .inl (cI, 120, .inl (upd (fun _ => 0) (0 : Int32).toNatClampNeg 0)))).set 37 ((u 36), .inl (cI, 120, .inl (upd (fun _ => 0) (0 : Int32).toNatClampNeg (-1))))))) (QcRead (0)) 0 0 (fun _ => False) := by
  refine rdStart (lv := [(0, .ref (u 0)), (1, .int 0), (2, .int 6)]) (by decide) (Nat.le_of_ble_eq_true rfl) rfl ?_
  intro p e s m args below meth c ls S hr hlocks hl hP hK
  have hx := S.1
  have hb := S.2.1
  refine lv_aload_n hx hb dX1_declares_0 rfl (lv_at hl 0 rfl) ?_
  refine xg (ci := 1) S inX1 rfl hK hP (q0 := 1) rfl 7 (by decide) rfl kw_1_61 rfl dX1_declares_1 ?_
  refine lv_iload_n hx hb dX1_declares_4 rfl (lv_at hl 1 rfl) ?_
  refine lv_bipush (v := 16) hx hb dX1_declares_5 (by decide) ?_
  refine ximul (v := 0) S dX1_declares_7 (by decide) ?_
  refine lv_iload_n hx hb dX1_declares_8 rfl (lv_at hl 2 rfl) ?_
  refine xiadd (v := 6) S dX1_declares_9 (by decide) ?_
  refine xiald (t0 := 0) (v := (-1)) S hK hP (q0 := 8) rfl rfl (vin rfl) rfl dX1_declares_10 ?_
  refine lv_iconst (v := (-1)) hx hb dX1_declares_11 (by decide) ?_
  refine lv_icmp_eq (tgt := 19) hx hb dX1_declares_12 (by decide) (fun _ => ?_) (fun c => absurd c (by decide))
  refine lv_iconst (v := 0) hx hb dX1_declares_19 (by decide) ?_
  exact rdEndZ S hr hlocks dX1_declares_20 rfl rfl

set_option maxHeartbeats 8000000 in
set_option maxRecDepth 100000 in
theorem c_X4_reaching_7 (l : Launch) (D : va_G) (cI cZ cJ : ClassId) (o : Nat) (u : Nat → Nat) : Met l yX4_reaching (uW yX4_reaching cX4_reaching 6 (some .int)) ({ frames := 0, cells := 0, slots := 0, locals := 0 }) (va_Pc [.ref (u 19), .int 0, .int 6] (pS D (tyL cI cZ cJ) (((((((xW o u cI cZ cJ).set 0 (o, .inr (8, ((xF u).set 9 (.int 0))))).set 32 ((u 31), .inl (cZ, 10, .inl (upd (upd (upd (upd (upd (upd (upd (upd (upd (upd (fun _ => 0) (0 : Int32).toNatClampNeg 0) (1 : Int32).toNatClampNeg 0) (2 : Int32).toNatClampNeg 0) (3 : Int32).toNatClampNeg 0) (4 : Int32).toNatClampNeg 0) (5 : Int32).toNatClampNeg 0) (6 : Int32).toNatClampNeg 0) (7 : Int32).toNatClampNeg 0) (8 : Int32).toNatClampNeg 0) (9 : Int32).toNatClampNeg 0)))).set 34 ((u 33), .inr (2, ([.ref (u 0), .ref (u 12), .ref (u 19), .int 0, .ref (u 34), .ref (u 35), .ref (u 36), .ref (u 37), .int 0].set 3 (.int 1))))).set 35 ((u 34), .inl (cI, 120, .inl (upd (fun _ => 0) (0 : Int32).toNatClampNeg 10)))).set 36 ((u 35), .inl (cI, 120, .inl (upd (fun _ => 0) (0 : Int32).toNatClampNeg 0)))).set 37 ((u 36), .inl (cI, 120, .inl (upd (fun _ => 0) (0 : Int32).toNatClampNeg (-1))))))) (QcRead (0)) 0 0 (fun _ => False) := by
  refine rdStart (lv := [(0, .ref (u 19)), (1, .int 0), (2, .int 6)]) (by decide) (Nat.le_of_ble_eq_true rfl) rfl ?_
  intro p e s m args below meth c ls S hr hlocks hl hP hK
  have hx := S.1
  have hb := S.2.1
  refine lv_iconst (v := 0) hx hb dX4_reaching_0 (by decide) ?_
  refine lv_istore_n (lv' := [(3, .int 0), (0, .ref (u 19)), (1, .int 0), (2, .int 6)]) hx hb dX4_reaching_1 rfl hl (by decide) rfl (fun ls hl => ?_)
  refine lv_iconst (v := 0) hx hb dX4_reaching_2 (by decide) ?_
  refine lv_istore (lv' := [(4, .int 0), (3, .int 0), (0, .ref (u 19)), (1, .int 0), (2, .int 6)]) hx hb dX4_reaching_3 hl (by decide) rfl (fun ls hl => ?_)
  refine lv_iload hx hb dX4_reaching_5 (lv_at hl 0 rfl) ?_
  refine lv_aload_n hx hb dX4_reaching_7 rfl (lv_at hl 2 rfl) ?_
  refine xg (ci := 4) S inX4 rfl hK hP (q0 := 20) rfl 1 (by decide) rfl kw_1_159 rfl dX4_reaching_8 ?_
  refine xg (ci := 5) S inX5 rfl hK hP (q0 := 13) rfl 0 (by decide) rfl kw_1_108 rfl dX4_reaching_11 ?_
  refine lv_icmp_ge (tgt := 133) hx hb dX4_reaching_14 (by decide) (fun _ => ?_) (fun c => absurd c (by decide))
  refine lv_iload_n hx hb dX4_reaching_133 rfl (lv_at hl 1 rfl) ?_
  exact rdEnd S hr hlocks dX4_reaching_134 rfl

set_option maxHeartbeats 8000000 in
set_option maxRecDepth 100000 in
theorem c_X8_hiddenBy_11 (l : Launch) (D : va_G) (cI cZ cJ : ClassId) (o : Nat) (u : Nat → Nat) (ra ga : Nat → Nat) (sz : Nat) : Met l yX8_hiddenBy (uW yX8_hiddenBy cX8_hiddenBy 3 (some .int)) ({ frames := 2, cells := 0, slots := 0, locals := 42 }) (va_Pc [.ref o, .int 0, .int 6] (aS ra ga D (tyL cI cZ cJ) (((((((xW o u cI cZ cJ).set 0 (o, .inr (8, ((xF u).set 9 (.int 0))))).set 32 ((u 31), .inl (cZ, 10, .inl (upd (upd (upd (upd (upd (upd (upd (upd (upd (upd (fun _ => 0) (0 : Int32).toNatClampNeg 0) (1 : Int32).toNatClampNeg 0) (2 : Int32).toNatClampNeg 0) (3 : Int32).toNatClampNeg 0) (4 : Int32).toNatClampNeg 0) (5 : Int32).toNatClampNeg 0) (6 : Int32).toNatClampNeg 0) (7 : Int32).toNatClampNeg 0) (8 : Int32).toNatClampNeg 0) (9 : Int32).toNatClampNeg 0)))).set 34 ((u 33), .inr (2, ([.ref (u 0), .ref (u 12), .ref (u 19), .int 0, .ref (u 34), .ref (u 35), .ref (u 36), .ref (u 37), .int 0].set 3 (.int 1))))).set 35 ((u 34), .inl (cI, 120, .inl (upd (fun _ => 0) (0 : Int32).toNatClampNeg 10)))).set 36 ((u 35), .inl (cI, 120, .inl (upd (fun _ => 0) (0 : Int32).toNatClampNeg 0)))).set 37 ((u 36), .inl (cI, 120, .inl (upd (fun _ => 0) (0 : Int32).toNatClampNeg (-1))))) sz)) (wQi (0) D (((((((xW o u cI cZ cJ).set 0 (o, .inr (8, ((xF u).set 9 (.int 0))))).set 32 ((u 31), .inl (cZ, 10, .inl (upd (upd (upd (upd (upd (upd (upd (upd (upd (upd (fun _ => 0) (0 : Int32).toNatClampNeg 0) (1 : Int32).toNatClampNeg 0) (2 : Int32).toNatClampNeg 0) (3 : Int32).toNatClampNeg 0) (4 : Int32).toNatClampNeg 0) (5 : Int32).toNatClampNeg 0) (6 : Int32).toNatClampNeg 0) (7 : Int32).toNatClampNeg 0) (8 : Int32).toNatClampNeg 0) (9 : Int32).toNatClampNeg 0)))).set 34 ((u 33), .inr (2, ([.ref (u 0), .ref (u 12), .ref (u 19), .int 0, .ref (u 34), .ref (u 35), .ref (u 36), .ref (u 37), .int 0].set 3 (.int 1))))).set 35 ((u 34), .inl (cI, 120, .inl (upd (fun _ => 0) (0 : Int32).toNatClampNeg 10)))).set 36 ((u 35), .inl (cI, 120, .inl (upd (fun _ => 0) (0 : Int32).toNatClampNeg 0)))).set 37 ((u 36), .inl (cI, 120, .inl (upd (fun _ => 0) (0 : Int32).toNatClampNeg (-1))))) (va_A (((((((xW o u cI cZ cJ).set 0 (o, .inr (8, ((xF u).set 9 (.int 0))))).set 32 ((u 31), .inl (cZ, 10, .inl (upd (upd (upd (upd (upd (upd (upd (upd (upd (upd (fun _ => 0) (0 : Int32).toNatClampNeg 0) (1 : Int32).toNatClampNeg 0) (2 : Int32).toNatClampNeg 0) (3 : Int32).toNatClampNeg 0) (4 : Int32).toNatClampNeg 0) (5 : Int32).toNatClampNeg 0) (6 : Int32).toNatClampNeg 0) (7 : Int32).toNatClampNeg 0) (8 : Int32).toNatClampNeg 0) (9 : Int32).toNatClampNeg 0)))).set 34 ((u 33), .inr (2, ([.ref (u 0), .ref (u 12), .ref (u 19), .int 0, .ref (u 34), .ref (u 35), .ref (u 36), .ref (u 37), .int 0].set 3 (.int 1))))).set 35 ((u 34), .inl (cI, 120, .inl (upd (fun _ => 0) (0 : Int32).toNatClampNeg 10)))).set 36 ((u 35), .inl (cI, 120, .inl (upd (fun _ => 0) (0 : Int32).toNatClampNeg 0)))).set 37 ((u 36), .inl (cI, 120, .inl (upd (fun _ => 0) (0 : Int32).toNatClampNeg (-1))))) sz)) 0 0 (va_A (((((((xW o u cI cZ cJ).set 0 (o, .inr (8, ((xF u).set 9 (.int 0))))).set 32 ((u 31), .inl (cZ, 10, .inl (upd (upd (upd (upd (upd (upd (upd (upd (upd (upd (fun _ => 0) (0 : Int32).toNatClampNeg 0) (1 : Int32).toNatClampNeg 0) (2 : Int32).toNatClampNeg 0) (3 : Int32).toNatClampNeg 0) (4 : Int32).toNatClampNeg 0) (5 : Int32).toNatClampNeg 0) (6 : Int32).toNatClampNeg 0) (7 : Int32).toNatClampNeg 0) (8 : Int32).toNatClampNeg 0) (9 : Int32).toNatClampNeg 0)))).set 34 ((u 33), .inr (2, ([.ref (u 0), .ref (u 12), .ref (u 19), .int 0, .ref (u 34), .ref (u 35), .ref (u 36), .ref (u 37), .int 0].set 3 (.int 1))))).set 35 ((u 34), .inl (cI, 120, .inl (upd (fun _ => 0) (0 : Int32).toNatClampNeg 10)))).set 36 ((u 35), .inl (cI, 120, .inl (upd (fun _ => 0) (0 : Int32).toNatClampNeg 0)))).set 37 ((u 36), .inl (cI, 120, .inl (upd (fun _ => 0) (0 : Int32).toNatClampNeg (-1))))) sz) := by
  refine aStart (lv := [(0, .ref o), (1, .int 0), (2, .int 6)]) (Qc := fun A => wQi (0) D (((((((xW o u cI cZ cJ).set 0 (o, .inr (8, ((xF u).set 9 (.int 0))))).set 32 ((u 31), .inl (cZ, 10, .inl (upd (upd (upd (upd (upd (upd (upd (upd (upd (upd (fun _ => 0) (0 : Int32).toNatClampNeg 0) (1 : Int32).toNatClampNeg 0) (2 : Int32).toNatClampNeg 0) (3 : Int32).toNatClampNeg 0) (4 : Int32).toNatClampNeg 0) (5 : Int32).toNatClampNeg 0) (6 : Int32).toNatClampNeg 0) (7 : Int32).toNatClampNeg 0) (8 : Int32).toNatClampNeg 0) (9 : Int32).toNatClampNeg 0)))).set 34 ((u 33), .inr (2, ([.ref (u 0), .ref (u 12), .ref (u 19), .int 0, .ref (u 34), .ref (u 35), .ref (u 36), .ref (u 37), .int 0].set 3 (.int 1))))).set 35 ((u 34), .inl (cI, 120, .inl (upd (fun _ => 0) (0 : Int32).toNatClampNeg 10)))).set 36 ((u 35), .inl (cI, 120, .inl (upd (fun _ => 0) (0 : Int32).toNatClampNeg 0)))).set 37 ((u 36), .inl (cI, 120, .inl (upd (fun _ => 0) (0 : Int32).toNatClampNeg (-1))))) A) (by decide) (Nat.le_of_ble_eq_true rfl) rfl ?_
  intro p e s m args below meth c ls A H S hr hlocks hnm hl hK hP hD hS hA hB
  have hx := S.1
  have hb := S.2.1
  refine lv_aload_n hx hb dX8_hiddenBy_0 rfl (lv_at hl 0 rfl) ?_
  refine lv_iload_n hx hb dX8_hiddenBy_1 rfl (lv_at hl 1 rfl) ?_
  refine aVv (As := [.int 0]) (ci := 8) S (c_X8_needProcedure_3 l D cI cZ cJ o u ra ga H.size) mi_X8_needProcedure kw_4_166 rfl rfl ⟨Nat.le_of_ble_eq_true rfl, Nat.le_of_ble_eq_true rfl⟩ hP hD hK hS hA hB (k := 0) rfl rfl rfl hl.1 (Nat.le_of_ble_eq_true rfl) ⟨Nat.le_of_ble_eq_true rfl, Nat.le_of_ble_eq_true rfl⟩ dX8_hiddenBy_2 (fun H locs hz hP hD hS => ?_)
  refine lv_iload_n hx hb dX8_hiddenBy_5 rfl (lv_at hl 2 rfl) ?_
  refine rdS (As := [.int 6]) S (c_X8_isName_12 l D cI cZ cJ o u) ms_X8_isName kw_4_198 ⟨rfl, rfl⟩ ⟨Nat.le_of_ble_eq_true rfl, Nat.le_of_ble_eq_true rfl⟩ hP hK hl.1 (Nat.le_of_ble_eq_true rfl) ⟨Nat.le_of_ble_eq_true rfl, Nat.le_of_ble_eq_true rfl⟩ dX8_hiddenBy_6 ?_
  refine aSv (As := [.int 1]) S (c_X8_needArgument_3 l D cI cZ cJ o u ra ga H.size) ms_X8_needArgument kw_4_4 rfl rfl ⟨Nat.le_of_ble_eq_true rfl, Nat.le_of_ble_eq_true rfl⟩ hP hD hK hS hA hB hl.1 (Nat.le_of_ble_eq_true rfl) ⟨Nat.le_of_ble_eq_true rfl, Nat.le_of_ble_eq_true rfl⟩ dX8_hiddenBy_9 (fun H locs hz hP hD hS => ?_)
  refine lv_aload_n hx hb dX8_hiddenBy_12 rfl (lv_at hl 0 rfl) ?_
  refine aVv (As := []) (ci := 8) S (c_X8_refresh_1 l D cI cZ cJ o u ra ga H.size) mi_X8_refresh kw_3_71 rfl rfl ⟨Nat.le_of_ble_eq_true rfl, Nat.le_of_ble_eq_true rfl⟩ hP hD hK hS hA hB (k := 0) rfl rfl rfl hl.1 (Nat.le_of_ble_eq_true rfl) ⟨Nat.le_of_ble_eq_true rfl, Nat.le_of_ble_eq_true rfl⟩ dX8_hiddenBy_13 (fun H locs hz hP hD hS => ?_)
  refine lv_aload_n hx hb dX8_hiddenBy_16 rfl (lv_at hl 0 rfl) ?_
  refine xg (ci := 8) S inX8 rfl hK hP (q0 := 0) rfl 0 (by decide) rfl kw_3_20 rfl dX8_hiddenBy_17 ?_
  refine lv_iload_n hx hb dX8_hiddenBy_20 rfl (lv_at hl 1 rfl) ?_
  refine lv_iload_n hx hb dX8_hiddenBy_21 rfl (lv_at hl 2 rfl) ?_
  refine rdV (As := [.int 0, .int 6]) (ci := 1) S (c_X1_declares_8 l D cI cZ cJ o u) mi_X1_declares kw_4_201 ⟨rfl, rfl⟩ ⟨Nat.le_of_ble_eq_true rfl, Nat.le_of_ble_eq_true rfl⟩ hP hK (k := 1) rfl rfl rfl hl.1 (Nat.le_of_ble_eq_true rfl) ⟨Nat.le_of_ble_eq_true rfl, Nat.le_of_ble_eq_true rfl⟩ dX8_hiddenBy_22 ?_
  refine lv_if_eq (tgt := 32) hx hb dX8_hiddenBy_25 (by decide) (fun _ => ?_) (fun c => absurd c (by decide))
  refine lv_aload_n hx hb dX8_hiddenBy_32 rfl (lv_at hl 0 rfl) ?_
  refine xg (ci := 8) S inX8 rfl hK hP (q0 := 0) rfl 2 (by decide) rfl kw_3_22 rfl dX8_hiddenBy_33 ?_
  refine lv_iload_n hx hb dX8_hiddenBy_36 rfl (lv_at hl 1 rfl) ?_
  refine lv_iload_n hx hb dX8_hiddenBy_37 rfl (lv_at hl 2 rfl) ?_
  refine rdV (As := [.int 0, .int 6]) (ci := 4) S (c_X4_reaching_7 l D cI cZ cJ o u) mi_X4_reaching kw_4_202 ⟨rfl, rfl⟩ ⟨Nat.le_of_ble_eq_true rfl, Nat.le_of_ble_eq_true rfl⟩ hP hK (k := 20) rfl rfl rfl hl.1 (Nat.le_of_ble_eq_true rfl) ⟨Nat.le_of_ble_eq_true rfl, Nat.le_of_ble_eq_true rfl⟩ dX8_hiddenBy_38 ?_
  exact wEnd S hr hlocks hP hD hS (Nat.le_of_ble_eq_true rfl) (Nat.le_of_ble_eq_true rfl) dX8_hiddenBy_41 rfl

set_option maxHeartbeats 8000000 in
set_option maxRecDepth 100000 in
theorem c_X8_isName_13 (l : Launch) (D : va_G) (cI cZ cJ : ClassId) (o : Nat) (u : Nat → Nat) : Met l yX8_isName (uW yX8_isName cX8_isName 1 (some .boolean)) ({ frames := 0, cells := 0, slots := 0, locals := 0 }) (va_Pc [.int 7] (pS D (tyL cI cZ cJ) (((((((xW o u cI cZ cJ).set 0 (o, .inr (8, ((xF u).set 9 (.int 0))))).set 32 ((u 31), .inl (cZ, 10, .inl (upd (upd (upd (upd (upd (upd (upd (upd (upd (upd (fun _ => 0) (0 : Int32).toNatClampNeg 0) (1 : Int32).toNatClampNeg 0) (2 : Int32).toNatClampNeg 0) (3 : Int32).toNatClampNeg 0) (4 : Int32).toNatClampNeg 0) (5 : Int32).toNatClampNeg 0) (6 : Int32).toNatClampNeg 0) (7 : Int32).toNatClampNeg 0) (8 : Int32).toNatClampNeg 0) (9 : Int32).toNatClampNeg 0)))).set 34 ((u 33), .inr (2, ([.ref (u 0), .ref (u 12), .ref (u 19), .int 0, .ref (u 34), .ref (u 35), .ref (u 36), .ref (u 37), .int 0].set 3 (.int 1))))).set 35 ((u 34), .inl (cI, 120, .inl (upd (fun _ => 0) (0 : Int32).toNatClampNeg 10)))).set 36 ((u 35), .inl (cI, 120, .inl (upd (fun _ => 0) (0 : Int32).toNatClampNeg 0)))).set 37 ((u 36), .inl (cI, 120, .inl (upd (fun _ => 0) (0 : Int32).toNatClampNeg (-1))))))) (QcRead (1)) 0 0 (fun _ => False) := by
  refine rdStart (lv := [(0, .int 7)]) (by decide) (Nat.le_of_ble_eq_true rfl) rfl ?_
  intro p e s m args below meth c ls S hr hlocks hl hP hK
  have hx := S.1
  have hb := S.2.1
  refine lv_iload_n hx hb dX8_isName_0 rfl (lv_at hl 0 rfl) ?_
  refine lv_if_lt (tgt := 14) hx hb dX8_isName_1 (by decide) (fun c => absurd c (by decide)) (fun _ => ?_)
  refine lv_iload_n hx hb dX8_isName_4 rfl (lv_at hl 0 rfl) ?_
  refine lv_bipush (v := 16) hx hb dX8_isName_5 (by decide) ?_
  refine lv_icmp_ge (tgt := 14) hx hb dX8_isName_7 (by decide) (fun c => absurd c (by decide)) (fun _ => ?_)
  refine lv_iconst (v := 1) hx hb dX8_isName_10 (by decide) ?_
  refine lv_goto (tgt := 15) hx hb dX8_isName_11 (by decide) ?_
  exact rdEndZ S hr hlocks dX8_isName_15 rfl rfl

set_option maxHeartbeats 8000000 in
set_option maxRecDepth 100000 in
theorem c_X1_declares_9 (l : Launch) (D : va_G) (cI cZ cJ : ClassId) (o : Nat) (u : Nat → Nat) : Met l yX1_declares (uW yX1_declares cX1_declares 3 (some .boolean)) ({ frames := 0, cells := 0, slots := 0, locals := 0 }) (va_Pc [.ref (u 0), .int 0, .int 7] (pS D (tyL cI cZ cJ) (((((((xW o u cI cZ cJ).set 0 (o, .inr (8, ((xF u).set 9 (.int 0))))).set 32 ((u 31), .inl (cZ, 10, .inl (upd (upd (upd (upd (upd (upd (upd (upd (upd (upd (fun _ => 0) (0 : Int32).toNatClampNeg 0) (1 : Int32).toNatClampNeg 0) (2 : Int32).toNatClampNeg 0) (3 : Int32).toNatClampNeg 0) (4 : Int32).toNatClampNeg 0) (5 : Int32).toNatClampNeg 0) (6 : Int32).toNatClampNeg 0) (7 : Int32).toNatClampNeg 0) (8 : Int32).toNatClampNeg 0) (9 : Int32).toNatClampNeg 0)))).set 34 ((u 33), .inr (2, ([.ref (u 0), .ref (u 12), .ref (u 19), .int 0, .ref (u 34), .ref (u 35), .ref (u 36), .ref (u 37), .int 0].set 3 (.int 1))))).set 35 ((u 34), .inl (cI, 120, .inl (upd (fun _ => 0) (0 : Int32).toNatClampNeg 10)))).set 36 ((u 35), .inl (cI, 120, .inl (upd (fun _ => 0) (0 : Int32).toNatClampNeg 0)))).set 37 ((u 36), .inl (cI, 120, .inl (upd (fun _ => 0) (0 : Int32).toNatClampNeg (-1))))))) (QcRead (0)) 0 0 (fun _ => False) := by
  refine rdStart (lv := [(0, .ref (u 0)), (1, .int 0), (2, .int 7)]) (by decide) (Nat.le_of_ble_eq_true rfl) rfl ?_
  intro p e s m args below meth c ls S hr hlocks hl hP hK
  have hx := S.1
  have hb := S.2.1
  refine lv_aload_n hx hb dX1_declares_0 rfl (lv_at hl 0 rfl) ?_
  refine xg (ci := 1) S inX1 rfl hK hP (q0 := 1) rfl 7 (by decide) rfl kw_1_61 rfl dX1_declares_1 ?_
  refine lv_iload_n hx hb dX1_declares_4 rfl (lv_at hl 1 rfl) ?_
  refine lv_bipush (v := 16) hx hb dX1_declares_5 (by decide) ?_
  refine ximul (v := 0) S dX1_declares_7 (by decide) ?_
  refine lv_iload_n hx hb dX1_declares_8 rfl (lv_at hl 2 rfl) ?_
  refine xiadd (v := 7) S dX1_declares_9 (by decide) ?_
  refine xiald (t0 := 0) (v := (-1)) S hK hP (q0 := 8) rfl rfl (vin rfl) rfl dX1_declares_10 ?_
  refine lv_iconst (v := (-1)) hx hb dX1_declares_11 (by decide) ?_
  refine lv_icmp_eq (tgt := 19) hx hb dX1_declares_12 (by decide) (fun _ => ?_) (fun c => absurd c (by decide))
  refine lv_iconst (v := 0) hx hb dX1_declares_19 (by decide) ?_
  exact rdEndZ S hr hlocks dX1_declares_20 rfl rfl

set_option maxHeartbeats 8000000 in
set_option maxRecDepth 100000 in
theorem c_X4_reaching_8 (l : Launch) (D : va_G) (cI cZ cJ : ClassId) (o : Nat) (u : Nat → Nat) : Met l yX4_reaching (uW yX4_reaching cX4_reaching 6 (some .int)) ({ frames := 0, cells := 0, slots := 0, locals := 0 }) (va_Pc [.ref (u 19), .int 0, .int 7] (pS D (tyL cI cZ cJ) (((((((xW o u cI cZ cJ).set 0 (o, .inr (8, ((xF u).set 9 (.int 0))))).set 32 ((u 31), .inl (cZ, 10, .inl (upd (upd (upd (upd (upd (upd (upd (upd (upd (upd (fun _ => 0) (0 : Int32).toNatClampNeg 0) (1 : Int32).toNatClampNeg 0) (2 : Int32).toNatClampNeg 0) (3 : Int32).toNatClampNeg 0) (4 : Int32).toNatClampNeg 0) (5 : Int32).toNatClampNeg 0) (6 : Int32).toNatClampNeg 0) (7 : Int32).toNatClampNeg 0) (8 : Int32).toNatClampNeg 0) (9 : Int32).toNatClampNeg 0)))).set 34 ((u 33), .inr (2, ([.ref (u 0), .ref (u 12), .ref (u 19), .int 0, .ref (u 34), .ref (u 35), .ref (u 36), .ref (u 37), .int 0].set 3 (.int 1))))).set 35 ((u 34), .inl (cI, 120, .inl (upd (fun _ => 0) (0 : Int32).toNatClampNeg 10)))).set 36 ((u 35), .inl (cI, 120, .inl (upd (fun _ => 0) (0 : Int32).toNatClampNeg 0)))).set 37 ((u 36), .inl (cI, 120, .inl (upd (fun _ => 0) (0 : Int32).toNatClampNeg (-1))))))) (QcRead (0)) 0 0 (fun _ => False) := by
  refine rdStart (lv := [(0, .ref (u 19)), (1, .int 0), (2, .int 7)]) (by decide) (Nat.le_of_ble_eq_true rfl) rfl ?_
  intro p e s m args below meth c ls S hr hlocks hl hP hK
  have hx := S.1
  have hb := S.2.1
  refine lv_iconst (v := 0) hx hb dX4_reaching_0 (by decide) ?_
  refine lv_istore_n (lv' := [(3, .int 0), (0, .ref (u 19)), (1, .int 0), (2, .int 7)]) hx hb dX4_reaching_1 rfl hl (by decide) rfl (fun ls hl => ?_)
  refine lv_iconst (v := 0) hx hb dX4_reaching_2 (by decide) ?_
  refine lv_istore (lv' := [(4, .int 0), (3, .int 0), (0, .ref (u 19)), (1, .int 0), (2, .int 7)]) hx hb dX4_reaching_3 hl (by decide) rfl (fun ls hl => ?_)
  refine lv_iload hx hb dX4_reaching_5 (lv_at hl 0 rfl) ?_
  refine lv_aload_n hx hb dX4_reaching_7 rfl (lv_at hl 2 rfl) ?_
  refine xg (ci := 4) S inX4 rfl hK hP (q0 := 20) rfl 1 (by decide) rfl kw_1_159 rfl dX4_reaching_8 ?_
  refine xg (ci := 5) S inX5 rfl hK hP (q0 := 13) rfl 0 (by decide) rfl kw_1_108 rfl dX4_reaching_11 ?_
  refine lv_icmp_ge (tgt := 133) hx hb dX4_reaching_14 (by decide) (fun _ => ?_) (fun c => absurd c (by decide))
  refine lv_iload_n hx hb dX4_reaching_133 rfl (lv_at hl 1 rfl) ?_
  exact rdEnd S hr hlocks dX4_reaching_134 rfl

set_option maxHeartbeats 8000000 in
set_option maxRecDepth 100000 in
theorem c_X8_hiddenBy_12 (l : Launch) (D : va_G) (cI cZ cJ : ClassId) (o : Nat) (u : Nat → Nat) (ra ga : Nat → Nat) (sz : Nat) : Met l yX8_hiddenBy (uW yX8_hiddenBy cX8_hiddenBy 3 (some .int)) ({ frames := 2, cells := 0, slots := 0, locals := 42 }) (va_Pc [.ref o, .int 0, .int 7] (aS ra ga D (tyL cI cZ cJ) (((((((xW o u cI cZ cJ).set 0 (o, .inr (8, ((xF u).set 9 (.int 0))))).set 32 ((u 31), .inl (cZ, 10, .inl (upd (upd (upd (upd (upd (upd (upd (upd (upd (upd (fun _ => 0) (0 : Int32).toNatClampNeg 0) (1 : Int32).toNatClampNeg 0) (2 : Int32).toNatClampNeg 0) (3 : Int32).toNatClampNeg 0) (4 : Int32).toNatClampNeg 0) (5 : Int32).toNatClampNeg 0) (6 : Int32).toNatClampNeg 0) (7 : Int32).toNatClampNeg 0) (8 : Int32).toNatClampNeg 0) (9 : Int32).toNatClampNeg 0)))).set 34 ((u 33), .inr (2, ([.ref (u 0), .ref (u 12), .ref (u 19), .int 0, .ref (u 34), .ref (u 35), .ref (u 36), .ref (u 37), .int 0].set 3 (.int 1))))).set 35 ((u 34), .inl (cI, 120, .inl (upd (fun _ => 0) (0 : Int32).toNatClampNeg 10)))).set 36 ((u 35), .inl (cI, 120, .inl (upd (fun _ => 0) (0 : Int32).toNatClampNeg 0)))).set 37 ((u 36), .inl (cI, 120, .inl (upd (fun _ => 0) (0 : Int32).toNatClampNeg (-1))))) sz)) (wQi (0) D (((((((xW o u cI cZ cJ).set 0 (o, .inr (8, ((xF u).set 9 (.int 0))))).set 32 ((u 31), .inl (cZ, 10, .inl (upd (upd (upd (upd (upd (upd (upd (upd (upd (upd (fun _ => 0) (0 : Int32).toNatClampNeg 0) (1 : Int32).toNatClampNeg 0) (2 : Int32).toNatClampNeg 0) (3 : Int32).toNatClampNeg 0) (4 : Int32).toNatClampNeg 0) (5 : Int32).toNatClampNeg 0) (6 : Int32).toNatClampNeg 0) (7 : Int32).toNatClampNeg 0) (8 : Int32).toNatClampNeg 0) (9 : Int32).toNatClampNeg 0)))).set 34 ((u 33), .inr (2, ([.ref (u 0), .ref (u 12), .ref (u 19), .int 0, .ref (u 34), .ref (u 35), .ref (u 36), .ref (u 37), .int 0].set 3 (.int 1))))).set 35 ((u 34), .inl (cI, 120, .inl (upd (fun _ => 0) (0 : Int32).toNatClampNeg 10)))).set 36 ((u 35), .inl (cI, 120, .inl (upd (fun _ => 0) (0 : Int32).toNatClampNeg 0)))).set 37 ((u 36), .inl (cI, 120, .inl (upd (fun _ => 0) (0 : Int32).toNatClampNeg (-1))))) (va_A (((((((xW o u cI cZ cJ).set 0 (o, .inr (8, ((xF u).set 9 (.int 0))))).set 32 ((u 31), .inl (cZ, 10, .inl (upd (upd (upd (upd (upd (upd (upd (upd (upd (upd (fun _ => 0) (0 : Int32).toNatClampNeg 0) (1 : Int32).toNatClampNeg 0) (2 : Int32).toNatClampNeg 0) (3 : Int32).toNatClampNeg 0) (4 : Int32).toNatClampNeg 0) (5 : Int32).toNatClampNeg 0) (6 : Int32).toNatClampNeg 0) (7 : Int32).toNatClampNeg 0) (8 : Int32).toNatClampNeg 0) (9 : Int32).toNatClampNeg 0)))).set 34 ((u 33), .inr (2, ([.ref (u 0), .ref (u 12), .ref (u 19), .int 0, .ref (u 34), .ref (u 35), .ref (u 36), .ref (u 37), .int 0].set 3 (.int 1))))).set 35 ((u 34), .inl (cI, 120, .inl (upd (fun _ => 0) (0 : Int32).toNatClampNeg 10)))).set 36 ((u 35), .inl (cI, 120, .inl (upd (fun _ => 0) (0 : Int32).toNatClampNeg 0)))).set 37 ((u 36), .inl (cI, 120, .inl (upd (fun _ => 0) (0 : Int32).toNatClampNeg (-1))))) sz)) 0 0 (va_A (((((((xW o u cI cZ cJ).set 0 (o, .inr (8, ((xF u).set 9 (.int 0))))).set 32 ((u 31), .inl (cZ, 10, .inl (upd (upd (upd (upd (upd (upd (upd (upd (upd (upd (fun _ => 0) (0 : Int32).toNatClampNeg 0) (1 : Int32).toNatClampNeg 0) (2 : Int32).toNatClampNeg 0) (3 : Int32).toNatClampNeg 0) (4 : Int32).toNatClampNeg 0) (5 : Int32).toNatClampNeg 0) (6 : Int32).toNatClampNeg 0) (7 : Int32).toNatClampNeg 0) (8 : Int32).toNatClampNeg 0) (9 : Int32).toNatClampNeg 0)))).set 34 ((u 33), .inr (2, ([.ref (u 0), .ref (u 12), .ref (u 19), .int 0, .ref (u 34), .ref (u 35), .ref (u 36), .ref (u 37), .int 0].set 3 (.int 1))))).set 35 ((u 34), .inl (cI, 120, .inl (upd (fun _ => 0) (0 : Int32).toNatClampNeg 10)))).set 36 ((u 35), .inl (cI, 120, .inl (upd (fun _ => 0) (0 : Int32).toNatClampNeg 0)))).set 37 ((u 36), .inl (cI, 120, .inl (upd (fun _ => 0) (0 : Int32).toNatClampNeg (-1))))) sz) := by
  refine aStart (lv := [(0, .ref o), (1, .int 0), (2, .int 7)]) (Qc := fun A => wQi (0) D (((((((xW o u cI cZ cJ).set 0 (o, .inr (8, ((xF u).set 9 (.int 0))))).set 32 ((u 31), .inl (cZ, 10, .inl (upd (upd (upd (upd (upd (upd (upd (upd (upd (upd (fun _ => 0) (0 : Int32).toNatClampNeg 0) (1 : Int32).toNatClampNeg 0) (2 : Int32).toNatClampNeg 0) (3 : Int32).toNatClampNeg 0) (4 : Int32).toNatClampNeg 0) (5 : Int32).toNatClampNeg 0) (6 : Int32).toNatClampNeg 0) (7 : Int32).toNatClampNeg 0) (8 : Int32).toNatClampNeg 0) (9 : Int32).toNatClampNeg 0)))).set 34 ((u 33), .inr (2, ([.ref (u 0), .ref (u 12), .ref (u 19), .int 0, .ref (u 34), .ref (u 35), .ref (u 36), .ref (u 37), .int 0].set 3 (.int 1))))).set 35 ((u 34), .inl (cI, 120, .inl (upd (fun _ => 0) (0 : Int32).toNatClampNeg 10)))).set 36 ((u 35), .inl (cI, 120, .inl (upd (fun _ => 0) (0 : Int32).toNatClampNeg 0)))).set 37 ((u 36), .inl (cI, 120, .inl (upd (fun _ => 0) (0 : Int32).toNatClampNeg (-1))))) A) (by decide) (Nat.le_of_ble_eq_true rfl) rfl ?_
  intro p e s m args below meth c ls A H S hr hlocks hnm hl hK hP hD hS hA hB
  have hx := S.1
  have hb := S.2.1
  refine lv_aload_n hx hb dX8_hiddenBy_0 rfl (lv_at hl 0 rfl) ?_
  refine lv_iload_n hx hb dX8_hiddenBy_1 rfl (lv_at hl 1 rfl) ?_
  refine aVv (As := [.int 0]) (ci := 8) S (c_X8_needProcedure_3 l D cI cZ cJ o u ra ga H.size) mi_X8_needProcedure kw_4_166 rfl rfl ⟨Nat.le_of_ble_eq_true rfl, Nat.le_of_ble_eq_true rfl⟩ hP hD hK hS hA hB (k := 0) rfl rfl rfl hl.1 (Nat.le_of_ble_eq_true rfl) ⟨Nat.le_of_ble_eq_true rfl, Nat.le_of_ble_eq_true rfl⟩ dX8_hiddenBy_2 (fun H locs hz hP hD hS => ?_)
  refine lv_iload_n hx hb dX8_hiddenBy_5 rfl (lv_at hl 2 rfl) ?_
  refine rdS (As := [.int 7]) S (c_X8_isName_13 l D cI cZ cJ o u) ms_X8_isName kw_4_198 ⟨rfl, rfl⟩ ⟨Nat.le_of_ble_eq_true rfl, Nat.le_of_ble_eq_true rfl⟩ hP hK hl.1 (Nat.le_of_ble_eq_true rfl) ⟨Nat.le_of_ble_eq_true rfl, Nat.le_of_ble_eq_true rfl⟩ dX8_hiddenBy_6 ?_
  refine aSv (As := [.int 1]) S (c_X8_needArgument_3 l D cI cZ cJ o u ra ga H.size) ms_X8_needArgument kw_4_4 rfl rfl ⟨Nat.le_of_ble_eq_true rfl, Nat.le_of_ble_eq_true rfl⟩ hP hD hK hS hA hB hl.1 (Nat.le_of_ble_eq_true rfl) ⟨Nat.le_of_ble_eq_true rfl, Nat.le_of_ble_eq_true rfl⟩ dX8_hiddenBy_9 (fun H locs hz hP hD hS => ?_)
  refine lv_aload_n hx hb dX8_hiddenBy_12 rfl (lv_at hl 0 rfl) ?_
  refine aVv (As := []) (ci := 8) S (c_X8_refresh_1 l D cI cZ cJ o u ra ga H.size) mi_X8_refresh kw_3_71 rfl rfl ⟨Nat.le_of_ble_eq_true rfl, Nat.le_of_ble_eq_true rfl⟩ hP hD hK hS hA hB (k := 0) rfl rfl rfl hl.1 (Nat.le_of_ble_eq_true rfl) ⟨Nat.le_of_ble_eq_true rfl, Nat.le_of_ble_eq_true rfl⟩ dX8_hiddenBy_13 (fun H locs hz hP hD hS => ?_)
  refine lv_aload_n hx hb dX8_hiddenBy_16 rfl (lv_at hl 0 rfl) ?_
  refine xg (ci := 8) S inX8 rfl hK hP (q0 := 0) rfl 0 (by decide) rfl kw_3_20 rfl dX8_hiddenBy_17 ?_
  refine lv_iload_n hx hb dX8_hiddenBy_20 rfl (lv_at hl 1 rfl) ?_
  refine lv_iload_n hx hb dX8_hiddenBy_21 rfl (lv_at hl 2 rfl) ?_
  refine rdV (As := [.int 0, .int 7]) (ci := 1) S (c_X1_declares_9 l D cI cZ cJ o u) mi_X1_declares kw_4_201 ⟨rfl, rfl⟩ ⟨Nat.le_of_ble_eq_true rfl, Nat.le_of_ble_eq_true rfl⟩ hP hK (k := 1) rfl rfl rfl hl.1 (Nat.le_of_ble_eq_true rfl) ⟨Nat.le_of_ble_eq_true rfl, Nat.le_of_ble_eq_true rfl⟩ dX8_hiddenBy_22 ?_
  refine lv_if_eq (tgt := 32) hx hb dX8_hiddenBy_25 (by decide) (fun _ => ?_) (fun c => absurd c (by decide))
  refine lv_aload_n hx hb dX8_hiddenBy_32 rfl (lv_at hl 0 rfl) ?_
  refine xg (ci := 8) S inX8 rfl hK hP (q0 := 0) rfl 2 (by decide) rfl kw_3_22 rfl dX8_hiddenBy_33 ?_
  refine lv_iload_n hx hb dX8_hiddenBy_36 rfl (lv_at hl 1 rfl) ?_
  refine lv_iload_n hx hb dX8_hiddenBy_37 rfl (lv_at hl 2 rfl) ?_
  refine rdV (As := [.int 0, .int 7]) (ci := 4) S (c_X4_reaching_8 l D cI cZ cJ o u) mi_X4_reaching kw_4_202 ⟨rfl, rfl⟩ ⟨Nat.le_of_ble_eq_true rfl, Nat.le_of_ble_eq_true rfl⟩ hP hK (k := 20) rfl rfl rfl hl.1 (Nat.le_of_ble_eq_true rfl) ⟨Nat.le_of_ble_eq_true rfl, Nat.le_of_ble_eq_true rfl⟩ dX8_hiddenBy_38 ?_
  exact wEnd S hr hlocks hP hD hS (Nat.le_of_ble_eq_true rfl) (Nat.le_of_ble_eq_true rfl) dX8_hiddenBy_41 rfl

set_option maxHeartbeats 8000000 in
set_option maxRecDepth 100000 in
theorem c_X8_fault_11 (l : Launch) (D : va_G) (cI cZ cJ : ClassId) (o : Nat) (u : Nat → Nat) (ra ga : Nat → Nat) (sz : Nat) : Met l yX8_fault (uW yX8_fault cX8_fault 3 (some .int)) ({ frames := 1, cells := 0, slots := 0, locals := 20 }) (va_Pc [.ref o, .int 0, .int 0] (aS ra ga D (tyL cI cZ cJ) (((((((xW o u cI cZ cJ).set 0 (o, .inr (8, ((xF u).set 9 (.int 0))))).set 32 ((u 31), .inl (cZ, 10, .inl (upd (upd (upd (upd (upd (upd (upd (upd (upd (upd (fun _ => 0) (0 : Int32).toNatClampNeg 0) (1 : Int32).toNatClampNeg 0) (2 : Int32).toNatClampNeg 0) (3 : Int32).toNatClampNeg 0) (4 : Int32).toNatClampNeg 0) (5 : Int32).toNatClampNeg 0) (6 : Int32).toNatClampNeg 0) (7 : Int32).toNatClampNeg 0) (8 : Int32).toNatClampNeg 0) (9 : Int32).toNatClampNeg 0)))).set 34 ((u 33), .inr (2, ([.ref (u 0), .ref (u 12), .ref (u 19), .int 0, .ref (u 34), .ref (u 35), .ref (u 36), .ref (u 37), .int 0].set 3 (.int 1))))).set 35 ((u 34), .inl (cI, 120, .inl (upd (fun _ => 0) (0 : Int32).toNatClampNeg 10)))).set 36 ((u 35), .inl (cI, 120, .inl (upd (fun _ => 0) (0 : Int32).toNatClampNeg 0)))).set 37 ((u 36), .inl (cI, 120, .inl (upd (fun _ => 0) (0 : Int32).toNatClampNeg (-1))))) sz)) (wQi (10) D (((((((xW o u cI cZ cJ).set 0 (o, .inr (8, ((xF u).set 9 (.int 0))))).set 32 ((u 31), .inl (cZ, 10, .inl (upd (upd (upd (upd (upd (upd (upd (upd (upd (upd (fun _ => 0) (0 : Int32).toNatClampNeg 0) (1 : Int32).toNatClampNeg 0) (2 : Int32).toNatClampNeg 0) (3 : Int32).toNatClampNeg 0) (4 : Int32).toNatClampNeg 0) (5 : Int32).toNatClampNeg 0) (6 : Int32).toNatClampNeg 0) (7 : Int32).toNatClampNeg 0) (8 : Int32).toNatClampNeg 0) (9 : Int32).toNatClampNeg 0)))).set 34 ((u 33), .inr (2, ([.ref (u 0), .ref (u 12), .ref (u 19), .int 0, .ref (u 34), .ref (u 35), .ref (u 36), .ref (u 37), .int 0].set 3 (.int 1))))).set 35 ((u 34), .inl (cI, 120, .inl (upd (fun _ => 0) (0 : Int32).toNatClampNeg 10)))).set 36 ((u 35), .inl (cI, 120, .inl (upd (fun _ => 0) (0 : Int32).toNatClampNeg 0)))).set 37 ((u 36), .inl (cI, 120, .inl (upd (fun _ => 0) (0 : Int32).toNatClampNeg (-1))))) (va_A (((((((xW o u cI cZ cJ).set 0 (o, .inr (8, ((xF u).set 9 (.int 0))))).set 32 ((u 31), .inl (cZ, 10, .inl (upd (upd (upd (upd (upd (upd (upd (upd (upd (upd (fun _ => 0) (0 : Int32).toNatClampNeg 0) (1 : Int32).toNatClampNeg 0) (2 : Int32).toNatClampNeg 0) (3 : Int32).toNatClampNeg 0) (4 : Int32).toNatClampNeg 0) (5 : Int32).toNatClampNeg 0) (6 : Int32).toNatClampNeg 0) (7 : Int32).toNatClampNeg 0) (8 : Int32).toNatClampNeg 0) (9 : Int32).toNatClampNeg 0)))).set 34 ((u 33), .inr (2, ([.ref (u 0), .ref (u 12), .ref (u 19), .int 0, .ref (u 34), .ref (u 35), .ref (u 36), .ref (u 37), .int 0].set 3 (.int 1))))).set 35 ((u 34), .inl (cI, 120, .inl (upd (fun _ => 0) (0 : Int32).toNatClampNeg 10)))).set 36 ((u 35), .inl (cI, 120, .inl (upd (fun _ => 0) (0 : Int32).toNatClampNeg 0)))).set 37 ((u 36), .inl (cI, 120, .inl (upd (fun _ => 0) (0 : Int32).toNatClampNeg (-1))))) sz)) 0 0 (va_A (((((((xW o u cI cZ cJ).set 0 (o, .inr (8, ((xF u).set 9 (.int 0))))).set 32 ((u 31), .inl (cZ, 10, .inl (upd (upd (upd (upd (upd (upd (upd (upd (upd (upd (fun _ => 0) (0 : Int32).toNatClampNeg 0) (1 : Int32).toNatClampNeg 0) (2 : Int32).toNatClampNeg 0) (3 : Int32).toNatClampNeg 0) (4 : Int32).toNatClampNeg 0) (5 : Int32).toNatClampNeg 0) (6 : Int32).toNatClampNeg 0) (7 : Int32).toNatClampNeg 0) (8 : Int32).toNatClampNeg 0) (9 : Int32).toNatClampNeg 0)))).set 34 ((u 33), .inr (2, ([.ref (u 0), .ref (u 12), .ref (u 19), .int 0, .ref (u 34), .ref (u 35), .ref (u 36), .ref (u 37), .int 0].set 3 (.int 1))))).set 35 ((u 34), .inl (cI, 120, .inl (upd (fun _ => 0) (0 : Int32).toNatClampNeg 10)))).set 36 ((u 35), .inl (cI, 120, .inl (upd (fun _ => 0) (0 : Int32).toNatClampNeg 0)))).set 37 ((u 36), .inl (cI, 120, .inl (upd (fun _ => 0) (0 : Int32).toNatClampNeg (-1))))) sz) := by
  refine aStart (lv := [(0, .ref o), (1, .int 0), (2, .int 0)]) (Qc := fun A => wQi (10) D (((((((xW o u cI cZ cJ).set 0 (o, .inr (8, ((xF u).set 9 (.int 0))))).set 32 ((u 31), .inl (cZ, 10, .inl (upd (upd (upd (upd (upd (upd (upd (upd (upd (upd (fun _ => 0) (0 : Int32).toNatClampNeg 0) (1 : Int32).toNatClampNeg 0) (2 : Int32).toNatClampNeg 0) (3 : Int32).toNatClampNeg 0) (4 : Int32).toNatClampNeg 0) (5 : Int32).toNatClampNeg 0) (6 : Int32).toNatClampNeg 0) (7 : Int32).toNatClampNeg 0) (8 : Int32).toNatClampNeg 0) (9 : Int32).toNatClampNeg 0)))).set 34 ((u 33), .inr (2, ([.ref (u 0), .ref (u 12), .ref (u 19), .int 0, .ref (u 34), .ref (u 35), .ref (u 36), .ref (u 37), .int 0].set 3 (.int 1))))).set 35 ((u 34), .inl (cI, 120, .inl (upd (fun _ => 0) (0 : Int32).toNatClampNeg 10)))).set 36 ((u 35), .inl (cI, 120, .inl (upd (fun _ => 0) (0 : Int32).toNatClampNeg 0)))).set 37 ((u 36), .inl (cI, 120, .inl (upd (fun _ => 0) (0 : Int32).toNatClampNeg (-1))))) A) (by decide) (Nat.le_of_ble_eq_true rfl) rfl ?_
  intro p e s m args below meth c ls A H S hr hlocks hnm hl hK hP hD hS hA hB
  have hx := S.1
  have hb := S.2.1
  refine lv_aload_n hx hb dX8_fault_0 rfl (lv_at hl 0 rfl) ?_
  refine aVv (As := []) (ci := 8) S (c_X8_refresh_1 l D cI cZ cJ o u ra ga H.size) mi_X8_refresh kw_3_71 rfl rfl ⟨Nat.le_of_ble_eq_true rfl, Nat.le_of_ble_eq_true rfl⟩ hP hD hK hS hA hB (k := 0) rfl rfl rfl hl.1 (Nat.le_of_ble_eq_true rfl) ⟨Nat.le_of_ble_eq_true rfl, Nat.le_of_ble_eq_true rfl⟩ dX8_fault_1 (fun H locs hz hP hD hS => ?_)
  refine lv_iload_n hx hb dX8_fault_4 rfl (lv_at hl 1 rfl) ?_
  refine lv_if_lt (tgt := 23) hx hb dX8_fault_5 (by decide) (fun c => absurd c (by decide)) (fun _ => ?_)
  refine lv_iload_n hx hb dX8_fault_8 rfl (lv_at hl 1 rfl) ?_
  refine lv_aload_n hx hb dX8_fault_9 rfl (lv_at hl 0 rfl) ?_
  refine xg (ci := 8) S inX8 rfl hK hP (q0 := 0) rfl 3 (by decide) rfl kw_3_23 rfl dX8_fault_10 ?_
  refine xg (ci := 2) S inX2 rfl hK hP (q0 := 34) rfl 3 (by decide) rfl kw_2_14 rfl dX8_fault_13 ?_
  refine lv_icmp_ge (tgt := 23) hx hb dX8_fault_16 (by decide) (fun c => absurd c (by decide)) (fun _ => ?_)
  refine lv_iconst (v := 1) hx hb dX8_fault_19 (by decide) ?_
  refine lv_goto (tgt := 24) hx hb dX8_fault_20 (by decide) ?_
  refine aSv (As := [.int 1]) S (c_X8_needPlace_1 l D cI cZ cJ o u ra ga H.size) ms_X8_needPlace kw_4_210 rfl rfl ⟨Nat.le_of_ble_eq_true rfl, Nat.le_of_ble_eq_true rfl⟩ hP hD hK hS hA hB hl.1 (Nat.le_of_ble_eq_true rfl) ⟨Nat.le_of_ble_eq_true rfl, Nat.le_of_ble_eq_true rfl⟩ dX8_fault_24 (fun H locs hz hP hD hS => ?_)
  refine lv_iload_n hx hb dX8_fault_27 rfl (lv_at hl 2 rfl) ?_
  refine lv_if_lt (tgt := 40) hx hb dX8_fault_28 (by decide) (fun c => absurd c (by decide)) (fun _ => ?_)
  refine lv_iload_n hx hb dX8_fault_31 rfl (lv_at hl 2 rfl) ?_
  refine lv_iconst (v := 2) hx hb dX8_fault_32 (by decide) ?_
  refine lv_icmp_gt (tgt := 40) hx hb dX8_fault_33 (by decide) (fun c => absurd c (by decide)) (fun _ => ?_)
  refine lv_iconst (v := 1) hx hb dX8_fault_36 (by decide) ?_
  refine lv_goto (tgt := 41) hx hb dX8_fault_37 (by decide) ?_
  refine aSv (As := [.int 1]) S (c_X8_needArgument_3 l D cI cZ cJ o u ra ga H.size) ms_X8_needArgument kw_4_4 rfl rfl ⟨Nat.le_of_ble_eq_true rfl, Nat.le_of_ble_eq_true rfl⟩ hP hD hK hS hA hB hl.1 (Nat.le_of_ble_eq_true rfl) ⟨Nat.le_of_ble_eq_true rfl, Nat.le_of_ble_eq_true rfl⟩ dX8_fault_41 (fun H locs hz hP hD hS => ?_)
  refine lv_iload_n hx hb dX8_fault_44 rfl (lv_at hl 2 rfl) ?_
  refine lv_lookup (off := 27) (tgt := 72) hx hb dX8_fault_45 (by decide) (by decide) (by decide) ?_
  refine lv_aload_n hx hb dX8_fault_72 rfl (lv_at hl 0 rfl) ?_
  refine xg (ci := 8) S inX8 rfl hK hP (q0 := 0) rfl 3 (by decide) rfl kw_3_23 rfl dX8_fault_73 ?_
  refine xg (ci := 2) S inX2 rfl hK hP (q0 := 34) rfl 4 (by decide) rfl kw_2_16 rfl dX8_fault_76 ?_
  refine lv_iload_n hx hb dX8_fault_79 rfl (lv_at hl 1 rfl) ?_
  refine xiald (t0 := 0) (v := 10) S hK hP (q0 := 35) rfl rfl (vin rfl) rfl dX8_fault_80 ?_
  exact wEnd S hr hlocks hP hD hS (Nat.le_of_ble_eq_true rfl) (Nat.le_of_ble_eq_true rfl) dX8_fault_81 rfl

set_option maxHeartbeats 8000000 in
set_option maxRecDepth 100000 in
theorem c_X8_fault_12 (l : Launch) (D : va_G) (cI cZ cJ : ClassId) (o : Nat) (u : Nat → Nat) (ra ga : Nat → Nat) (sz : Nat) : Met l yX8_fault (uW yX8_fault cX8_fault 3 (some .int)) ({ frames := 1, cells := 0, slots := 0, locals := 20 }) (va_Pc [.ref o, .int 0, .int 1] (aS ra ga D (tyL cI cZ cJ) (((((((xW o u cI cZ cJ).set 0 (o, .inr (8, ((xF u).set 9 (.int 0))))).set 32 ((u 31), .inl (cZ, 10, .inl (upd (upd (upd (upd (upd (upd (upd (upd (upd (upd (fun _ => 0) (0 : Int32).toNatClampNeg 0) (1 : Int32).toNatClampNeg 0) (2 : Int32).toNatClampNeg 0) (3 : Int32).toNatClampNeg 0) (4 : Int32).toNatClampNeg 0) (5 : Int32).toNatClampNeg 0) (6 : Int32).toNatClampNeg 0) (7 : Int32).toNatClampNeg 0) (8 : Int32).toNatClampNeg 0) (9 : Int32).toNatClampNeg 0)))).set 34 ((u 33), .inr (2, ([.ref (u 0), .ref (u 12), .ref (u 19), .int 0, .ref (u 34), .ref (u 35), .ref (u 36), .ref (u 37), .int 0].set 3 (.int 1))))).set 35 ((u 34), .inl (cI, 120, .inl (upd (fun _ => 0) (0 : Int32).toNatClampNeg 10)))).set 36 ((u 35), .inl (cI, 120, .inl (upd (fun _ => 0) (0 : Int32).toNatClampNeg 0)))).set 37 ((u 36), .inl (cI, 120, .inl (upd (fun _ => 0) (0 : Int32).toNatClampNeg (-1))))) sz)) (wQi (0) D (((((((xW o u cI cZ cJ).set 0 (o, .inr (8, ((xF u).set 9 (.int 0))))).set 32 ((u 31), .inl (cZ, 10, .inl (upd (upd (upd (upd (upd (upd (upd (upd (upd (upd (fun _ => 0) (0 : Int32).toNatClampNeg 0) (1 : Int32).toNatClampNeg 0) (2 : Int32).toNatClampNeg 0) (3 : Int32).toNatClampNeg 0) (4 : Int32).toNatClampNeg 0) (5 : Int32).toNatClampNeg 0) (6 : Int32).toNatClampNeg 0) (7 : Int32).toNatClampNeg 0) (8 : Int32).toNatClampNeg 0) (9 : Int32).toNatClampNeg 0)))).set 34 ((u 33), .inr (2, ([.ref (u 0), .ref (u 12), .ref (u 19), .int 0, .ref (u 34), .ref (u 35), .ref (u 36), .ref (u 37), .int 0].set 3 (.int 1))))).set 35 ((u 34), .inl (cI, 120, .inl (upd (fun _ => 0) (0 : Int32).toNatClampNeg 10)))).set 36 ((u 35), .inl (cI, 120, .inl (upd (fun _ => 0) (0 : Int32).toNatClampNeg 0)))).set 37 ((u 36), .inl (cI, 120, .inl (upd (fun _ => 0) (0 : Int32).toNatClampNeg (-1))))) (va_A (((((((xW o u cI cZ cJ).set 0 (o, .inr (8, ((xF u).set 9 (.int 0))))).set 32 ((u 31), .inl (cZ, 10, .inl (upd (upd (upd (upd (upd (upd (upd (upd (upd (upd (fun _ => 0) (0 : Int32).toNatClampNeg 0) (1 : Int32).toNatClampNeg 0) (2 : Int32).toNatClampNeg 0) (3 : Int32).toNatClampNeg 0) (4 : Int32).toNatClampNeg 0) (5 : Int32).toNatClampNeg 0) (6 : Int32).toNatClampNeg 0) (7 : Int32).toNatClampNeg 0) (8 : Int32).toNatClampNeg 0) (9 : Int32).toNatClampNeg 0)))).set 34 ((u 33), .inr (2, ([.ref (u 0), .ref (u 12), .ref (u 19), .int 0, .ref (u 34), .ref (u 35), .ref (u 36), .ref (u 37), .int 0].set 3 (.int 1))))).set 35 ((u 34), .inl (cI, 120, .inl (upd (fun _ => 0) (0 : Int32).toNatClampNeg 10)))).set 36 ((u 35), .inl (cI, 120, .inl (upd (fun _ => 0) (0 : Int32).toNatClampNeg 0)))).set 37 ((u 36), .inl (cI, 120, .inl (upd (fun _ => 0) (0 : Int32).toNatClampNeg (-1))))) sz)) 0 0 (va_A (((((((xW o u cI cZ cJ).set 0 (o, .inr (8, ((xF u).set 9 (.int 0))))).set 32 ((u 31), .inl (cZ, 10, .inl (upd (upd (upd (upd (upd (upd (upd (upd (upd (upd (fun _ => 0) (0 : Int32).toNatClampNeg 0) (1 : Int32).toNatClampNeg 0) (2 : Int32).toNatClampNeg 0) (3 : Int32).toNatClampNeg 0) (4 : Int32).toNatClampNeg 0) (5 : Int32).toNatClampNeg 0) (6 : Int32).toNatClampNeg 0) (7 : Int32).toNatClampNeg 0) (8 : Int32).toNatClampNeg 0) (9 : Int32).toNatClampNeg 0)))).set 34 ((u 33), .inr (2, ([.ref (u 0), .ref (u 12), .ref (u 19), .int 0, .ref (u 34), .ref (u 35), .ref (u 36), .ref (u 37), .int 0].set 3 (.int 1))))).set 35 ((u 34), .inl (cI, 120, .inl (upd (fun _ => 0) (0 : Int32).toNatClampNeg 10)))).set 36 ((u 35), .inl (cI, 120, .inl (upd (fun _ => 0) (0 : Int32).toNatClampNeg 0)))).set 37 ((u 36), .inl (cI, 120, .inl (upd (fun _ => 0) (0 : Int32).toNatClampNeg (-1))))) sz) := by
  refine aStart (lv := [(0, .ref o), (1, .int 0), (2, .int 1)]) (Qc := fun A => wQi (0) D (((((((xW o u cI cZ cJ).set 0 (o, .inr (8, ((xF u).set 9 (.int 0))))).set 32 ((u 31), .inl (cZ, 10, .inl (upd (upd (upd (upd (upd (upd (upd (upd (upd (upd (fun _ => 0) (0 : Int32).toNatClampNeg 0) (1 : Int32).toNatClampNeg 0) (2 : Int32).toNatClampNeg 0) (3 : Int32).toNatClampNeg 0) (4 : Int32).toNatClampNeg 0) (5 : Int32).toNatClampNeg 0) (6 : Int32).toNatClampNeg 0) (7 : Int32).toNatClampNeg 0) (8 : Int32).toNatClampNeg 0) (9 : Int32).toNatClampNeg 0)))).set 34 ((u 33), .inr (2, ([.ref (u 0), .ref (u 12), .ref (u 19), .int 0, .ref (u 34), .ref (u 35), .ref (u 36), .ref (u 37), .int 0].set 3 (.int 1))))).set 35 ((u 34), .inl (cI, 120, .inl (upd (fun _ => 0) (0 : Int32).toNatClampNeg 10)))).set 36 ((u 35), .inl (cI, 120, .inl (upd (fun _ => 0) (0 : Int32).toNatClampNeg 0)))).set 37 ((u 36), .inl (cI, 120, .inl (upd (fun _ => 0) (0 : Int32).toNatClampNeg (-1))))) A) (by decide) (Nat.le_of_ble_eq_true rfl) rfl ?_
  intro p e s m args below meth c ls A H S hr hlocks hnm hl hK hP hD hS hA hB
  have hx := S.1
  have hb := S.2.1
  refine lv_aload_n hx hb dX8_fault_0 rfl (lv_at hl 0 rfl) ?_
  refine aVv (As := []) (ci := 8) S (c_X8_refresh_1 l D cI cZ cJ o u ra ga H.size) mi_X8_refresh kw_3_71 rfl rfl ⟨Nat.le_of_ble_eq_true rfl, Nat.le_of_ble_eq_true rfl⟩ hP hD hK hS hA hB (k := 0) rfl rfl rfl hl.1 (Nat.le_of_ble_eq_true rfl) ⟨Nat.le_of_ble_eq_true rfl, Nat.le_of_ble_eq_true rfl⟩ dX8_fault_1 (fun H locs hz hP hD hS => ?_)
  refine lv_iload_n hx hb dX8_fault_4 rfl (lv_at hl 1 rfl) ?_
  refine lv_if_lt (tgt := 23) hx hb dX8_fault_5 (by decide) (fun c => absurd c (by decide)) (fun _ => ?_)
  refine lv_iload_n hx hb dX8_fault_8 rfl (lv_at hl 1 rfl) ?_
  refine lv_aload_n hx hb dX8_fault_9 rfl (lv_at hl 0 rfl) ?_
  refine xg (ci := 8) S inX8 rfl hK hP (q0 := 0) rfl 3 (by decide) rfl kw_3_23 rfl dX8_fault_10 ?_
  refine xg (ci := 2) S inX2 rfl hK hP (q0 := 34) rfl 3 (by decide) rfl kw_2_14 rfl dX8_fault_13 ?_
  refine lv_icmp_ge (tgt := 23) hx hb dX8_fault_16 (by decide) (fun c => absurd c (by decide)) (fun _ => ?_)
  refine lv_iconst (v := 1) hx hb dX8_fault_19 (by decide) ?_
  refine lv_goto (tgt := 24) hx hb dX8_fault_20 (by decide) ?_
  refine aSv (As := [.int 1]) S (c_X8_needPlace_1 l D cI cZ cJ o u ra ga H.size) ms_X8_needPlace kw_4_210 rfl rfl ⟨Nat.le_of_ble_eq_true rfl, Nat.le_of_ble_eq_true rfl⟩ hP hD hK hS hA hB hl.1 (Nat.le_of_ble_eq_true rfl) ⟨Nat.le_of_ble_eq_true rfl, Nat.le_of_ble_eq_true rfl⟩ dX8_fault_24 (fun H locs hz hP hD hS => ?_)
  refine lv_iload_n hx hb dX8_fault_27 rfl (lv_at hl 2 rfl) ?_
  refine lv_if_lt (tgt := 40) hx hb dX8_fault_28 (by decide) (fun c => absurd c (by decide)) (fun _ => ?_)
  refine lv_iload_n hx hb dX8_fault_31 rfl (lv_at hl 2 rfl) ?_
  refine lv_iconst (v := 2) hx hb dX8_fault_32 (by decide) ?_
  refine lv_icmp_gt (tgt := 40) hx hb dX8_fault_33 (by decide) (fun c => absurd c (by decide)) (fun _ => ?_)
  refine lv_iconst (v := 1) hx hb dX8_fault_36 (by decide) ?_
  refine lv_goto (tgt := 41) hx hb dX8_fault_37 (by decide) ?_
  refine aSv (As := [.int 1]) S (c_X8_needArgument_3 l D cI cZ cJ o u ra ga H.size) ms_X8_needArgument kw_4_4 rfl rfl ⟨Nat.le_of_ble_eq_true rfl, Nat.le_of_ble_eq_true rfl⟩ hP hD hK hS hA hB hl.1 (Nat.le_of_ble_eq_true rfl) ⟨Nat.le_of_ble_eq_true rfl, Nat.le_of_ble_eq_true rfl⟩ dX8_fault_41 (fun H locs hz hP hD hS => ?_)
  refine lv_iload_n hx hb dX8_fault_44 rfl (lv_at hl 2 rfl) ?_
  refine lv_lookup (off := 37) (tgt := 82) hx hb dX8_fault_45 (by decide) (by decide) (by decide) ?_
  refine lv_aload_n hx hb dX8_fault_82 rfl (lv_at hl 0 rfl) ?_
  refine xg (ci := 8) S inX8 rfl hK hP (q0 := 0) rfl 3 (by decide) rfl kw_3_23 rfl dX8_fault_83 ?_
  refine xg (ci := 2) S inX2 rfl hK hP (q0 := 34) rfl 5 (by decide) rfl kw_2_18 rfl dX8_fault_86 ?_
  refine lv_iload_n hx hb dX8_fault_89 rfl (lv_at hl 1 rfl) ?_
  refine xiald (t0 := 0) (v := 0) S hK hP (q0 := 36) rfl rfl (vin rfl) rfl dX8_fault_90 ?_
  exact wEnd S hr hlocks hP hD hS (Nat.le_of_ble_eq_true rfl) (Nat.le_of_ble_eq_true rfl) dX8_fault_91 rfl

set_option maxHeartbeats 8000000 in
set_option maxRecDepth 100000 in
theorem c_X8_fault_13 (l : Launch) (D : va_G) (cI cZ cJ : ClassId) (o : Nat) (u : Nat → Nat) (ra ga : Nat → Nat) (sz : Nat) : Met l yX8_fault (uW yX8_fault cX8_fault 3 (some .int)) ({ frames := 1, cells := 0, slots := 0, locals := 20 }) (va_Pc [.ref o, .int 0, .int 2] (aS ra ga D (tyL cI cZ cJ) (((((((xW o u cI cZ cJ).set 0 (o, .inr (8, ((xF u).set 9 (.int 0))))).set 32 ((u 31), .inl (cZ, 10, .inl (upd (upd (upd (upd (upd (upd (upd (upd (upd (upd (fun _ => 0) (0 : Int32).toNatClampNeg 0) (1 : Int32).toNatClampNeg 0) (2 : Int32).toNatClampNeg 0) (3 : Int32).toNatClampNeg 0) (4 : Int32).toNatClampNeg 0) (5 : Int32).toNatClampNeg 0) (6 : Int32).toNatClampNeg 0) (7 : Int32).toNatClampNeg 0) (8 : Int32).toNatClampNeg 0) (9 : Int32).toNatClampNeg 0)))).set 34 ((u 33), .inr (2, ([.ref (u 0), .ref (u 12), .ref (u 19), .int 0, .ref (u 34), .ref (u 35), .ref (u 36), .ref (u 37), .int 0].set 3 (.int 1))))).set 35 ((u 34), .inl (cI, 120, .inl (upd (fun _ => 0) (0 : Int32).toNatClampNeg 10)))).set 36 ((u 35), .inl (cI, 120, .inl (upd (fun _ => 0) (0 : Int32).toNatClampNeg 0)))).set 37 ((u 36), .inl (cI, 120, .inl (upd (fun _ => 0) (0 : Int32).toNatClampNeg (-1))))) sz)) (wQi ((-1)) D (((((((xW o u cI cZ cJ).set 0 (o, .inr (8, ((xF u).set 9 (.int 0))))).set 32 ((u 31), .inl (cZ, 10, .inl (upd (upd (upd (upd (upd (upd (upd (upd (upd (upd (fun _ => 0) (0 : Int32).toNatClampNeg 0) (1 : Int32).toNatClampNeg 0) (2 : Int32).toNatClampNeg 0) (3 : Int32).toNatClampNeg 0) (4 : Int32).toNatClampNeg 0) (5 : Int32).toNatClampNeg 0) (6 : Int32).toNatClampNeg 0) (7 : Int32).toNatClampNeg 0) (8 : Int32).toNatClampNeg 0) (9 : Int32).toNatClampNeg 0)))).set 34 ((u 33), .inr (2, ([.ref (u 0), .ref (u 12), .ref (u 19), .int 0, .ref (u 34), .ref (u 35), .ref (u 36), .ref (u 37), .int 0].set 3 (.int 1))))).set 35 ((u 34), .inl (cI, 120, .inl (upd (fun _ => 0) (0 : Int32).toNatClampNeg 10)))).set 36 ((u 35), .inl (cI, 120, .inl (upd (fun _ => 0) (0 : Int32).toNatClampNeg 0)))).set 37 ((u 36), .inl (cI, 120, .inl (upd (fun _ => 0) (0 : Int32).toNatClampNeg (-1))))) (va_A (((((((xW o u cI cZ cJ).set 0 (o, .inr (8, ((xF u).set 9 (.int 0))))).set 32 ((u 31), .inl (cZ, 10, .inl (upd (upd (upd (upd (upd (upd (upd (upd (upd (upd (fun _ => 0) (0 : Int32).toNatClampNeg 0) (1 : Int32).toNatClampNeg 0) (2 : Int32).toNatClampNeg 0) (3 : Int32).toNatClampNeg 0) (4 : Int32).toNatClampNeg 0) (5 : Int32).toNatClampNeg 0) (6 : Int32).toNatClampNeg 0) (7 : Int32).toNatClampNeg 0) (8 : Int32).toNatClampNeg 0) (9 : Int32).toNatClampNeg 0)))).set 34 ((u 33), .inr (2, ([.ref (u 0), .ref (u 12), .ref (u 19), .int 0, .ref (u 34), .ref (u 35), .ref (u 36), .ref (u 37), .int 0].set 3 (.int 1))))).set 35 ((u 34), .inl (cI, 120, .inl (upd (fun _ => 0) (0 : Int32).toNatClampNeg 10)))).set 36 ((u 35), .inl (cI, 120, .inl (upd (fun _ => 0) (0 : Int32).toNatClampNeg 0)))).set 37 ((u 36), .inl (cI, 120, .inl (upd (fun _ => 0) (0 : Int32).toNatClampNeg (-1))))) sz)) 0 0 (va_A (((((((xW o u cI cZ cJ).set 0 (o, .inr (8, ((xF u).set 9 (.int 0))))).set 32 ((u 31), .inl (cZ, 10, .inl (upd (upd (upd (upd (upd (upd (upd (upd (upd (upd (fun _ => 0) (0 : Int32).toNatClampNeg 0) (1 : Int32).toNatClampNeg 0) (2 : Int32).toNatClampNeg 0) (3 : Int32).toNatClampNeg 0) (4 : Int32).toNatClampNeg 0) (5 : Int32).toNatClampNeg 0) (6 : Int32).toNatClampNeg 0) (7 : Int32).toNatClampNeg 0) (8 : Int32).toNatClampNeg 0) (9 : Int32).toNatClampNeg 0)))).set 34 ((u 33), .inr (2, ([.ref (u 0), .ref (u 12), .ref (u 19), .int 0, .ref (u 34), .ref (u 35), .ref (u 36), .ref (u 37), .int 0].set 3 (.int 1))))).set 35 ((u 34), .inl (cI, 120, .inl (upd (fun _ => 0) (0 : Int32).toNatClampNeg 10)))).set 36 ((u 35), .inl (cI, 120, .inl (upd (fun _ => 0) (0 : Int32).toNatClampNeg 0)))).set 37 ((u 36), .inl (cI, 120, .inl (upd (fun _ => 0) (0 : Int32).toNatClampNeg (-1))))) sz) := by
  refine aStart (lv := [(0, .ref o), (1, .int 0), (2, .int 2)]) (Qc := fun A => wQi ((-1)) D (((((((xW o u cI cZ cJ).set 0 (o, .inr (8, ((xF u).set 9 (.int 0))))).set 32 ((u 31), .inl (cZ, 10, .inl (upd (upd (upd (upd (upd (upd (upd (upd (upd (upd (fun _ => 0) (0 : Int32).toNatClampNeg 0) (1 : Int32).toNatClampNeg 0) (2 : Int32).toNatClampNeg 0) (3 : Int32).toNatClampNeg 0) (4 : Int32).toNatClampNeg 0) (5 : Int32).toNatClampNeg 0) (6 : Int32).toNatClampNeg 0) (7 : Int32).toNatClampNeg 0) (8 : Int32).toNatClampNeg 0) (9 : Int32).toNatClampNeg 0)))).set 34 ((u 33), .inr (2, ([.ref (u 0), .ref (u 12), .ref (u 19), .int 0, .ref (u 34), .ref (u 35), .ref (u 36), .ref (u 37), .int 0].set 3 (.int 1))))).set 35 ((u 34), .inl (cI, 120, .inl (upd (fun _ => 0) (0 : Int32).toNatClampNeg 10)))).set 36 ((u 35), .inl (cI, 120, .inl (upd (fun _ => 0) (0 : Int32).toNatClampNeg 0)))).set 37 ((u 36), .inl (cI, 120, .inl (upd (fun _ => 0) (0 : Int32).toNatClampNeg (-1))))) A) (by decide) (Nat.le_of_ble_eq_true rfl) rfl ?_
  intro p e s m args below meth c ls A H S hr hlocks hnm hl hK hP hD hS hA hB
  have hx := S.1
  have hb := S.2.1
  refine lv_aload_n hx hb dX8_fault_0 rfl (lv_at hl 0 rfl) ?_
  refine aVv (As := []) (ci := 8) S (c_X8_refresh_1 l D cI cZ cJ o u ra ga H.size) mi_X8_refresh kw_3_71 rfl rfl ⟨Nat.le_of_ble_eq_true rfl, Nat.le_of_ble_eq_true rfl⟩ hP hD hK hS hA hB (k := 0) rfl rfl rfl hl.1 (Nat.le_of_ble_eq_true rfl) ⟨Nat.le_of_ble_eq_true rfl, Nat.le_of_ble_eq_true rfl⟩ dX8_fault_1 (fun H locs hz hP hD hS => ?_)
  refine lv_iload_n hx hb dX8_fault_4 rfl (lv_at hl 1 rfl) ?_
  refine lv_if_lt (tgt := 23) hx hb dX8_fault_5 (by decide) (fun c => absurd c (by decide)) (fun _ => ?_)
  refine lv_iload_n hx hb dX8_fault_8 rfl (lv_at hl 1 rfl) ?_
  refine lv_aload_n hx hb dX8_fault_9 rfl (lv_at hl 0 rfl) ?_
  refine xg (ci := 8) S inX8 rfl hK hP (q0 := 0) rfl 3 (by decide) rfl kw_3_23 rfl dX8_fault_10 ?_
  refine xg (ci := 2) S inX2 rfl hK hP (q0 := 34) rfl 3 (by decide) rfl kw_2_14 rfl dX8_fault_13 ?_
  refine lv_icmp_ge (tgt := 23) hx hb dX8_fault_16 (by decide) (fun c => absurd c (by decide)) (fun _ => ?_)
  refine lv_iconst (v := 1) hx hb dX8_fault_19 (by decide) ?_
  refine lv_goto (tgt := 24) hx hb dX8_fault_20 (by decide) ?_
  refine aSv (As := [.int 1]) S (c_X8_needPlace_1 l D cI cZ cJ o u ra ga H.size) ms_X8_needPlace kw_4_210 rfl rfl ⟨Nat.le_of_ble_eq_true rfl, Nat.le_of_ble_eq_true rfl⟩ hP hD hK hS hA hB hl.1 (Nat.le_of_ble_eq_true rfl) ⟨Nat.le_of_ble_eq_true rfl, Nat.le_of_ble_eq_true rfl⟩ dX8_fault_24 (fun H locs hz hP hD hS => ?_)
  refine lv_iload_n hx hb dX8_fault_27 rfl (lv_at hl 2 rfl) ?_
  refine lv_if_lt (tgt := 40) hx hb dX8_fault_28 (by decide) (fun c => absurd c (by decide)) (fun _ => ?_)
  refine lv_iload_n hx hb dX8_fault_31 rfl (lv_at hl 2 rfl) ?_
  refine lv_iconst (v := 2) hx hb dX8_fault_32 (by decide) ?_
  refine lv_icmp_gt (tgt := 40) hx hb dX8_fault_33 (by decide) (fun c => absurd c (by decide)) (fun _ => ?_)
  refine lv_iconst (v := 1) hx hb dX8_fault_36 (by decide) ?_
  refine lv_goto (tgt := 41) hx hb dX8_fault_37 (by decide) ?_
  refine aSv (As := [.int 1]) S (c_X8_needArgument_3 l D cI cZ cJ o u ra ga H.size) ms_X8_needArgument kw_4_4 rfl rfl ⟨Nat.le_of_ble_eq_true rfl, Nat.le_of_ble_eq_true rfl⟩ hP hD hK hS hA hB hl.1 (Nat.le_of_ble_eq_true rfl) ⟨Nat.le_of_ble_eq_true rfl, Nat.le_of_ble_eq_true rfl⟩ dX8_fault_41 (fun H locs hz hP hD hS => ?_)
  refine lv_iload_n hx hb dX8_fault_44 rfl (lv_at hl 2 rfl) ?_
  refine lv_lookup (off := 47) (tgt := 92) hx hb dX8_fault_45 (by decide) (by decide) (by decide) ?_
  refine lv_aload_n hx hb dX8_fault_92 rfl (lv_at hl 0 rfl) ?_
  refine xg (ci := 8) S inX8 rfl hK hP (q0 := 0) rfl 3 (by decide) rfl kw_3_23 rfl dX8_fault_93 ?_
  refine xg (ci := 2) S inX2 rfl hK hP (q0 := 34) rfl 6 (by decide) rfl kw_2_20 rfl dX8_fault_96 ?_
  refine lv_iload_n hx hb dX8_fault_99 rfl (lv_at hl 1 rfl) ?_
  refine xiald (t0 := 0) (v := (-1)) S hK hP (q0 := 37) rfl rfl (vin rfl) rfl dX8_fault_100 ?_
  exact wEnd S hr hlocks hP hD hS (Nat.le_of_ble_eq_true rfl) (Nat.le_of_ble_eq_true rfl) dX8_fault_101 rfl

set_option maxHeartbeats 8000000 in
set_option maxRecDepth 100000 in
theorem c_X6_answer_10 (l : Launch) (D : va_G) (cI cZ cJ : ClassId) (o : Nat) (u : Nat → Nat) : Met l yX6_answer (uW yX6_answer cX6_answer 2 (some .int)) ({ frames := 0, cells := 0, slots := 0, locals := 0 }) (va_Pc [.ref (u 79), .int 0] (pS D (tyL cI cZ cJ) (((((((xW o u cI cZ cJ).set 0 (o, .inr (8, ((xF u).set 9 (.int 0))))).set 32 ((u 31), .inl (cZ, 10, .inl (upd (upd (upd (upd (upd (upd (upd (upd (upd (upd (fun _ => 0) (0 : Int32).toNatClampNeg 0) (1 : Int32).toNatClampNeg 0) (2 : Int32).toNatClampNeg 0) (3 : Int32).toNatClampNeg 0) (4 : Int32).toNatClampNeg 0) (5 : Int32).toNatClampNeg 0) (6 : Int32).toNatClampNeg 0) (7 : Int32).toNatClampNeg 0) (8 : Int32).toNatClampNeg 0) (9 : Int32).toNatClampNeg 0)))).set 34 ((u 33), .inr (2, ([.ref (u 0), .ref (u 12), .ref (u 19), .int 0, .ref (u 34), .ref (u 35), .ref (u 36), .ref (u 37), .int 0].set 3 (.int 1))))).set 35 ((u 34), .inl (cI, 120, .inl (upd (fun _ => 0) (0 : Int32).toNatClampNeg 10)))).set 36 ((u 35), .inl (cI, 120, .inl (upd (fun _ => 0) (0 : Int32).toNatClampNeg 0)))).set 37 ((u 36), .inl (cI, 120, .inl (upd (fun _ => 0) (0 : Int32).toNatClampNeg (-1))))))) (QcRead (0)) 0 0 (fun _ => False) := by
  refine rdStart (lv := [(0, .ref (u 79)), (1, .int 0)]) (by decide) (Nat.le_of_ble_eq_true rfl) rfl ?_
  intro p e s m args below meth c ls S hr hlocks hl hP hK
  have hx := S.1
  have hb := S.2.1
  refine lv_iload_n hx hb dX6_answer_0 rfl (lv_at hl 1 rfl) ?_
  refine lv_tableIn (off := 51) (tgt := 52) hx hb dX6_answer_1 (by decide) (by decide) (by decide) (by decide) ?_
  refine lv_aload_n hx hb dX6_answer_52 rfl (lv_at hl 0 rfl) ?_
  refine xg (ci := 6) S inX6 rfl hK hP (q0 := 80) rfl 0 (by decide) rfl kw_2_146 rfl dX6_answer_53 ?_
  exact rdEnd S hr hlocks dX6_answer_56 rfl

set_option maxHeartbeats 8000000 in
set_option maxRecDepth 100000 in
theorem c_X8_ofRun_3 (l : Launch) (D : va_G) (cI cZ cJ : ClassId) (o : Nat) (u : Nat → Nat) (ra ga : Nat → Nat) (sz : Nat) : Met l yX8_ofRun (uW yX8_ofRun cX8_ofRun 2 (some .int)) ({ frames := 1, cells := 0, slots := 0, locals := 21 }) (va_Pc [.ref o, .int 0] (aS ra ga D (tyL cI cZ cJ) (((((((xW o u cI cZ cJ).set 0 (o, .inr (8, ((xF u).set 9 (.int 0))))).set 32 ((u 31), .inl (cZ, 10, .inl (upd (upd (upd (upd (upd (upd (upd (upd (upd (upd (fun _ => 0) (0 : Int32).toNatClampNeg 0) (1 : Int32).toNatClampNeg 0) (2 : Int32).toNatClampNeg 0) (3 : Int32).toNatClampNeg 0) (4 : Int32).toNatClampNeg 0) (5 : Int32).toNatClampNeg 0) (6 : Int32).toNatClampNeg 0) (7 : Int32).toNatClampNeg 0) (8 : Int32).toNatClampNeg 0) (9 : Int32).toNatClampNeg 0)))).set 34 ((u 33), .inr (2, ([.ref (u 0), .ref (u 12), .ref (u 19), .int 0, .ref (u 34), .ref (u 35), .ref (u 36), .ref (u 37), .int 0].set 3 (.int 1))))).set 35 ((u 34), .inl (cI, 120, .inl (upd (fun _ => 0) (0 : Int32).toNatClampNeg 10)))).set 36 ((u 35), .inl (cI, 120, .inl (upd (fun _ => 0) (0 : Int32).toNatClampNeg 0)))).set 37 ((u 36), .inl (cI, 120, .inl (upd (fun _ => 0) (0 : Int32).toNatClampNeg (-1))))) sz)) (wQi (0) D (((((((xW o u cI cZ cJ).set 0 (o, .inr (8, ((xF u).set 9 (.int 0))))).set 32 ((u 31), .inl (cZ, 10, .inl (upd (upd (upd (upd (upd (upd (upd (upd (upd (upd (fun _ => 0) (0 : Int32).toNatClampNeg 0) (1 : Int32).toNatClampNeg 0) (2 : Int32).toNatClampNeg 0) (3 : Int32).toNatClampNeg 0) (4 : Int32).toNatClampNeg 0) (5 : Int32).toNatClampNeg 0) (6 : Int32).toNatClampNeg 0) (7 : Int32).toNatClampNeg 0) (8 : Int32).toNatClampNeg 0) (9 : Int32).toNatClampNeg 0)))).set 34 ((u 33), .inr (2, ([.ref (u 0), .ref (u 12), .ref (u 19), .int 0, .ref (u 34), .ref (u 35), .ref (u 36), .ref (u 37), .int 0].set 3 (.int 1))))).set 35 ((u 34), .inl (cI, 120, .inl (upd (fun _ => 0) (0 : Int32).toNatClampNeg 10)))).set 36 ((u 35), .inl (cI, 120, .inl (upd (fun _ => 0) (0 : Int32).toNatClampNeg 0)))).set 37 ((u 36), .inl (cI, 120, .inl (upd (fun _ => 0) (0 : Int32).toNatClampNeg (-1))))) (va_A (((((((xW o u cI cZ cJ).set 0 (o, .inr (8, ((xF u).set 9 (.int 0))))).set 32 ((u 31), .inl (cZ, 10, .inl (upd (upd (upd (upd (upd (upd (upd (upd (upd (upd (fun _ => 0) (0 : Int32).toNatClampNeg 0) (1 : Int32).toNatClampNeg 0) (2 : Int32).toNatClampNeg 0) (3 : Int32).toNatClampNeg 0) (4 : Int32).toNatClampNeg 0) (5 : Int32).toNatClampNeg 0) (6 : Int32).toNatClampNeg 0) (7 : Int32).toNatClampNeg 0) (8 : Int32).toNatClampNeg 0) (9 : Int32).toNatClampNeg 0)))).set 34 ((u 33), .inr (2, ([.ref (u 0), .ref (u 12), .ref (u 19), .int 0, .ref (u 34), .ref (u 35), .ref (u 36), .ref (u 37), .int 0].set 3 (.int 1))))).set 35 ((u 34), .inl (cI, 120, .inl (upd (fun _ => 0) (0 : Int32).toNatClampNeg 10)))).set 36 ((u 35), .inl (cI, 120, .inl (upd (fun _ => 0) (0 : Int32).toNatClampNeg 0)))).set 37 ((u 36), .inl (cI, 120, .inl (upd (fun _ => 0) (0 : Int32).toNatClampNeg (-1))))) sz)) 0 0 (va_A (((((((xW o u cI cZ cJ).set 0 (o, .inr (8, ((xF u).set 9 (.int 0))))).set 32 ((u 31), .inl (cZ, 10, .inl (upd (upd (upd (upd (upd (upd (upd (upd (upd (upd (fun _ => 0) (0 : Int32).toNatClampNeg 0) (1 : Int32).toNatClampNeg 0) (2 : Int32).toNatClampNeg 0) (3 : Int32).toNatClampNeg 0) (4 : Int32).toNatClampNeg 0) (5 : Int32).toNatClampNeg 0) (6 : Int32).toNatClampNeg 0) (7 : Int32).toNatClampNeg 0) (8 : Int32).toNatClampNeg 0) (9 : Int32).toNatClampNeg 0)))).set 34 ((u 33), .inr (2, ([.ref (u 0), .ref (u 12), .ref (u 19), .int 0, .ref (u 34), .ref (u 35), .ref (u 36), .ref (u 37), .int 0].set 3 (.int 1))))).set 35 ((u 34), .inl (cI, 120, .inl (upd (fun _ => 0) (0 : Int32).toNatClampNeg 10)))).set 36 ((u 35), .inl (cI, 120, .inl (upd (fun _ => 0) (0 : Int32).toNatClampNeg 0)))).set 37 ((u 36), .inl (cI, 120, .inl (upd (fun _ => 0) (0 : Int32).toNatClampNeg (-1))))) sz) := by
  refine aStart (lv := [(0, .ref o), (1, .int 0)]) (Qc := fun A => wQi (0) D (((((((xW o u cI cZ cJ).set 0 (o, .inr (8, ((xF u).set 9 (.int 0))))).set 32 ((u 31), .inl (cZ, 10, .inl (upd (upd (upd (upd (upd (upd (upd (upd (upd (upd (fun _ => 0) (0 : Int32).toNatClampNeg 0) (1 : Int32).toNatClampNeg 0) (2 : Int32).toNatClampNeg 0) (3 : Int32).toNatClampNeg 0) (4 : Int32).toNatClampNeg 0) (5 : Int32).toNatClampNeg 0) (6 : Int32).toNatClampNeg 0) (7 : Int32).toNatClampNeg 0) (8 : Int32).toNatClampNeg 0) (9 : Int32).toNatClampNeg 0)))).set 34 ((u 33), .inr (2, ([.ref (u 0), .ref (u 12), .ref (u 19), .int 0, .ref (u 34), .ref (u 35), .ref (u 36), .ref (u 37), .int 0].set 3 (.int 1))))).set 35 ((u 34), .inl (cI, 120, .inl (upd (fun _ => 0) (0 : Int32).toNatClampNeg 10)))).set 36 ((u 35), .inl (cI, 120, .inl (upd (fun _ => 0) (0 : Int32).toNatClampNeg 0)))).set 37 ((u 36), .inl (cI, 120, .inl (upd (fun _ => 0) (0 : Int32).toNatClampNeg (-1))))) A) (by decide) (Nat.le_of_ble_eq_true rfl) rfl ?_
  intro p e s m args below meth c ls A H S hr hlocks hnm hl hK hP hD hS hA hB
  have hx := S.1
  have hb := S.2.1
  refine lv_iload_n hx hb dX8_ofRun_0 rfl (lv_at hl 1 rfl) ?_
  refine lv_if_lt (tgt := 14) hx hb dX8_ofRun_1 (by decide) (fun c => absurd c (by decide)) (fun _ => ?_)
  refine lv_iload_n hx hb dX8_ofRun_4 rfl (lv_at hl 1 rfl) ?_
  refine lv_bipush (v := 10) hx hb dX8_ofRun_5 (by decide) ?_
  refine lv_icmp_gt (tgt := 14) hx hb dX8_ofRun_7 (by decide) (fun c => absurd c (by decide)) (fun _ => ?_)
  refine lv_iconst (v := 1) hx hb dX8_ofRun_10 (by decide) ?_
  refine lv_goto (tgt := 15) hx hb dX8_ofRun_11 (by decide) ?_
  refine aSv (As := [.int 1]) S (c_X8_needArgument_3 l D cI cZ cJ o u ra ga H.size) ms_X8_needArgument kw_4_4 rfl rfl ⟨Nat.le_of_ble_eq_true rfl, Nat.le_of_ble_eq_true rfl⟩ hP hD hK hS hA hB hl.1 (Nat.le_of_ble_eq_true rfl) ⟨Nat.le_of_ble_eq_true rfl, Nat.le_of_ble_eq_true rfl⟩ dX8_ofRun_15 (fun H locs hz hP hD hS => ?_)
  refine lv_iload_n hx hb dX8_ofRun_18 rfl (lv_at hl 1 rfl) ?_
  refine lv_bipush (v := 10) hx hb dX8_ofRun_19 (by decide) ?_
  refine lv_icmp_ne (tgt := 31) hx hb dX8_ofRun_21 (by decide) (fun _ => ?_) (fun c => absurd c (by decide))
  refine lv_aload_n hx hb dX8_ofRun_31 rfl (lv_at hl 0 rfl) ?_
  refine xg (ci := 8) S inX8 rfl hK hP (q0 := 0) rfl 7 (by decide) rfl kw_3_27 rfl dX8_ofRun_32 ?_
  refine lv_iload_n hx hb dX8_ofRun_35 rfl (lv_at hl 1 rfl) ?_
  refine rdV (As := [.int 0]) (ci := 6) S (c_X6_answer_10 l D cI cZ cJ o u) mi_X6_answer kw_4_235 ⟨rfl, rfl⟩ ⟨Nat.le_of_ble_eq_true rfl, Nat.le_of_ble_eq_true rfl⟩ hP hK (k := 80) rfl rfl rfl hl.1 (Nat.le_of_ble_eq_true rfl) ⟨Nat.le_of_ble_eq_true rfl, Nat.le_of_ble_eq_true rfl⟩ dX8_ofRun_36 ?_
  exact wEnd S hr hlocks hP hD hS (Nat.le_of_ble_eq_true rfl) (Nat.le_of_ble_eq_true rfl) dX8_ofRun_39 rfl

set_option maxHeartbeats 8000000 in
set_option maxRecDepth 100000 in
theorem c_X6_answer_11 (l : Launch) (D : va_G) (cI cZ cJ : ClassId) (o : Nat) (u : Nat → Nat) : Met l yX6_answer (uW yX6_answer cX6_answer 2 (some .int)) ({ frames := 0, cells := 0, slots := 0, locals := 0 }) (va_Pc [.ref (u 79), .int 1] (pS D (tyL cI cZ cJ) (((((((xW o u cI cZ cJ).set 0 (o, .inr (8, ((xF u).set 9 (.int 0))))).set 32 ((u 31), .inl (cZ, 10, .inl (upd (upd (upd (upd (upd (upd (upd (upd (upd (upd (fun _ => 0) (0 : Int32).toNatClampNeg 0) (1 : Int32).toNatClampNeg 0) (2 : Int32).toNatClampNeg 0) (3 : Int32).toNatClampNeg 0) (4 : Int32).toNatClampNeg 0) (5 : Int32).toNatClampNeg 0) (6 : Int32).toNatClampNeg 0) (7 : Int32).toNatClampNeg 0) (8 : Int32).toNatClampNeg 0) (9 : Int32).toNatClampNeg 0)))).set 34 ((u 33), .inr (2, ([.ref (u 0), .ref (u 12), .ref (u 19), .int 0, .ref (u 34), .ref (u 35), .ref (u 36), .ref (u 37), .int 0].set 3 (.int 1))))).set 35 ((u 34), .inl (cI, 120, .inl (upd (fun _ => 0) (0 : Int32).toNatClampNeg 10)))).set 36 ((u 35), .inl (cI, 120, .inl (upd (fun _ => 0) (0 : Int32).toNatClampNeg 0)))).set 37 ((u 36), .inl (cI, 120, .inl (upd (fun _ => 0) (0 : Int32).toNatClampNeg (-1))))))) (QcRead (0)) 0 0 (fun _ => False) := by
  refine rdStart (lv := [(0, .ref (u 79)), (1, .int 1)]) (by decide) (Nat.le_of_ble_eq_true rfl) rfl ?_
  intro p e s m args below meth c ls S hr hlocks hl hP hK
  have hx := S.1
  have hb := S.2.1
  refine lv_iload_n hx hb dX6_answer_0 rfl (lv_at hl 1 rfl) ?_
  refine lv_tableIn (off := 56) (tgt := 57) hx hb dX6_answer_1 (by decide) (by decide) (by decide) (by decide) ?_
  refine lv_aload_n hx hb dX6_answer_57 rfl (lv_at hl 0 rfl) ?_
  refine xg (ci := 6) S inX6 rfl hK hP (q0 := 80) rfl 1 (by decide) rfl kw_2_149 rfl dX6_answer_58 ?_
  exact rdEnd S hr hlocks dX6_answer_61 rfl

set_option maxHeartbeats 8000000 in
set_option maxRecDepth 100000 in
theorem c_X8_ofRun_4 (l : Launch) (D : va_G) (cI cZ cJ : ClassId) (o : Nat) (u : Nat → Nat) (ra ga : Nat → Nat) (sz : Nat) : Met l yX8_ofRun (uW yX8_ofRun cX8_ofRun 2 (some .int)) ({ frames := 1, cells := 0, slots := 0, locals := 21 }) (va_Pc [.ref o, .int 1] (aS ra ga D (tyL cI cZ cJ) (((((((xW o u cI cZ cJ).set 0 (o, .inr (8, ((xF u).set 9 (.int 0))))).set 32 ((u 31), .inl (cZ, 10, .inl (upd (upd (upd (upd (upd (upd (upd (upd (upd (upd (fun _ => 0) (0 : Int32).toNatClampNeg 0) (1 : Int32).toNatClampNeg 0) (2 : Int32).toNatClampNeg 0) (3 : Int32).toNatClampNeg 0) (4 : Int32).toNatClampNeg 0) (5 : Int32).toNatClampNeg 0) (6 : Int32).toNatClampNeg 0) (7 : Int32).toNatClampNeg 0) (8 : Int32).toNatClampNeg 0) (9 : Int32).toNatClampNeg 0)))).set 34 ((u 33), .inr (2, ([.ref (u 0), .ref (u 12), .ref (u 19), .int 0, .ref (u 34), .ref (u 35), .ref (u 36), .ref (u 37), .int 0].set 3 (.int 1))))).set 35 ((u 34), .inl (cI, 120, .inl (upd (fun _ => 0) (0 : Int32).toNatClampNeg 10)))).set 36 ((u 35), .inl (cI, 120, .inl (upd (fun _ => 0) (0 : Int32).toNatClampNeg 0)))).set 37 ((u 36), .inl (cI, 120, .inl (upd (fun _ => 0) (0 : Int32).toNatClampNeg (-1))))) sz)) (wQi (0) D (((((((xW o u cI cZ cJ).set 0 (o, .inr (8, ((xF u).set 9 (.int 0))))).set 32 ((u 31), .inl (cZ, 10, .inl (upd (upd (upd (upd (upd (upd (upd (upd (upd (upd (fun _ => 0) (0 : Int32).toNatClampNeg 0) (1 : Int32).toNatClampNeg 0) (2 : Int32).toNatClampNeg 0) (3 : Int32).toNatClampNeg 0) (4 : Int32).toNatClampNeg 0) (5 : Int32).toNatClampNeg 0) (6 : Int32).toNatClampNeg 0) (7 : Int32).toNatClampNeg 0) (8 : Int32).toNatClampNeg 0) (9 : Int32).toNatClampNeg 0)))).set 34 ((u 33), .inr (2, ([.ref (u 0), .ref (u 12), .ref (u 19), .int 0, .ref (u 34), .ref (u 35), .ref (u 36), .ref (u 37), .int 0].set 3 (.int 1))))).set 35 ((u 34), .inl (cI, 120, .inl (upd (fun _ => 0) (0 : Int32).toNatClampNeg 10)))).set 36 ((u 35), .inl (cI, 120, .inl (upd (fun _ => 0) (0 : Int32).toNatClampNeg 0)))).set 37 ((u 36), .inl (cI, 120, .inl (upd (fun _ => 0) (0 : Int32).toNatClampNeg (-1))))) (va_A (((((((xW o u cI cZ cJ).set 0 (o, .inr (8, ((xF u).set 9 (.int 0))))).set 32 ((u 31), .inl (cZ, 10, .inl (upd (upd (upd (upd (upd (upd (upd (upd (upd (upd (fun _ => 0) (0 : Int32).toNatClampNeg 0) (1 : Int32).toNatClampNeg 0) (2 : Int32).toNatClampNeg 0) (3 : Int32).toNatClampNeg 0) (4 : Int32).toNatClampNeg 0) (5 : Int32).toNatClampNeg 0) (6 : Int32).toNatClampNeg 0) (7 : Int32).toNatClampNeg 0) (8 : Int32).toNatClampNeg 0) (9 : Int32).toNatClampNeg 0)))).set 34 ((u 33), .inr (2, ([.ref (u 0), .ref (u 12), .ref (u 19), .int 0, .ref (u 34), .ref (u 35), .ref (u 36), .ref (u 37), .int 0].set 3 (.int 1))))).set 35 ((u 34), .inl (cI, 120, .inl (upd (fun _ => 0) (0 : Int32).toNatClampNeg 10)))).set 36 ((u 35), .inl (cI, 120, .inl (upd (fun _ => 0) (0 : Int32).toNatClampNeg 0)))).set 37 ((u 36), .inl (cI, 120, .inl (upd (fun _ => 0) (0 : Int32).toNatClampNeg (-1))))) sz)) 0 0 (va_A (((((((xW o u cI cZ cJ).set 0 (o, .inr (8, ((xF u).set 9 (.int 0))))).set 32 ((u 31), .inl (cZ, 10, .inl (upd (upd (upd (upd (upd (upd (upd (upd (upd (upd (fun _ => 0) (0 : Int32).toNatClampNeg 0) (1 : Int32).toNatClampNeg 0) (2 : Int32).toNatClampNeg 0) (3 : Int32).toNatClampNeg 0) (4 : Int32).toNatClampNeg 0) (5 : Int32).toNatClampNeg 0) (6 : Int32).toNatClampNeg 0) (7 : Int32).toNatClampNeg 0) (8 : Int32).toNatClampNeg 0) (9 : Int32).toNatClampNeg 0)))).set 34 ((u 33), .inr (2, ([.ref (u 0), .ref (u 12), .ref (u 19), .int 0, .ref (u 34), .ref (u 35), .ref (u 36), .ref (u 37), .int 0].set 3 (.int 1))))).set 35 ((u 34), .inl (cI, 120, .inl (upd (fun _ => 0) (0 : Int32).toNatClampNeg 10)))).set 36 ((u 35), .inl (cI, 120, .inl (upd (fun _ => 0) (0 : Int32).toNatClampNeg 0)))).set 37 ((u 36), .inl (cI, 120, .inl (upd (fun _ => 0) (0 : Int32).toNatClampNeg (-1))))) sz) := by
  refine aStart (lv := [(0, .ref o), (1, .int 1)]) (Qc := fun A => wQi (0) D (((((((xW o u cI cZ cJ).set 0 (o, .inr (8, ((xF u).set 9 (.int 0))))).set 32 ((u 31), .inl (cZ, 10, .inl (upd (upd (upd (upd (upd (upd (upd (upd (upd (upd (fun _ => 0) (0 : Int32).toNatClampNeg 0) (1 : Int32).toNatClampNeg 0) (2 : Int32).toNatClampNeg 0) (3 : Int32).toNatClampNeg 0) (4 : Int32).toNatClampNeg 0) (5 : Int32).toNatClampNeg 0) (6 : Int32).toNatClampNeg 0) (7 : Int32).toNatClampNeg 0) (8 : Int32).toNatClampNeg 0) (9 : Int32).toNatClampNeg 0)))).set 34 ((u 33), .inr (2, ([.ref (u 0), .ref (u 12), .ref (u 19), .int 0, .ref (u 34), .ref (u 35), .ref (u 36), .ref (u 37), .int 0].set 3 (.int 1))))).set 35 ((u 34), .inl (cI, 120, .inl (upd (fun _ => 0) (0 : Int32).toNatClampNeg 10)))).set 36 ((u 35), .inl (cI, 120, .inl (upd (fun _ => 0) (0 : Int32).toNatClampNeg 0)))).set 37 ((u 36), .inl (cI, 120, .inl (upd (fun _ => 0) (0 : Int32).toNatClampNeg (-1))))) A) (by decide) (Nat.le_of_ble_eq_true rfl) rfl ?_
  intro p e s m args below meth c ls A H S hr hlocks hnm hl hK hP hD hS hA hB
  have hx := S.1
  have hb := S.2.1
  refine lv_iload_n hx hb dX8_ofRun_0 rfl (lv_at hl 1 rfl) ?_
  refine lv_if_lt (tgt := 14) hx hb dX8_ofRun_1 (by decide) (fun c => absurd c (by decide)) (fun _ => ?_)
  refine lv_iload_n hx hb dX8_ofRun_4 rfl (lv_at hl 1 rfl) ?_
  refine lv_bipush (v := 10) hx hb dX8_ofRun_5 (by decide) ?_
  refine lv_icmp_gt (tgt := 14) hx hb dX8_ofRun_7 (by decide) (fun c => absurd c (by decide)) (fun _ => ?_)
  refine lv_iconst (v := 1) hx hb dX8_ofRun_10 (by decide) ?_
  refine lv_goto (tgt := 15) hx hb dX8_ofRun_11 (by decide) ?_
  refine aSv (As := [.int 1]) S (c_X8_needArgument_3 l D cI cZ cJ o u ra ga H.size) ms_X8_needArgument kw_4_4 rfl rfl ⟨Nat.le_of_ble_eq_true rfl, Nat.le_of_ble_eq_true rfl⟩ hP hD hK hS hA hB hl.1 (Nat.le_of_ble_eq_true rfl) ⟨Nat.le_of_ble_eq_true rfl, Nat.le_of_ble_eq_true rfl⟩ dX8_ofRun_15 (fun H locs hz hP hD hS => ?_)
  refine lv_iload_n hx hb dX8_ofRun_18 rfl (lv_at hl 1 rfl) ?_
  refine lv_bipush (v := 10) hx hb dX8_ofRun_19 (by decide) ?_
  refine lv_icmp_ne (tgt := 31) hx hb dX8_ofRun_21 (by decide) (fun _ => ?_) (fun c => absurd c (by decide))
  refine lv_aload_n hx hb dX8_ofRun_31 rfl (lv_at hl 0 rfl) ?_
  refine xg (ci := 8) S inX8 rfl hK hP (q0 := 0) rfl 7 (by decide) rfl kw_3_27 rfl dX8_ofRun_32 ?_
  refine lv_iload_n hx hb dX8_ofRun_35 rfl (lv_at hl 1 rfl) ?_
  refine rdV (As := [.int 1]) (ci := 6) S (c_X6_answer_11 l D cI cZ cJ o u) mi_X6_answer kw_4_235 ⟨rfl, rfl⟩ ⟨Nat.le_of_ble_eq_true rfl, Nat.le_of_ble_eq_true rfl⟩ hP hK (k := 80) rfl rfl rfl hl.1 (Nat.le_of_ble_eq_true rfl) ⟨Nat.le_of_ble_eq_true rfl, Nat.le_of_ble_eq_true rfl⟩ dX8_ofRun_36 ?_
  exact wEnd S hr hlocks hP hD hS (Nat.le_of_ble_eq_true rfl) (Nat.le_of_ble_eq_true rfl) dX8_ofRun_39 rfl

set_option maxHeartbeats 8000000 in
set_option maxRecDepth 100000 in
theorem c_X6_answer_12 (l : Launch) (D : va_G) (cI cZ cJ : ClassId) (o : Nat) (u : Nat → Nat) : Met l yX6_answer (uW yX6_answer cX6_answer 2 (some .int)) ({ frames := 0, cells := 0, slots := 0, locals := 0 }) (va_Pc [.ref (u 79), .int 2] (pS D (tyL cI cZ cJ) (((((((xW o u cI cZ cJ).set 0 (o, .inr (8, ((xF u).set 9 (.int 0))))).set 32 ((u 31), .inl (cZ, 10, .inl (upd (upd (upd (upd (upd (upd (upd (upd (upd (upd (fun _ => 0) (0 : Int32).toNatClampNeg 0) (1 : Int32).toNatClampNeg 0) (2 : Int32).toNatClampNeg 0) (3 : Int32).toNatClampNeg 0) (4 : Int32).toNatClampNeg 0) (5 : Int32).toNatClampNeg 0) (6 : Int32).toNatClampNeg 0) (7 : Int32).toNatClampNeg 0) (8 : Int32).toNatClampNeg 0) (9 : Int32).toNatClampNeg 0)))).set 34 ((u 33), .inr (2, ([.ref (u 0), .ref (u 12), .ref (u 19), .int 0, .ref (u 34), .ref (u 35), .ref (u 36), .ref (u 37), .int 0].set 3 (.int 1))))).set 35 ((u 34), .inl (cI, 120, .inl (upd (fun _ => 0) (0 : Int32).toNatClampNeg 10)))).set 36 ((u 35), .inl (cI, 120, .inl (upd (fun _ => 0) (0 : Int32).toNatClampNeg 0)))).set 37 ((u 36), .inl (cI, 120, .inl (upd (fun _ => 0) (0 : Int32).toNatClampNeg (-1))))))) (QcRead (0)) 0 0 (fun _ => False) := by
  refine rdStart (lv := [(0, .ref (u 79)), (1, .int 2)]) (by decide) (Nat.le_of_ble_eq_true rfl) rfl ?_
  intro p e s m args below meth c ls S hr hlocks hl hP hK
  have hx := S.1
  have hb := S.2.1
  refine lv_iload_n hx hb dX6_answer_0 rfl (lv_at hl 1 rfl) ?_
  refine lv_tableIn (off := 61) (tgt := 62) hx hb dX6_answer_1 (by decide) (by decide) (by decide) (by decide) ?_
  refine lv_aload_n hx hb dX6_answer_62 rfl (lv_at hl 0 rfl) ?_
  refine xg (ci := 6) S inX6 rfl hK hP (q0 := 80) rfl 2 (by decide) rfl kw_2_151 rfl dX6_answer_63 ?_
  exact rdEnd S hr hlocks dX6_answer_66 rfl

set_option maxHeartbeats 8000000 in
set_option maxRecDepth 100000 in
theorem c_X8_ofRun_5 (l : Launch) (D : va_G) (cI cZ cJ : ClassId) (o : Nat) (u : Nat → Nat) (ra ga : Nat → Nat) (sz : Nat) : Met l yX8_ofRun (uW yX8_ofRun cX8_ofRun 2 (some .int)) ({ frames := 1, cells := 0, slots := 0, locals := 21 }) (va_Pc [.ref o, .int 2] (aS ra ga D (tyL cI cZ cJ) (((((((xW o u cI cZ cJ).set 0 (o, .inr (8, ((xF u).set 9 (.int 0))))).set 32 ((u 31), .inl (cZ, 10, .inl (upd (upd (upd (upd (upd (upd (upd (upd (upd (upd (fun _ => 0) (0 : Int32).toNatClampNeg 0) (1 : Int32).toNatClampNeg 0) (2 : Int32).toNatClampNeg 0) (3 : Int32).toNatClampNeg 0) (4 : Int32).toNatClampNeg 0) (5 : Int32).toNatClampNeg 0) (6 : Int32).toNatClampNeg 0) (7 : Int32).toNatClampNeg 0) (8 : Int32).toNatClampNeg 0) (9 : Int32).toNatClampNeg 0)))).set 34 ((u 33), .inr (2, ([.ref (u 0), .ref (u 12), .ref (u 19), .int 0, .ref (u 34), .ref (u 35), .ref (u 36), .ref (u 37), .int 0].set 3 (.int 1))))).set 35 ((u 34), .inl (cI, 120, .inl (upd (fun _ => 0) (0 : Int32).toNatClampNeg 10)))).set 36 ((u 35), .inl (cI, 120, .inl (upd (fun _ => 0) (0 : Int32).toNatClampNeg 0)))).set 37 ((u 36), .inl (cI, 120, .inl (upd (fun _ => 0) (0 : Int32).toNatClampNeg (-1))))) sz)) (wQi (0) D (((((((xW o u cI cZ cJ).set 0 (o, .inr (8, ((xF u).set 9 (.int 0))))).set 32 ((u 31), .inl (cZ, 10, .inl (upd (upd (upd (upd (upd (upd (upd (upd (upd (upd (fun _ => 0) (0 : Int32).toNatClampNeg 0) (1 : Int32).toNatClampNeg 0) (2 : Int32).toNatClampNeg 0) (3 : Int32).toNatClampNeg 0) (4 : Int32).toNatClampNeg 0) (5 : Int32).toNatClampNeg 0) (6 : Int32).toNatClampNeg 0) (7 : Int32).toNatClampNeg 0) (8 : Int32).toNatClampNeg 0) (9 : Int32).toNatClampNeg 0)))).set 34 ((u 33), .inr (2, ([.ref (u 0), .ref (u 12), .ref (u 19), .int 0, .ref (u 34), .ref (u 35), .ref (u 36), .ref (u 37), .int 0].set 3 (.int 1))))).set 35 ((u 34), .inl (cI, 120, .inl (upd (fun _ => 0) (0 : Int32).toNatClampNeg 10)))).set 36 ((u 35), .inl (cI, 120, .inl (upd (fun _ => 0) (0 : Int32).toNatClampNeg 0)))).set 37 ((u 36), .inl (cI, 120, .inl (upd (fun _ => 0) (0 : Int32).toNatClampNeg (-1))))) (va_A (((((((xW o u cI cZ cJ).set 0 (o, .inr (8, ((xF u).set 9 (.int 0))))).set 32 ((u 31), .inl (cZ, 10, .inl (upd (upd (upd (upd (upd (upd (upd (upd (upd (upd (fun _ => 0) (0 : Int32).toNatClampNeg 0) (1 : Int32).toNatClampNeg 0) (2 : Int32).toNatClampNeg 0) (3 : Int32).toNatClampNeg 0) (4 : Int32).toNatClampNeg 0) (5 : Int32).toNatClampNeg 0) (6 : Int32).toNatClampNeg 0) (7 : Int32).toNatClampNeg 0) (8 : Int32).toNatClampNeg 0) (9 : Int32).toNatClampNeg 0)))).set 34 ((u 33), .inr (2, ([.ref (u 0), .ref (u 12), .ref (u 19), .int 0, .ref (u 34), .ref (u 35), .ref (u 36), .ref (u 37), .int 0].set 3 (.int 1))))).set 35 ((u 34), .inl (cI, 120, .inl (upd (fun _ => 0) (0 : Int32).toNatClampNeg 10)))).set 36 ((u 35), .inl (cI, 120, .inl (upd (fun _ => 0) (0 : Int32).toNatClampNeg 0)))).set 37 ((u 36), .inl (cI, 120, .inl (upd (fun _ => 0) (0 : Int32).toNatClampNeg (-1))))) sz)) 0 0 (va_A (((((((xW o u cI cZ cJ).set 0 (o, .inr (8, ((xF u).set 9 (.int 0))))).set 32 ((u 31), .inl (cZ, 10, .inl (upd (upd (upd (upd (upd (upd (upd (upd (upd (upd (fun _ => 0) (0 : Int32).toNatClampNeg 0) (1 : Int32).toNatClampNeg 0) (2 : Int32).toNatClampNeg 0) (3 : Int32).toNatClampNeg 0) (4 : Int32).toNatClampNeg 0) (5 : Int32).toNatClampNeg 0) (6 : Int32).toNatClampNeg 0) (7 : Int32).toNatClampNeg 0) (8 : Int32).toNatClampNeg 0) (9 : Int32).toNatClampNeg 0)))).set 34 ((u 33), .inr (2, ([.ref (u 0), .ref (u 12), .ref (u 19), .int 0, .ref (u 34), .ref (u 35), .ref (u 36), .ref (u 37), .int 0].set 3 (.int 1))))).set 35 ((u 34), .inl (cI, 120, .inl (upd (fun _ => 0) (0 : Int32).toNatClampNeg 10)))).set 36 ((u 35), .inl (cI, 120, .inl (upd (fun _ => 0) (0 : Int32).toNatClampNeg 0)))).set 37 ((u 36), .inl (cI, 120, .inl (upd (fun _ => 0) (0 : Int32).toNatClampNeg (-1))))) sz) := by
  refine aStart (lv := [(0, .ref o), (1, .int 2)]) (Qc := fun A => wQi (0) D (((((((xW o u cI cZ cJ).set 0 (o, .inr (8, ((xF u).set 9 (.int 0))))).set 32 ((u 31), .inl (cZ, 10, .inl (upd (upd (upd (upd (upd (upd (upd (upd (upd (upd (fun _ => 0) (0 : Int32).toNatClampNeg 0) (1 : Int32).toNatClampNeg 0) (2 : Int32).toNatClampNeg 0) (3 : Int32).toNatClampNeg 0) (4 : Int32).toNatClampNeg 0) (5 : Int32).toNatClampNeg 0) (6 : Int32).toNatClampNeg 0) (7 : Int32).toNatClampNeg 0) (8 : Int32).toNatClampNeg 0) (9 : Int32).toNatClampNeg 0)))).set 34 ((u 33), .inr (2, ([.ref (u 0), .ref (u 12), .ref (u 19), .int 0, .ref (u 34), .ref (u 35), .ref (u 36), .ref (u 37), .int 0].set 3 (.int 1))))).set 35 ((u 34), .inl (cI, 120, .inl (upd (fun _ => 0) (0 : Int32).toNatClampNeg 10)))).set 36 ((u 35), .inl (cI, 120, .inl (upd (fun _ => 0) (0 : Int32).toNatClampNeg 0)))).set 37 ((u 36), .inl (cI, 120, .inl (upd (fun _ => 0) (0 : Int32).toNatClampNeg (-1))))) A) (by decide) (Nat.le_of_ble_eq_true rfl) rfl ?_
  intro p e s m args below meth c ls A H S hr hlocks hnm hl hK hP hD hS hA hB
  have hx := S.1
  have hb := S.2.1
  refine lv_iload_n hx hb dX8_ofRun_0 rfl (lv_at hl 1 rfl) ?_
  refine lv_if_lt (tgt := 14) hx hb dX8_ofRun_1 (by decide) (fun c => absurd c (by decide)) (fun _ => ?_)
  refine lv_iload_n hx hb dX8_ofRun_4 rfl (lv_at hl 1 rfl) ?_
  refine lv_bipush (v := 10) hx hb dX8_ofRun_5 (by decide) ?_
  refine lv_icmp_gt (tgt := 14) hx hb dX8_ofRun_7 (by decide) (fun c => absurd c (by decide)) (fun _ => ?_)
  refine lv_iconst (v := 1) hx hb dX8_ofRun_10 (by decide) ?_
  refine lv_goto (tgt := 15) hx hb dX8_ofRun_11 (by decide) ?_
  refine aSv (As := [.int 1]) S (c_X8_needArgument_3 l D cI cZ cJ o u ra ga H.size) ms_X8_needArgument kw_4_4 rfl rfl ⟨Nat.le_of_ble_eq_true rfl, Nat.le_of_ble_eq_true rfl⟩ hP hD hK hS hA hB hl.1 (Nat.le_of_ble_eq_true rfl) ⟨Nat.le_of_ble_eq_true rfl, Nat.le_of_ble_eq_true rfl⟩ dX8_ofRun_15 (fun H locs hz hP hD hS => ?_)
  refine lv_iload_n hx hb dX8_ofRun_18 rfl (lv_at hl 1 rfl) ?_
  refine lv_bipush (v := 10) hx hb dX8_ofRun_19 (by decide) ?_
  refine lv_icmp_ne (tgt := 31) hx hb dX8_ofRun_21 (by decide) (fun _ => ?_) (fun c => absurd c (by decide))
  refine lv_aload_n hx hb dX8_ofRun_31 rfl (lv_at hl 0 rfl) ?_
  refine xg (ci := 8) S inX8 rfl hK hP (q0 := 0) rfl 7 (by decide) rfl kw_3_27 rfl dX8_ofRun_32 ?_
  refine lv_iload_n hx hb dX8_ofRun_35 rfl (lv_at hl 1 rfl) ?_
  refine rdV (As := [.int 2]) (ci := 6) S (c_X6_answer_12 l D cI cZ cJ o u) mi_X6_answer kw_4_235 ⟨rfl, rfl⟩ ⟨Nat.le_of_ble_eq_true rfl, Nat.le_of_ble_eq_true rfl⟩ hP hK (k := 80) rfl rfl rfl hl.1 (Nat.le_of_ble_eq_true rfl) ⟨Nat.le_of_ble_eq_true rfl, Nat.le_of_ble_eq_true rfl⟩ dX8_ofRun_36 ?_
  exact wEnd S hr hlocks hP hD hS (Nat.le_of_ble_eq_true rfl) (Nat.le_of_ble_eq_true rfl) dX8_ofRun_39 rfl

set_option maxHeartbeats 8000000 in
set_option maxRecDepth 100000 in
theorem c_X6_answer_13 (l : Launch) (D : va_G) (cI cZ cJ : ClassId) (o : Nat) (u : Nat → Nat) : Met l yX6_answer (uW yX6_answer cX6_answer 2 (some .int)) ({ frames := 0, cells := 0, slots := 0, locals := 0 }) (va_Pc [.ref (u 79), .int 3] (pS D (tyL cI cZ cJ) (((((((xW o u cI cZ cJ).set 0 (o, .inr (8, ((xF u).set 9 (.int 0))))).set 32 ((u 31), .inl (cZ, 10, .inl (upd (upd (upd (upd (upd (upd (upd (upd (upd (upd (fun _ => 0) (0 : Int32).toNatClampNeg 0) (1 : Int32).toNatClampNeg 0) (2 : Int32).toNatClampNeg 0) (3 : Int32).toNatClampNeg 0) (4 : Int32).toNatClampNeg 0) (5 : Int32).toNatClampNeg 0) (6 : Int32).toNatClampNeg 0) (7 : Int32).toNatClampNeg 0) (8 : Int32).toNatClampNeg 0) (9 : Int32).toNatClampNeg 0)))).set 34 ((u 33), .inr (2, ([.ref (u 0), .ref (u 12), .ref (u 19), .int 0, .ref (u 34), .ref (u 35), .ref (u 36), .ref (u 37), .int 0].set 3 (.int 1))))).set 35 ((u 34), .inl (cI, 120, .inl (upd (fun _ => 0) (0 : Int32).toNatClampNeg 10)))).set 36 ((u 35), .inl (cI, 120, .inl (upd (fun _ => 0) (0 : Int32).toNatClampNeg 0)))).set 37 ((u 36), .inl (cI, 120, .inl (upd (fun _ => 0) (0 : Int32).toNatClampNeg (-1))))))) (QcRead (0)) 0 0 (fun _ => False) := by
  refine rdStart (lv := [(0, .ref (u 79)), (1, .int 3)]) (by decide) (Nat.le_of_ble_eq_true rfl) rfl ?_
  intro p e s m args below meth c ls S hr hlocks hl hP hK
  have hx := S.1
  have hb := S.2.1
  refine lv_iload_n hx hb dX6_answer_0 rfl (lv_at hl 1 rfl) ?_
  refine lv_tableIn (off := 66) (tgt := 67) hx hb dX6_answer_1 (by decide) (by decide) (by decide) (by decide) ?_
  refine lv_aload_n hx hb dX6_answer_67 rfl (lv_at hl 0 rfl) ?_
  refine xg (ci := 6) S inX6 rfl hK hP (q0 := 80) rfl 3 (by decide) rfl kw_2_153 rfl dX6_answer_68 ?_
  exact rdEnd S hr hlocks dX6_answer_71 rfl

set_option maxHeartbeats 8000000 in
set_option maxRecDepth 100000 in
theorem c_X8_ofRun_6 (l : Launch) (D : va_G) (cI cZ cJ : ClassId) (o : Nat) (u : Nat → Nat) (ra ga : Nat → Nat) (sz : Nat) : Met l yX8_ofRun (uW yX8_ofRun cX8_ofRun 2 (some .int)) ({ frames := 1, cells := 0, slots := 0, locals := 21 }) (va_Pc [.ref o, .int 3] (aS ra ga D (tyL cI cZ cJ) (((((((xW o u cI cZ cJ).set 0 (o, .inr (8, ((xF u).set 9 (.int 0))))).set 32 ((u 31), .inl (cZ, 10, .inl (upd (upd (upd (upd (upd (upd (upd (upd (upd (upd (fun _ => 0) (0 : Int32).toNatClampNeg 0) (1 : Int32).toNatClampNeg 0) (2 : Int32).toNatClampNeg 0) (3 : Int32).toNatClampNeg 0) (4 : Int32).toNatClampNeg 0) (5 : Int32).toNatClampNeg 0) (6 : Int32).toNatClampNeg 0) (7 : Int32).toNatClampNeg 0) (8 : Int32).toNatClampNeg 0) (9 : Int32).toNatClampNeg 0)))).set 34 ((u 33), .inr (2, ([.ref (u 0), .ref (u 12), .ref (u 19), .int 0, .ref (u 34), .ref (u 35), .ref (u 36), .ref (u 37), .int 0].set 3 (.int 1))))).set 35 ((u 34), .inl (cI, 120, .inl (upd (fun _ => 0) (0 : Int32).toNatClampNeg 10)))).set 36 ((u 35), .inl (cI, 120, .inl (upd (fun _ => 0) (0 : Int32).toNatClampNeg 0)))).set 37 ((u 36), .inl (cI, 120, .inl (upd (fun _ => 0) (0 : Int32).toNatClampNeg (-1))))) sz)) (wQi (0) D (((((((xW o u cI cZ cJ).set 0 (o, .inr (8, ((xF u).set 9 (.int 0))))).set 32 ((u 31), .inl (cZ, 10, .inl (upd (upd (upd (upd (upd (upd (upd (upd (upd (upd (fun _ => 0) (0 : Int32).toNatClampNeg 0) (1 : Int32).toNatClampNeg 0) (2 : Int32).toNatClampNeg 0) (3 : Int32).toNatClampNeg 0) (4 : Int32).toNatClampNeg 0) (5 : Int32).toNatClampNeg 0) (6 : Int32).toNatClampNeg 0) (7 : Int32).toNatClampNeg 0) (8 : Int32).toNatClampNeg 0) (9 : Int32).toNatClampNeg 0)))).set 34 ((u 33), .inr (2, ([.ref (u 0), .ref (u 12), .ref (u 19), .int 0, .ref (u 34), .ref (u 35), .ref (u 36), .ref (u 37), .int 0].set 3 (.int 1))))).set 35 ((u 34), .inl (cI, 120, .inl (upd (fun _ => 0) (0 : Int32).toNatClampNeg 10)))).set 36 ((u 35), .inl (cI, 120, .inl (upd (fun _ => 0) (0 : Int32).toNatClampNeg 0)))).set 37 ((u 36), .inl (cI, 120, .inl (upd (fun _ => 0) (0 : Int32).toNatClampNeg (-1))))) (va_A (((((((xW o u cI cZ cJ).set 0 (o, .inr (8, ((xF u).set 9 (.int 0))))).set 32 ((u 31), .inl (cZ, 10, .inl (upd (upd (upd (upd (upd (upd (upd (upd (upd (upd (fun _ => 0) (0 : Int32).toNatClampNeg 0) (1 : Int32).toNatClampNeg 0) (2 : Int32).toNatClampNeg 0) (3 : Int32).toNatClampNeg 0) (4 : Int32).toNatClampNeg 0) (5 : Int32).toNatClampNeg 0) (6 : Int32).toNatClampNeg 0) (7 : Int32).toNatClampNeg 0) (8 : Int32).toNatClampNeg 0) (9 : Int32).toNatClampNeg 0)))).set 34 ((u 33), .inr (2, ([.ref (u 0), .ref (u 12), .ref (u 19), .int 0, .ref (u 34), .ref (u 35), .ref (u 36), .ref (u 37), .int 0].set 3 (.int 1))))).set 35 ((u 34), .inl (cI, 120, .inl (upd (fun _ => 0) (0 : Int32).toNatClampNeg 10)))).set 36 ((u 35), .inl (cI, 120, .inl (upd (fun _ => 0) (0 : Int32).toNatClampNeg 0)))).set 37 ((u 36), .inl (cI, 120, .inl (upd (fun _ => 0) (0 : Int32).toNatClampNeg (-1))))) sz)) 0 0 (va_A (((((((xW o u cI cZ cJ).set 0 (o, .inr (8, ((xF u).set 9 (.int 0))))).set 32 ((u 31), .inl (cZ, 10, .inl (upd (upd (upd (upd (upd (upd (upd (upd (upd (upd (fun _ => 0) (0 : Int32).toNatClampNeg 0) (1 : Int32).toNatClampNeg 0) (2 : Int32).toNatClampNeg 0) (3 : Int32).toNatClampNeg 0) (4 : Int32).toNatClampNeg 0) (5 : Int32).toNatClampNeg 0) (6 : Int32).toNatClampNeg 0) (7 : Int32).toNatClampNeg 0) (8 : Int32).toNatClampNeg 0) (9 : Int32).toNatClampNeg 0)))).set 34 ((u 33), .inr (2, ([.ref (u 0), .ref (u 12), .ref (u 19), .int 0, .ref (u 34), .ref (u 35), .ref (u 36), .ref (u 37), .int 0].set 3 (.int 1))))).set 35 ((u 34), .inl (cI, 120, .inl (upd (fun _ => 0) (0 : Int32).toNatClampNeg 10)))).set 36 ((u 35), .inl (cI, 120, .inl (upd (fun _ => 0) (0 : Int32).toNatClampNeg 0)))).set 37 ((u 36), .inl (cI, 120, .inl (upd (fun _ => 0) (0 : Int32).toNatClampNeg (-1))))) sz) := by
  refine aStart (lv := [(0, .ref o), (1, .int 3)]) (Qc := fun A => wQi (0) D (((((((xW o u cI cZ cJ).set 0 (o, .inr (8, ((xF u).set 9 (.int 0))))).set 32 ((u 31), .inl (cZ, 10, .inl (upd (upd (upd (upd (upd (upd (upd (upd (upd (upd (fun _ => 0) (0 : Int32).toNatClampNeg 0) (1 : Int32).toNatClampNeg 0) (2 : Int32).toNatClampNeg 0) (3 : Int32).toNatClampNeg 0) (4 : Int32).toNatClampNeg 0) (5 : Int32).toNatClampNeg 0) (6 : Int32).toNatClampNeg 0) (7 : Int32).toNatClampNeg 0) (8 : Int32).toNatClampNeg 0) (9 : Int32).toNatClampNeg 0)))).set 34 ((u 33), .inr (2, ([.ref (u 0), .ref (u 12), .ref (u 19), .int 0, .ref (u 34), .ref (u 35), .ref (u 36), .ref (u 37), .int 0].set 3 (.int 1))))).set 35 ((u 34), .inl (cI, 120, .inl (upd (fun _ => 0) (0 : Int32).toNatClampNeg 10)))).set 36 ((u 35), .inl (cI, 120, .inl (upd (fun _ => 0) (0 : Int32).toNatClampNeg 0)))).set 37 ((u 36), .inl (cI, 120, .inl (upd (fun _ => 0) (0 : Int32).toNatClampNeg (-1))))) A) (by decide) (Nat.le_of_ble_eq_true rfl) rfl ?_
  intro p e s m args below meth c ls A H S hr hlocks hnm hl hK hP hD hS hA hB
  have hx := S.1
  have hb := S.2.1
  refine lv_iload_n hx hb dX8_ofRun_0 rfl (lv_at hl 1 rfl) ?_
  refine lv_if_lt (tgt := 14) hx hb dX8_ofRun_1 (by decide) (fun c => absurd c (by decide)) (fun _ => ?_)
  refine lv_iload_n hx hb dX8_ofRun_4 rfl (lv_at hl 1 rfl) ?_
  refine lv_bipush (v := 10) hx hb dX8_ofRun_5 (by decide) ?_
  refine lv_icmp_gt (tgt := 14) hx hb dX8_ofRun_7 (by decide) (fun c => absurd c (by decide)) (fun _ => ?_)
  refine lv_iconst (v := 1) hx hb dX8_ofRun_10 (by decide) ?_
  refine lv_goto (tgt := 15) hx hb dX8_ofRun_11 (by decide) ?_
  refine aSv (As := [.int 1]) S (c_X8_needArgument_3 l D cI cZ cJ o u ra ga H.size) ms_X8_needArgument kw_4_4 rfl rfl ⟨Nat.le_of_ble_eq_true rfl, Nat.le_of_ble_eq_true rfl⟩ hP hD hK hS hA hB hl.1 (Nat.le_of_ble_eq_true rfl) ⟨Nat.le_of_ble_eq_true rfl, Nat.le_of_ble_eq_true rfl⟩ dX8_ofRun_15 (fun H locs hz hP hD hS => ?_)
  refine lv_iload_n hx hb dX8_ofRun_18 rfl (lv_at hl 1 rfl) ?_
  refine lv_bipush (v := 10) hx hb dX8_ofRun_19 (by decide) ?_
  refine lv_icmp_ne (tgt := 31) hx hb dX8_ofRun_21 (by decide) (fun _ => ?_) (fun c => absurd c (by decide))
  refine lv_aload_n hx hb dX8_ofRun_31 rfl (lv_at hl 0 rfl) ?_
  refine xg (ci := 8) S inX8 rfl hK hP (q0 := 0) rfl 7 (by decide) rfl kw_3_27 rfl dX8_ofRun_32 ?_
  refine lv_iload_n hx hb dX8_ofRun_35 rfl (lv_at hl 1 rfl) ?_
  refine rdV (As := [.int 3]) (ci := 6) S (c_X6_answer_13 l D cI cZ cJ o u) mi_X6_answer kw_4_235 ⟨rfl, rfl⟩ ⟨Nat.le_of_ble_eq_true rfl, Nat.le_of_ble_eq_true rfl⟩ hP hK (k := 80) rfl rfl rfl hl.1 (Nat.le_of_ble_eq_true rfl) ⟨Nat.le_of_ble_eq_true rfl, Nat.le_of_ble_eq_true rfl⟩ dX8_ofRun_36 ?_
  exact wEnd S hr hlocks hP hD hS (Nat.le_of_ble_eq_true rfl) (Nat.le_of_ble_eq_true rfl) dX8_ofRun_39 rfl

set_option maxHeartbeats 8000000 in
set_option maxRecDepth 100000 in
theorem c_X6_answer_14 (l : Launch) (D : va_G) (cI cZ cJ : ClassId) (o : Nat) (u : Nat → Nat) : Met l yX6_answer (uW yX6_answer cX6_answer 2 (some .int)) ({ frames := 0, cells := 0, slots := 0, locals := 0 }) (va_Pc [.ref (u 79), .int 4] (pS D (tyL cI cZ cJ) (((((((xW o u cI cZ cJ).set 0 (o, .inr (8, ((xF u).set 9 (.int 0))))).set 32 ((u 31), .inl (cZ, 10, .inl (upd (upd (upd (upd (upd (upd (upd (upd (upd (upd (fun _ => 0) (0 : Int32).toNatClampNeg 0) (1 : Int32).toNatClampNeg 0) (2 : Int32).toNatClampNeg 0) (3 : Int32).toNatClampNeg 0) (4 : Int32).toNatClampNeg 0) (5 : Int32).toNatClampNeg 0) (6 : Int32).toNatClampNeg 0) (7 : Int32).toNatClampNeg 0) (8 : Int32).toNatClampNeg 0) (9 : Int32).toNatClampNeg 0)))).set 34 ((u 33), .inr (2, ([.ref (u 0), .ref (u 12), .ref (u 19), .int 0, .ref (u 34), .ref (u 35), .ref (u 36), .ref (u 37), .int 0].set 3 (.int 1))))).set 35 ((u 34), .inl (cI, 120, .inl (upd (fun _ => 0) (0 : Int32).toNatClampNeg 10)))).set 36 ((u 35), .inl (cI, 120, .inl (upd (fun _ => 0) (0 : Int32).toNatClampNeg 0)))).set 37 ((u 36), .inl (cI, 120, .inl (upd (fun _ => 0) (0 : Int32).toNatClampNeg (-1))))))) (QcRead (0)) 0 0 (fun _ => False) := by
  refine rdStart (lv := [(0, .ref (u 79)), (1, .int 4)]) (by decide) (Nat.le_of_ble_eq_true rfl) rfl ?_
  intro p e s m args below meth c ls S hr hlocks hl hP hK
  have hx := S.1
  have hb := S.2.1
  refine lv_iload_n hx hb dX6_answer_0 rfl (lv_at hl 1 rfl) ?_
  refine lv_tableIn (off := 71) (tgt := 72) hx hb dX6_answer_1 (by decide) (by decide) (by decide) (by decide) ?_
  refine lv_aload_n hx hb dX6_answer_72 rfl (lv_at hl 0 rfl) ?_
  refine xg (ci := 6) S inX6 rfl hK hP (q0 := 80) rfl 4 (by decide) rfl kw_2_155 rfl dX6_answer_73 ?_
  exact rdEnd S hr hlocks dX6_answer_76 rfl

set_option maxHeartbeats 8000000 in
set_option maxRecDepth 100000 in
theorem c_X8_ofRun_7 (l : Launch) (D : va_G) (cI cZ cJ : ClassId) (o : Nat) (u : Nat → Nat) (ra ga : Nat → Nat) (sz : Nat) : Met l yX8_ofRun (uW yX8_ofRun cX8_ofRun 2 (some .int)) ({ frames := 1, cells := 0, slots := 0, locals := 21 }) (va_Pc [.ref o, .int 4] (aS ra ga D (tyL cI cZ cJ) (((((((xW o u cI cZ cJ).set 0 (o, .inr (8, ((xF u).set 9 (.int 0))))).set 32 ((u 31), .inl (cZ, 10, .inl (upd (upd (upd (upd (upd (upd (upd (upd (upd (upd (fun _ => 0) (0 : Int32).toNatClampNeg 0) (1 : Int32).toNatClampNeg 0) (2 : Int32).toNatClampNeg 0) (3 : Int32).toNatClampNeg 0) (4 : Int32).toNatClampNeg 0) (5 : Int32).toNatClampNeg 0) (6 : Int32).toNatClampNeg 0) (7 : Int32).toNatClampNeg 0) (8 : Int32).toNatClampNeg 0) (9 : Int32).toNatClampNeg 0)))).set 34 ((u 33), .inr (2, ([.ref (u 0), .ref (u 12), .ref (u 19), .int 0, .ref (u 34), .ref (u 35), .ref (u 36), .ref (u 37), .int 0].set 3 (.int 1))))).set 35 ((u 34), .inl (cI, 120, .inl (upd (fun _ => 0) (0 : Int32).toNatClampNeg 10)))).set 36 ((u 35), .inl (cI, 120, .inl (upd (fun _ => 0) (0 : Int32).toNatClampNeg 0)))).set 37 ((u 36), .inl (cI, 120, .inl (upd (fun _ => 0) (0 : Int32).toNatClampNeg (-1))))) sz)) (wQi (0) D (((((((xW o u cI cZ cJ).set 0 (o, .inr (8, ((xF u).set 9 (.int 0))))).set 32 ((u 31), .inl (cZ, 10, .inl (upd (upd (upd (upd (upd (upd (upd (upd (upd (upd (fun _ => 0) (0 : Int32).toNatClampNeg 0) (1 : Int32).toNatClampNeg 0) (2 : Int32).toNatClampNeg 0) (3 : Int32).toNatClampNeg 0) (4 : Int32).toNatClampNeg 0) (5 : Int32).toNatClampNeg 0) (6 : Int32).toNatClampNeg 0) (7 : Int32).toNatClampNeg 0) (8 : Int32).toNatClampNeg 0) (9 : Int32).toNatClampNeg 0)))).set 34 ((u 33), .inr (2, ([.ref (u 0), .ref (u 12), .ref (u 19), .int 0, .ref (u 34), .ref (u 35), .ref (u 36), .ref (u 37), .int 0].set 3 (.int 1))))).set 35 ((u 34), .inl (cI, 120, .inl (upd (fun _ => 0) (0 : Int32).toNatClampNeg 10)))).set 36 ((u 35), .inl (cI, 120, .inl (upd (fun _ => 0) (0 : Int32).toNatClampNeg 0)))).set 37 ((u 36), .inl (cI, 120, .inl (upd (fun _ => 0) (0 : Int32).toNatClampNeg (-1))))) (va_A (((((((xW o u cI cZ cJ).set 0 (o, .inr (8, ((xF u).set 9 (.int 0))))).set 32 ((u 31), .inl (cZ, 10, .inl (upd (upd (upd (upd (upd (upd (upd (upd (upd (upd (fun _ => 0) (0 : Int32).toNatClampNeg 0) (1 : Int32).toNatClampNeg 0) (2 : Int32).toNatClampNeg 0) (3 : Int32).toNatClampNeg 0) (4 : Int32).toNatClampNeg 0) (5 : Int32).toNatClampNeg 0) (6 : Int32).toNatClampNeg 0) (7 : Int32).toNatClampNeg 0) (8 : Int32).toNatClampNeg 0) (9 : Int32).toNatClampNeg 0)))).set 34 ((u 33), .inr (2, ([.ref (u 0), .ref (u 12), .ref (u 19), .int 0, .ref (u 34), .ref (u 35), .ref (u 36), .ref (u 37), .int 0].set 3 (.int 1))))).set 35 ((u 34), .inl (cI, 120, .inl (upd (fun _ => 0) (0 : Int32).toNatClampNeg 10)))).set 36 ((u 35), .inl (cI, 120, .inl (upd (fun _ => 0) (0 : Int32).toNatClampNeg 0)))).set 37 ((u 36), .inl (cI, 120, .inl (upd (fun _ => 0) (0 : Int32).toNatClampNeg (-1))))) sz)) 0 0 (va_A (((((((xW o u cI cZ cJ).set 0 (o, .inr (8, ((xF u).set 9 (.int 0))))).set 32 ((u 31), .inl (cZ, 10, .inl (upd (upd (upd (upd (upd (upd (upd (upd (upd (upd (fun _ => 0) (0 : Int32).toNatClampNeg 0) (1 : Int32).toNatClampNeg 0) (2 : Int32).toNatClampNeg 0) (3 : Int32).toNatClampNeg 0) (4 : Int32).toNatClampNeg 0) (5 : Int32).toNatClampNeg 0) (6 : Int32).toNatClampNeg 0) (7 : Int32).toNatClampNeg 0) (8 : Int32).toNatClampNeg 0) (9 : Int32).toNatClampNeg 0)))).set 34 ((u 33), .inr (2, ([.ref (u 0), .ref (u 12), .ref (u 19), .int 0, .ref (u 34), .ref (u 35), .ref (u 36), .ref (u 37), .int 0].set 3 (.int 1))))).set 35 ((u 34), .inl (cI, 120, .inl (upd (fun _ => 0) (0 : Int32).toNatClampNeg 10)))).set 36 ((u 35), .inl (cI, 120, .inl (upd (fun _ => 0) (0 : Int32).toNatClampNeg 0)))).set 37 ((u 36), .inl (cI, 120, .inl (upd (fun _ => 0) (0 : Int32).toNatClampNeg (-1))))) sz) := by
  refine aStart (lv := [(0, .ref o), (1, .int 4)]) (Qc := fun A => wQi (0) D (((((((xW o u cI cZ cJ).set 0 (o, .inr (8, ((xF u).set 9 (.int 0))))).set 32 ((u 31), .inl (cZ, 10, .inl (upd (upd (upd (upd (upd (upd (upd (upd (upd (upd (fun _ => 0) (0 : Int32).toNatClampNeg 0) (1 : Int32).toNatClampNeg 0) (2 : Int32).toNatClampNeg 0) (3 : Int32).toNatClampNeg 0) (4 : Int32).toNatClampNeg 0) (5 : Int32).toNatClampNeg 0) (6 : Int32).toNatClampNeg 0) (7 : Int32).toNatClampNeg 0) (8 : Int32).toNatClampNeg 0) (9 : Int32).toNatClampNeg 0)))).set 34 ((u 33), .inr (2, ([.ref (u 0), .ref (u 12), .ref (u 19), .int 0, .ref (u 34), .ref (u 35), .ref (u 36), .ref (u 37), .int 0].set 3 (.int 1))))).set 35 ((u 34), .inl (cI, 120, .inl (upd (fun _ => 0) (0 : Int32).toNatClampNeg 10)))).set 36 ((u 35), .inl (cI, 120, .inl (upd (fun _ => 0) (0 : Int32).toNatClampNeg 0)))).set 37 ((u 36), .inl (cI, 120, .inl (upd (fun _ => 0) (0 : Int32).toNatClampNeg (-1))))) A) (by decide) (Nat.le_of_ble_eq_true rfl) rfl ?_
  intro p e s m args below meth c ls A H S hr hlocks hnm hl hK hP hD hS hA hB
  have hx := S.1
  have hb := S.2.1
  refine lv_iload_n hx hb dX8_ofRun_0 rfl (lv_at hl 1 rfl) ?_
  refine lv_if_lt (tgt := 14) hx hb dX8_ofRun_1 (by decide) (fun c => absurd c (by decide)) (fun _ => ?_)
  refine lv_iload_n hx hb dX8_ofRun_4 rfl (lv_at hl 1 rfl) ?_
  refine lv_bipush (v := 10) hx hb dX8_ofRun_5 (by decide) ?_
  refine lv_icmp_gt (tgt := 14) hx hb dX8_ofRun_7 (by decide) (fun c => absurd c (by decide)) (fun _ => ?_)
  refine lv_iconst (v := 1) hx hb dX8_ofRun_10 (by decide) ?_
  refine lv_goto (tgt := 15) hx hb dX8_ofRun_11 (by decide) ?_
  refine aSv (As := [.int 1]) S (c_X8_needArgument_3 l D cI cZ cJ o u ra ga H.size) ms_X8_needArgument kw_4_4 rfl rfl ⟨Nat.le_of_ble_eq_true rfl, Nat.le_of_ble_eq_true rfl⟩ hP hD hK hS hA hB hl.1 (Nat.le_of_ble_eq_true rfl) ⟨Nat.le_of_ble_eq_true rfl, Nat.le_of_ble_eq_true rfl⟩ dX8_ofRun_15 (fun H locs hz hP hD hS => ?_)
  refine lv_iload_n hx hb dX8_ofRun_18 rfl (lv_at hl 1 rfl) ?_
  refine lv_bipush (v := 10) hx hb dX8_ofRun_19 (by decide) ?_
  refine lv_icmp_ne (tgt := 31) hx hb dX8_ofRun_21 (by decide) (fun _ => ?_) (fun c => absurd c (by decide))
  refine lv_aload_n hx hb dX8_ofRun_31 rfl (lv_at hl 0 rfl) ?_
  refine xg (ci := 8) S inX8 rfl hK hP (q0 := 0) rfl 7 (by decide) rfl kw_3_27 rfl dX8_ofRun_32 ?_
  refine lv_iload_n hx hb dX8_ofRun_35 rfl (lv_at hl 1 rfl) ?_
  refine rdV (As := [.int 4]) (ci := 6) S (c_X6_answer_14 l D cI cZ cJ o u) mi_X6_answer kw_4_235 ⟨rfl, rfl⟩ ⟨Nat.le_of_ble_eq_true rfl, Nat.le_of_ble_eq_true rfl⟩ hP hK (k := 80) rfl rfl rfl hl.1 (Nat.le_of_ble_eq_true rfl) ⟨Nat.le_of_ble_eq_true rfl, Nat.le_of_ble_eq_true rfl⟩ dX8_ofRun_36 ?_
  exact wEnd S hr hlocks hP hD hS (Nat.le_of_ble_eq_true rfl) (Nat.le_of_ble_eq_true rfl) dX8_ofRun_39 rfl

set_option maxHeartbeats 8000000 in
set_option maxRecDepth 100000 in
theorem c_X6_answer_15 (l : Launch) (D : va_G) (cI cZ cJ : ClassId) (o : Nat) (u : Nat → Nat) : Met l yX6_answer (uW yX6_answer cX6_answer 2 (some .int)) ({ frames := 0, cells := 0, slots := 0, locals := 0 }) (va_Pc [.ref (u 79), .int 5] (pS D (tyL cI cZ cJ) (((((((xW o u cI cZ cJ).set 0 (o, .inr (8, ((xF u).set 9 (.int 0))))).set 32 ((u 31), .inl (cZ, 10, .inl (upd (upd (upd (upd (upd (upd (upd (upd (upd (upd (fun _ => 0) (0 : Int32).toNatClampNeg 0) (1 : Int32).toNatClampNeg 0) (2 : Int32).toNatClampNeg 0) (3 : Int32).toNatClampNeg 0) (4 : Int32).toNatClampNeg 0) (5 : Int32).toNatClampNeg 0) (6 : Int32).toNatClampNeg 0) (7 : Int32).toNatClampNeg 0) (8 : Int32).toNatClampNeg 0) (9 : Int32).toNatClampNeg 0)))).set 34 ((u 33), .inr (2, ([.ref (u 0), .ref (u 12), .ref (u 19), .int 0, .ref (u 34), .ref (u 35), .ref (u 36), .ref (u 37), .int 0].set 3 (.int 1))))).set 35 ((u 34), .inl (cI, 120, .inl (upd (fun _ => 0) (0 : Int32).toNatClampNeg 10)))).set 36 ((u 35), .inl (cI, 120, .inl (upd (fun _ => 0) (0 : Int32).toNatClampNeg 0)))).set 37 ((u 36), .inl (cI, 120, .inl (upd (fun _ => 0) (0 : Int32).toNatClampNeg (-1))))))) (QcRead (0)) 0 0 (fun _ => False) := by
  refine rdStart (lv := [(0, .ref (u 79)), (1, .int 5)]) (by decide) (Nat.le_of_ble_eq_true rfl) rfl ?_
  intro p e s m args below meth c ls S hr hlocks hl hP hK
  have hx := S.1
  have hb := S.2.1
  refine lv_iload_n hx hb dX6_answer_0 rfl (lv_at hl 1 rfl) ?_
  refine lv_tableIn (off := 76) (tgt := 77) hx hb dX6_answer_1 (by decide) (by decide) (by decide) (by decide) ?_
  refine lv_aload_n hx hb dX6_answer_77 rfl (lv_at hl 0 rfl) ?_
  refine xg (ci := 6) S inX6 rfl hK hP (q0 := 80) rfl 5 (by decide) rfl kw_2_157 rfl dX6_answer_78 ?_
  exact rdEnd S hr hlocks dX6_answer_81 rfl

set_option maxHeartbeats 8000000 in
set_option maxRecDepth 100000 in
theorem c_X8_ofRun_8 (l : Launch) (D : va_G) (cI cZ cJ : ClassId) (o : Nat) (u : Nat → Nat) (ra ga : Nat → Nat) (sz : Nat) : Met l yX8_ofRun (uW yX8_ofRun cX8_ofRun 2 (some .int)) ({ frames := 1, cells := 0, slots := 0, locals := 21 }) (va_Pc [.ref o, .int 5] (aS ra ga D (tyL cI cZ cJ) (((((((xW o u cI cZ cJ).set 0 (o, .inr (8, ((xF u).set 9 (.int 0))))).set 32 ((u 31), .inl (cZ, 10, .inl (upd (upd (upd (upd (upd (upd (upd (upd (upd (upd (fun _ => 0) (0 : Int32).toNatClampNeg 0) (1 : Int32).toNatClampNeg 0) (2 : Int32).toNatClampNeg 0) (3 : Int32).toNatClampNeg 0) (4 : Int32).toNatClampNeg 0) (5 : Int32).toNatClampNeg 0) (6 : Int32).toNatClampNeg 0) (7 : Int32).toNatClampNeg 0) (8 : Int32).toNatClampNeg 0) (9 : Int32).toNatClampNeg 0)))).set 34 ((u 33), .inr (2, ([.ref (u 0), .ref (u 12), .ref (u 19), .int 0, .ref (u 34), .ref (u 35), .ref (u 36), .ref (u 37), .int 0].set 3 (.int 1))))).set 35 ((u 34), .inl (cI, 120, .inl (upd (fun _ => 0) (0 : Int32).toNatClampNeg 10)))).set 36 ((u 35), .inl (cI, 120, .inl (upd (fun _ => 0) (0 : Int32).toNatClampNeg 0)))).set 37 ((u 36), .inl (cI, 120, .inl (upd (fun _ => 0) (0 : Int32).toNatClampNeg (-1))))) sz)) (wQi (0) D (((((((xW o u cI cZ cJ).set 0 (o, .inr (8, ((xF u).set 9 (.int 0))))).set 32 ((u 31), .inl (cZ, 10, .inl (upd (upd (upd (upd (upd (upd (upd (upd (upd (upd (fun _ => 0) (0 : Int32).toNatClampNeg 0) (1 : Int32).toNatClampNeg 0) (2 : Int32).toNatClampNeg 0) (3 : Int32).toNatClampNeg 0) (4 : Int32).toNatClampNeg 0) (5 : Int32).toNatClampNeg 0) (6 : Int32).toNatClampNeg 0) (7 : Int32).toNatClampNeg 0) (8 : Int32).toNatClampNeg 0) (9 : Int32).toNatClampNeg 0)))).set 34 ((u 33), .inr (2, ([.ref (u 0), .ref (u 12), .ref (u 19), .int 0, .ref (u 34), .ref (u 35), .ref (u 36), .ref (u 37), .int 0].set 3 (.int 1))))).set 35 ((u 34), .inl (cI, 120, .inl (upd (fun _ => 0) (0 : Int32).toNatClampNeg 10)))).set 36 ((u 35), .inl (cI, 120, .inl (upd (fun _ => 0) (0 : Int32).toNatClampNeg 0)))).set 37 ((u 36), .inl (cI, 120, .inl (upd (fun _ => 0) (0 : Int32).toNatClampNeg (-1))))) (va_A (((((((xW o u cI cZ cJ).set 0 (o, .inr (8, ((xF u).set 9 (.int 0))))).set 32 ((u 31), .inl (cZ, 10, .inl (upd (upd (upd (upd (upd (upd (upd (upd (upd (upd (fun _ => 0) (0 : Int32).toNatClampNeg 0) (1 : Int32).toNatClampNeg 0) (2 : Int32).toNatClampNeg 0) (3 : Int32).toNatClampNeg 0) (4 : Int32).toNatClampNeg 0) (5 : Int32).toNatClampNeg 0) (6 : Int32).toNatClampNeg 0) (7 : Int32).toNatClampNeg 0) (8 : Int32).toNatClampNeg 0) (9 : Int32).toNatClampNeg 0)))).set 34 ((u 33), .inr (2, ([.ref (u 0), .ref (u 12), .ref (u 19), .int 0, .ref (u 34), .ref (u 35), .ref (u 36), .ref (u 37), .int 0].set 3 (.int 1))))).set 35 ((u 34), .inl (cI, 120, .inl (upd (fun _ => 0) (0 : Int32).toNatClampNeg 10)))).set 36 ((u 35), .inl (cI, 120, .inl (upd (fun _ => 0) (0 : Int32).toNatClampNeg 0)))).set 37 ((u 36), .inl (cI, 120, .inl (upd (fun _ => 0) (0 : Int32).toNatClampNeg (-1))))) sz)) 0 0 (va_A (((((((xW o u cI cZ cJ).set 0 (o, .inr (8, ((xF u).set 9 (.int 0))))).set 32 ((u 31), .inl (cZ, 10, .inl (upd (upd (upd (upd (upd (upd (upd (upd (upd (upd (fun _ => 0) (0 : Int32).toNatClampNeg 0) (1 : Int32).toNatClampNeg 0) (2 : Int32).toNatClampNeg 0) (3 : Int32).toNatClampNeg 0) (4 : Int32).toNatClampNeg 0) (5 : Int32).toNatClampNeg 0) (6 : Int32).toNatClampNeg 0) (7 : Int32).toNatClampNeg 0) (8 : Int32).toNatClampNeg 0) (9 : Int32).toNatClampNeg 0)))).set 34 ((u 33), .inr (2, ([.ref (u 0), .ref (u 12), .ref (u 19), .int 0, .ref (u 34), .ref (u 35), .ref (u 36), .ref (u 37), .int 0].set 3 (.int 1))))).set 35 ((u 34), .inl (cI, 120, .inl (upd (fun _ => 0) (0 : Int32).toNatClampNeg 10)))).set 36 ((u 35), .inl (cI, 120, .inl (upd (fun _ => 0) (0 : Int32).toNatClampNeg 0)))).set 37 ((u 36), .inl (cI, 120, .inl (upd (fun _ => 0) (0 : Int32).toNatClampNeg (-1))))) sz) := by
  refine aStart (lv := [(0, .ref o), (1, .int 5)]) (Qc := fun A => wQi (0) D (((((((xW o u cI cZ cJ).set 0 (o, .inr (8, ((xF u).set 9 (.int 0))))).set 32 ((u 31), .inl (cZ, 10, .inl (upd (upd (upd (upd (upd (upd (upd (upd (upd (upd (fun _ => 0) (0 : Int32).toNatClampNeg 0) (1 : Int32).toNatClampNeg 0) (2 : Int32).toNatClampNeg 0) (3 : Int32).toNatClampNeg 0) (4 : Int32).toNatClampNeg 0) (5 : Int32).toNatClampNeg 0) (6 : Int32).toNatClampNeg 0) (7 : Int32).toNatClampNeg 0) (8 : Int32).toNatClampNeg 0) (9 : Int32).toNatClampNeg 0)))).set 34 ((u 33), .inr (2, ([.ref (u 0), .ref (u 12), .ref (u 19), .int 0, .ref (u 34), .ref (u 35), .ref (u 36), .ref (u 37), .int 0].set 3 (.int 1))))).set 35 ((u 34), .inl (cI, 120, .inl (upd (fun _ => 0) (0 : Int32).toNatClampNeg 10)))).set 36 ((u 35), .inl (cI, 120, .inl (upd (fun _ => 0) (0 : Int32).toNatClampNeg 0)))).set 37 ((u 36), .inl (cI, 120, .inl (upd (fun _ => 0) (0 : Int32).toNatClampNeg (-1))))) A) (by decide) (Nat.le_of_ble_eq_true rfl) rfl ?_
  intro p e s m args below meth c ls A H S hr hlocks hnm hl hK hP hD hS hA hB
  have hx := S.1
  have hb := S.2.1
  refine lv_iload_n hx hb dX8_ofRun_0 rfl (lv_at hl 1 rfl) ?_
  refine lv_if_lt (tgt := 14) hx hb dX8_ofRun_1 (by decide) (fun c => absurd c (by decide)) (fun _ => ?_)
  refine lv_iload_n hx hb dX8_ofRun_4 rfl (lv_at hl 1 rfl) ?_
  refine lv_bipush (v := 10) hx hb dX8_ofRun_5 (by decide) ?_
  refine lv_icmp_gt (tgt := 14) hx hb dX8_ofRun_7 (by decide) (fun c => absurd c (by decide)) (fun _ => ?_)
  refine lv_iconst (v := 1) hx hb dX8_ofRun_10 (by decide) ?_
  refine lv_goto (tgt := 15) hx hb dX8_ofRun_11 (by decide) ?_
  refine aSv (As := [.int 1]) S (c_X8_needArgument_3 l D cI cZ cJ o u ra ga H.size) ms_X8_needArgument kw_4_4 rfl rfl ⟨Nat.le_of_ble_eq_true rfl, Nat.le_of_ble_eq_true rfl⟩ hP hD hK hS hA hB hl.1 (Nat.le_of_ble_eq_true rfl) ⟨Nat.le_of_ble_eq_true rfl, Nat.le_of_ble_eq_true rfl⟩ dX8_ofRun_15 (fun H locs hz hP hD hS => ?_)
  refine lv_iload_n hx hb dX8_ofRun_18 rfl (lv_at hl 1 rfl) ?_
  refine lv_bipush (v := 10) hx hb dX8_ofRun_19 (by decide) ?_
  refine lv_icmp_ne (tgt := 31) hx hb dX8_ofRun_21 (by decide) (fun _ => ?_) (fun c => absurd c (by decide))
  refine lv_aload_n hx hb dX8_ofRun_31 rfl (lv_at hl 0 rfl) ?_
  refine xg (ci := 8) S inX8 rfl hK hP (q0 := 0) rfl 7 (by decide) rfl kw_3_27 rfl dX8_ofRun_32 ?_
  refine lv_iload_n hx hb dX8_ofRun_35 rfl (lv_at hl 1 rfl) ?_
  refine rdV (As := [.int 5]) (ci := 6) S (c_X6_answer_15 l D cI cZ cJ o u) mi_X6_answer kw_4_235 ⟨rfl, rfl⟩ ⟨Nat.le_of_ble_eq_true rfl, Nat.le_of_ble_eq_true rfl⟩ hP hK (k := 80) rfl rfl rfl hl.1 (Nat.le_of_ble_eq_true rfl) ⟨Nat.le_of_ble_eq_true rfl, Nat.le_of_ble_eq_true rfl⟩ dX8_ofRun_36 ?_
  exact wEnd S hr hlocks hP hD hS (Nat.le_of_ble_eq_true rfl) (Nat.le_of_ble_eq_true rfl) dX8_ofRun_39 rfl

set_option maxHeartbeats 8000000 in
set_option maxRecDepth 100000 in
theorem c_X6_answer_16 (l : Launch) (D : va_G) (cI cZ cJ : ClassId) (o : Nat) (u : Nat → Nat) : Met l yX6_answer (uW yX6_answer cX6_answer 2 (some .int)) ({ frames := 0, cells := 0, slots := 0, locals := 0 }) (va_Pc [.ref (u 79), .int 6] (pS D (tyL cI cZ cJ) (((((((xW o u cI cZ cJ).set 0 (o, .inr (8, ((xF u).set 9 (.int 0))))).set 32 ((u 31), .inl (cZ, 10, .inl (upd (upd (upd (upd (upd (upd (upd (upd (upd (upd (fun _ => 0) (0 : Int32).toNatClampNeg 0) (1 : Int32).toNatClampNeg 0) (2 : Int32).toNatClampNeg 0) (3 : Int32).toNatClampNeg 0) (4 : Int32).toNatClampNeg 0) (5 : Int32).toNatClampNeg 0) (6 : Int32).toNatClampNeg 0) (7 : Int32).toNatClampNeg 0) (8 : Int32).toNatClampNeg 0) (9 : Int32).toNatClampNeg 0)))).set 34 ((u 33), .inr (2, ([.ref (u 0), .ref (u 12), .ref (u 19), .int 0, .ref (u 34), .ref (u 35), .ref (u 36), .ref (u 37), .int 0].set 3 (.int 1))))).set 35 ((u 34), .inl (cI, 120, .inl (upd (fun _ => 0) (0 : Int32).toNatClampNeg 10)))).set 36 ((u 35), .inl (cI, 120, .inl (upd (fun _ => 0) (0 : Int32).toNatClampNeg 0)))).set 37 ((u 36), .inl (cI, 120, .inl (upd (fun _ => 0) (0 : Int32).toNatClampNeg (-1))))))) (QcRead (0)) 0 0 (fun _ => False) := by
  refine rdStart (lv := [(0, .ref (u 79)), (1, .int 6)]) (by decide) (Nat.le_of_ble_eq_true rfl) rfl ?_
  intro p e s m args below meth c ls S hr hlocks hl hP hK
  have hx := S.1
  have hb := S.2.1
  refine lv_iload_n hx hb dX6_answer_0 rfl (lv_at hl 1 rfl) ?_
  refine lv_tableIn (off := 81) (tgt := 82) hx hb dX6_answer_1 (by decide) (by decide) (by decide) (by decide) ?_
  refine lv_aload_n hx hb dX6_answer_82 rfl (lv_at hl 0 rfl) ?_
  refine xg (ci := 6) S inX6 rfl hK hP (q0 := 80) rfl 6 (by decide) rfl kw_2_159 rfl dX6_answer_83 ?_
  exact rdEnd S hr hlocks dX6_answer_86 rfl

set_option maxHeartbeats 8000000 in
set_option maxRecDepth 100000 in
theorem c_X8_ofRun_9 (l : Launch) (D : va_G) (cI cZ cJ : ClassId) (o : Nat) (u : Nat → Nat) (ra ga : Nat → Nat) (sz : Nat) : Met l yX8_ofRun (uW yX8_ofRun cX8_ofRun 2 (some .int)) ({ frames := 1, cells := 0, slots := 0, locals := 21 }) (va_Pc [.ref o, .int 6] (aS ra ga D (tyL cI cZ cJ) (((((((xW o u cI cZ cJ).set 0 (o, .inr (8, ((xF u).set 9 (.int 0))))).set 32 ((u 31), .inl (cZ, 10, .inl (upd (upd (upd (upd (upd (upd (upd (upd (upd (upd (fun _ => 0) (0 : Int32).toNatClampNeg 0) (1 : Int32).toNatClampNeg 0) (2 : Int32).toNatClampNeg 0) (3 : Int32).toNatClampNeg 0) (4 : Int32).toNatClampNeg 0) (5 : Int32).toNatClampNeg 0) (6 : Int32).toNatClampNeg 0) (7 : Int32).toNatClampNeg 0) (8 : Int32).toNatClampNeg 0) (9 : Int32).toNatClampNeg 0)))).set 34 ((u 33), .inr (2, ([.ref (u 0), .ref (u 12), .ref (u 19), .int 0, .ref (u 34), .ref (u 35), .ref (u 36), .ref (u 37), .int 0].set 3 (.int 1))))).set 35 ((u 34), .inl (cI, 120, .inl (upd (fun _ => 0) (0 : Int32).toNatClampNeg 10)))).set 36 ((u 35), .inl (cI, 120, .inl (upd (fun _ => 0) (0 : Int32).toNatClampNeg 0)))).set 37 ((u 36), .inl (cI, 120, .inl (upd (fun _ => 0) (0 : Int32).toNatClampNeg (-1))))) sz)) (wQi (0) D (((((((xW o u cI cZ cJ).set 0 (o, .inr (8, ((xF u).set 9 (.int 0))))).set 32 ((u 31), .inl (cZ, 10, .inl (upd (upd (upd (upd (upd (upd (upd (upd (upd (upd (fun _ => 0) (0 : Int32).toNatClampNeg 0) (1 : Int32).toNatClampNeg 0) (2 : Int32).toNatClampNeg 0) (3 : Int32).toNatClampNeg 0) (4 : Int32).toNatClampNeg 0) (5 : Int32).toNatClampNeg 0) (6 : Int32).toNatClampNeg 0) (7 : Int32).toNatClampNeg 0) (8 : Int32).toNatClampNeg 0) (9 : Int32).toNatClampNeg 0)))).set 34 ((u 33), .inr (2, ([.ref (u 0), .ref (u 12), .ref (u 19), .int 0, .ref (u 34), .ref (u 35), .ref (u 36), .ref (u 37), .int 0].set 3 (.int 1))))).set 35 ((u 34), .inl (cI, 120, .inl (upd (fun _ => 0) (0 : Int32).toNatClampNeg 10)))).set 36 ((u 35), .inl (cI, 120, .inl (upd (fun _ => 0) (0 : Int32).toNatClampNeg 0)))).set 37 ((u 36), .inl (cI, 120, .inl (upd (fun _ => 0) (0 : Int32).toNatClampNeg (-1))))) (va_A (((((((xW o u cI cZ cJ).set 0 (o, .inr (8, ((xF u).set 9 (.int 0))))).set 32 ((u 31), .inl (cZ, 10, .inl (upd (upd (upd (upd (upd (upd (upd (upd (upd (upd (fun _ => 0) (0 : Int32).toNatClampNeg 0) (1 : Int32).toNatClampNeg 0) (2 : Int32).toNatClampNeg 0) (3 : Int32).toNatClampNeg 0) (4 : Int32).toNatClampNeg 0) (5 : Int32).toNatClampNeg 0) (6 : Int32).toNatClampNeg 0) (7 : Int32).toNatClampNeg 0) (8 : Int32).toNatClampNeg 0) (9 : Int32).toNatClampNeg 0)))).set 34 ((u 33), .inr (2, ([.ref (u 0), .ref (u 12), .ref (u 19), .int 0, .ref (u 34), .ref (u 35), .ref (u 36), .ref (u 37), .int 0].set 3 (.int 1))))).set 35 ((u 34), .inl (cI, 120, .inl (upd (fun _ => 0) (0 : Int32).toNatClampNeg 10)))).set 36 ((u 35), .inl (cI, 120, .inl (upd (fun _ => 0) (0 : Int32).toNatClampNeg 0)))).set 37 ((u 36), .inl (cI, 120, .inl (upd (fun _ => 0) (0 : Int32).toNatClampNeg (-1))))) sz)) 0 0 (va_A (((((((xW o u cI cZ cJ).set 0 (o, .inr (8, ((xF u).set 9 (.int 0))))).set 32 ((u 31), .inl (cZ, 10, .inl (upd (upd (upd (upd (upd (upd (upd (upd (upd (upd (fun _ => 0) (0 : Int32).toNatClampNeg 0) (1 : Int32).toNatClampNeg 0) (2 : Int32).toNatClampNeg 0) (3 : Int32).toNatClampNeg 0) (4 : Int32).toNatClampNeg 0) (5 : Int32).toNatClampNeg 0) (6 : Int32).toNatClampNeg 0) (7 : Int32).toNatClampNeg 0) (8 : Int32).toNatClampNeg 0) (9 : Int32).toNatClampNeg 0)))).set 34 ((u 33), .inr (2, ([.ref (u 0), .ref (u 12), .ref (u 19), .int 0, .ref (u 34), .ref (u 35), .ref (u 36), .ref (u 37), .int 0].set 3 (.int 1))))).set 35 ((u 34), .inl (cI, 120, .inl (upd (fun _ => 0) (0 : Int32).toNatClampNeg 10)))).set 36 ((u 35), .inl (cI, 120, .inl (upd (fun _ => 0) (0 : Int32).toNatClampNeg 0)))).set 37 ((u 36), .inl (cI, 120, .inl (upd (fun _ => 0) (0 : Int32).toNatClampNeg (-1))))) sz) := by
  refine aStart (lv := [(0, .ref o), (1, .int 6)]) (Qc := fun A => wQi (0) D (((((((xW o u cI cZ cJ).set 0 (o, .inr (8, ((xF u).set 9 (.int 0))))).set 32 ((u 31), .inl (cZ, 10, .inl (upd (upd (upd (upd (upd (upd (upd (upd (upd (upd (fun _ => 0) (0 : Int32).toNatClampNeg 0) (1 : Int32).toNatClampNeg 0) (2 : Int32).toNatClampNeg 0) (3 : Int32).toNatClampNeg 0) (4 : Int32).toNatClampNeg 0) (5 : Int32).toNatClampNeg 0) (6 : Int32).toNatClampNeg 0) (7 : Int32).toNatClampNeg 0) (8 : Int32).toNatClampNeg 0) (9 : Int32).toNatClampNeg 0)))).set 34 ((u 33), .inr (2, ([.ref (u 0), .ref (u 12), .ref (u 19), .int 0, .ref (u 34), .ref (u 35), .ref (u 36), .ref (u 37), .int 0].set 3 (.int 1))))).set 35 ((u 34), .inl (cI, 120, .inl (upd (fun _ => 0) (0 : Int32).toNatClampNeg 10)))).set 36 ((u 35), .inl (cI, 120, .inl (upd (fun _ => 0) (0 : Int32).toNatClampNeg 0)))).set 37 ((u 36), .inl (cI, 120, .inl (upd (fun _ => 0) (0 : Int32).toNatClampNeg (-1))))) A) (by decide) (Nat.le_of_ble_eq_true rfl) rfl ?_
  intro p e s m args below meth c ls A H S hr hlocks hnm hl hK hP hD hS hA hB
  have hx := S.1
  have hb := S.2.1
  refine lv_iload_n hx hb dX8_ofRun_0 rfl (lv_at hl 1 rfl) ?_
  refine lv_if_lt (tgt := 14) hx hb dX8_ofRun_1 (by decide) (fun c => absurd c (by decide)) (fun _ => ?_)
  refine lv_iload_n hx hb dX8_ofRun_4 rfl (lv_at hl 1 rfl) ?_
  refine lv_bipush (v := 10) hx hb dX8_ofRun_5 (by decide) ?_
  refine lv_icmp_gt (tgt := 14) hx hb dX8_ofRun_7 (by decide) (fun c => absurd c (by decide)) (fun _ => ?_)
  refine lv_iconst (v := 1) hx hb dX8_ofRun_10 (by decide) ?_
  refine lv_goto (tgt := 15) hx hb dX8_ofRun_11 (by decide) ?_
  refine aSv (As := [.int 1]) S (c_X8_needArgument_3 l D cI cZ cJ o u ra ga H.size) ms_X8_needArgument kw_4_4 rfl rfl ⟨Nat.le_of_ble_eq_true rfl, Nat.le_of_ble_eq_true rfl⟩ hP hD hK hS hA hB hl.1 (Nat.le_of_ble_eq_true rfl) ⟨Nat.le_of_ble_eq_true rfl, Nat.le_of_ble_eq_true rfl⟩ dX8_ofRun_15 (fun H locs hz hP hD hS => ?_)
  refine lv_iload_n hx hb dX8_ofRun_18 rfl (lv_at hl 1 rfl) ?_
  refine lv_bipush (v := 10) hx hb dX8_ofRun_19 (by decide) ?_
  refine lv_icmp_ne (tgt := 31) hx hb dX8_ofRun_21 (by decide) (fun _ => ?_) (fun c => absurd c (by decide))
  refine lv_aload_n hx hb dX8_ofRun_31 rfl (lv_at hl 0 rfl) ?_
  refine xg (ci := 8) S inX8 rfl hK hP (q0 := 0) rfl 7 (by decide) rfl kw_3_27 rfl dX8_ofRun_32 ?_
  refine lv_iload_n hx hb dX8_ofRun_35 rfl (lv_at hl 1 rfl) ?_
  refine rdV (As := [.int 6]) (ci := 6) S (c_X6_answer_16 l D cI cZ cJ o u) mi_X6_answer kw_4_235 ⟨rfl, rfl⟩ ⟨Nat.le_of_ble_eq_true rfl, Nat.le_of_ble_eq_true rfl⟩ hP hK (k := 80) rfl rfl rfl hl.1 (Nat.le_of_ble_eq_true rfl) ⟨Nat.le_of_ble_eq_true rfl, Nat.le_of_ble_eq_true rfl⟩ dX8_ofRun_36 ?_
  exact wEnd S hr hlocks hP hD hS (Nat.le_of_ble_eq_true rfl) (Nat.le_of_ble_eq_true rfl) dX8_ofRun_39 rfl

set_option maxHeartbeats 8000000 in
set_option maxRecDepth 100000 in
theorem c_X6_answer_17 (l : Launch) (D : va_G) (cI cZ cJ : ClassId) (o : Nat) (u : Nat → Nat) : Met l yX6_answer (uW yX6_answer cX6_answer 2 (some .int)) ({ frames := 0, cells := 0, slots := 0, locals := 0 }) (va_Pc [.ref (u 79), .int 7] (pS D (tyL cI cZ cJ) (((((((xW o u cI cZ cJ).set 0 (o, .inr (8, ((xF u).set 9 (.int 0))))).set 32 ((u 31), .inl (cZ, 10, .inl (upd (upd (upd (upd (upd (upd (upd (upd (upd (upd (fun _ => 0) (0 : Int32).toNatClampNeg 0) (1 : Int32).toNatClampNeg 0) (2 : Int32).toNatClampNeg 0) (3 : Int32).toNatClampNeg 0) (4 : Int32).toNatClampNeg 0) (5 : Int32).toNatClampNeg 0) (6 : Int32).toNatClampNeg 0) (7 : Int32).toNatClampNeg 0) (8 : Int32).toNatClampNeg 0) (9 : Int32).toNatClampNeg 0)))).set 34 ((u 33), .inr (2, ([.ref (u 0), .ref (u 12), .ref (u 19), .int 0, .ref (u 34), .ref (u 35), .ref (u 36), .ref (u 37), .int 0].set 3 (.int 1))))).set 35 ((u 34), .inl (cI, 120, .inl (upd (fun _ => 0) (0 : Int32).toNatClampNeg 10)))).set 36 ((u 35), .inl (cI, 120, .inl (upd (fun _ => 0) (0 : Int32).toNatClampNeg 0)))).set 37 ((u 36), .inl (cI, 120, .inl (upd (fun _ => 0) (0 : Int32).toNatClampNeg (-1))))))) (QcRead (0)) 0 0 (fun _ => False) := by
  refine rdStart (lv := [(0, .ref (u 79)), (1, .int 7)]) (by decide) (Nat.le_of_ble_eq_true rfl) rfl ?_
  intro p e s m args below meth c ls S hr hlocks hl hP hK
  have hx := S.1
  have hb := S.2.1
  refine lv_iload_n hx hb dX6_answer_0 rfl (lv_at hl 1 rfl) ?_
  refine lv_tableIn (off := 86) (tgt := 87) hx hb dX6_answer_1 (by decide) (by decide) (by decide) (by decide) ?_
  refine lv_aload_n hx hb dX6_answer_87 rfl (lv_at hl 0 rfl) ?_
  refine xg (ci := 6) S inX6 rfl hK hP (q0 := 80) rfl 7 (by decide) rfl kw_2_162 rfl dX6_answer_88 ?_
  exact rdEnd S hr hlocks dX6_answer_91 rfl

set_option maxHeartbeats 8000000 in
set_option maxRecDepth 100000 in
theorem c_X8_ofRun_10 (l : Launch) (D : va_G) (cI cZ cJ : ClassId) (o : Nat) (u : Nat → Nat) (ra ga : Nat → Nat) (sz : Nat) : Met l yX8_ofRun (uW yX8_ofRun cX8_ofRun 2 (some .int)) ({ frames := 1, cells := 0, slots := 0, locals := 21 }) (va_Pc [.ref o, .int 7] (aS ra ga D (tyL cI cZ cJ) (((((((xW o u cI cZ cJ).set 0 (o, .inr (8, ((xF u).set 9 (.int 0))))).set 32 ((u 31), .inl (cZ, 10, .inl (upd (upd (upd (upd (upd (upd (upd (upd (upd (upd (fun _ => 0) (0 : Int32).toNatClampNeg 0) (1 : Int32).toNatClampNeg 0) (2 : Int32).toNatClampNeg 0) (3 : Int32).toNatClampNeg 0) (4 : Int32).toNatClampNeg 0) (5 : Int32).toNatClampNeg 0) (6 : Int32).toNatClampNeg 0) (7 : Int32).toNatClampNeg 0) (8 : Int32).toNatClampNeg 0) (9 : Int32).toNatClampNeg 0)))).set 34 ((u 33), .inr (2, ([.ref (u 0), .ref (u 12), .ref (u 19), .int 0, .ref (u 34), .ref (u 35), .ref (u 36), .ref (u 37), .int 0].set 3 (.int 1))))).set 35 ((u 34), .inl (cI, 120, .inl (upd (fun _ => 0) (0 : Int32).toNatClampNeg 10)))).set 36 ((u 35), .inl (cI, 120, .inl (upd (fun _ => 0) (0 : Int32).toNatClampNeg 0)))).set 37 ((u 36), .inl (cI, 120, .inl (upd (fun _ => 0) (0 : Int32).toNatClampNeg (-1))))) sz)) (wQi (0) D (((((((xW o u cI cZ cJ).set 0 (o, .inr (8, ((xF u).set 9 (.int 0))))).set 32 ((u 31), .inl (cZ, 10, .inl (upd (upd (upd (upd (upd (upd (upd (upd (upd (upd (fun _ => 0) (0 : Int32).toNatClampNeg 0) (1 : Int32).toNatClampNeg 0) (2 : Int32).toNatClampNeg 0) (3 : Int32).toNatClampNeg 0) (4 : Int32).toNatClampNeg 0) (5 : Int32).toNatClampNeg 0) (6 : Int32).toNatClampNeg 0) (7 : Int32).toNatClampNeg 0) (8 : Int32).toNatClampNeg 0) (9 : Int32).toNatClampNeg 0)))).set 34 ((u 33), .inr (2, ([.ref (u 0), .ref (u 12), .ref (u 19), .int 0, .ref (u 34), .ref (u 35), .ref (u 36), .ref (u 37), .int 0].set 3 (.int 1))))).set 35 ((u 34), .inl (cI, 120, .inl (upd (fun _ => 0) (0 : Int32).toNatClampNeg 10)))).set 36 ((u 35), .inl (cI, 120, .inl (upd (fun _ => 0) (0 : Int32).toNatClampNeg 0)))).set 37 ((u 36), .inl (cI, 120, .inl (upd (fun _ => 0) (0 : Int32).toNatClampNeg (-1))))) (va_A (((((((xW o u cI cZ cJ).set 0 (o, .inr (8, ((xF u).set 9 (.int 0))))).set 32 ((u 31), .inl (cZ, 10, .inl (upd (upd (upd (upd (upd (upd (upd (upd (upd (upd (fun _ => 0) (0 : Int32).toNatClampNeg 0) (1 : Int32).toNatClampNeg 0) (2 : Int32).toNatClampNeg 0) (3 : Int32).toNatClampNeg 0) (4 : Int32).toNatClampNeg 0) (5 : Int32).toNatClampNeg 0) (6 : Int32).toNatClampNeg 0) (7 : Int32).toNatClampNeg 0) (8 : Int32).toNatClampNeg 0) (9 : Int32).toNatClampNeg 0)))).set 34 ((u 33), .inr (2, ([.ref (u 0), .ref (u 12), .ref (u 19), .int 0, .ref (u 34), .ref (u 35), .ref (u 36), .ref (u 37), .int 0].set 3 (.int 1))))).set 35 ((u 34), .inl (cI, 120, .inl (upd (fun _ => 0) (0 : Int32).toNatClampNeg 10)))).set 36 ((u 35), .inl (cI, 120, .inl (upd (fun _ => 0) (0 : Int32).toNatClampNeg 0)))).set 37 ((u 36), .inl (cI, 120, .inl (upd (fun _ => 0) (0 : Int32).toNatClampNeg (-1))))) sz)) 0 0 (va_A (((((((xW o u cI cZ cJ).set 0 (o, .inr (8, ((xF u).set 9 (.int 0))))).set 32 ((u 31), .inl (cZ, 10, .inl (upd (upd (upd (upd (upd (upd (upd (upd (upd (upd (fun _ => 0) (0 : Int32).toNatClampNeg 0) (1 : Int32).toNatClampNeg 0) (2 : Int32).toNatClampNeg 0) (3 : Int32).toNatClampNeg 0) (4 : Int32).toNatClampNeg 0) (5 : Int32).toNatClampNeg 0) (6 : Int32).toNatClampNeg 0) (7 : Int32).toNatClampNeg 0) (8 : Int32).toNatClampNeg 0) (9 : Int32).toNatClampNeg 0)))).set 34 ((u 33), .inr (2, ([.ref (u 0), .ref (u 12), .ref (u 19), .int 0, .ref (u 34), .ref (u 35), .ref (u 36), .ref (u 37), .int 0].set 3 (.int 1))))).set 35 ((u 34), .inl (cI, 120, .inl (upd (fun _ => 0) (0 : Int32).toNatClampNeg 10)))).set 36 ((u 35), .inl (cI, 120, .inl (upd (fun _ => 0) (0 : Int32).toNatClampNeg 0)))).set 37 ((u 36), .inl (cI, 120, .inl (upd (fun _ => 0) (0 : Int32).toNatClampNeg (-1))))) sz) := by
  refine aStart (lv := [(0, .ref o), (1, .int 7)]) (Qc := fun A => wQi (0) D (((((((xW o u cI cZ cJ).set 0 (o, .inr (8, ((xF u).set 9 (.int 0))))).set 32 ((u 31), .inl (cZ, 10, .inl (upd (upd (upd (upd (upd (upd (upd (upd (upd (upd (fun _ => 0) (0 : Int32).toNatClampNeg 0) (1 : Int32).toNatClampNeg 0) (2 : Int32).toNatClampNeg 0) (3 : Int32).toNatClampNeg 0) (4 : Int32).toNatClampNeg 0) (5 : Int32).toNatClampNeg 0) (6 : Int32).toNatClampNeg 0) (7 : Int32).toNatClampNeg 0) (8 : Int32).toNatClampNeg 0) (9 : Int32).toNatClampNeg 0)))).set 34 ((u 33), .inr (2, ([.ref (u 0), .ref (u 12), .ref (u 19), .int 0, .ref (u 34), .ref (u 35), .ref (u 36), .ref (u 37), .int 0].set 3 (.int 1))))).set 35 ((u 34), .inl (cI, 120, .inl (upd (fun _ => 0) (0 : Int32).toNatClampNeg 10)))).set 36 ((u 35), .inl (cI, 120, .inl (upd (fun _ => 0) (0 : Int32).toNatClampNeg 0)))).set 37 ((u 36), .inl (cI, 120, .inl (upd (fun _ => 0) (0 : Int32).toNatClampNeg (-1))))) A) (by decide) (Nat.le_of_ble_eq_true rfl) rfl ?_
  intro p e s m args below meth c ls A H S hr hlocks hnm hl hK hP hD hS hA hB
  have hx := S.1
  have hb := S.2.1
  refine lv_iload_n hx hb dX8_ofRun_0 rfl (lv_at hl 1 rfl) ?_
  refine lv_if_lt (tgt := 14) hx hb dX8_ofRun_1 (by decide) (fun c => absurd c (by decide)) (fun _ => ?_)
  refine lv_iload_n hx hb dX8_ofRun_4 rfl (lv_at hl 1 rfl) ?_
  refine lv_bipush (v := 10) hx hb dX8_ofRun_5 (by decide) ?_
  refine lv_icmp_gt (tgt := 14) hx hb dX8_ofRun_7 (by decide) (fun c => absurd c (by decide)) (fun _ => ?_)
  refine lv_iconst (v := 1) hx hb dX8_ofRun_10 (by decide) ?_
  refine lv_goto (tgt := 15) hx hb dX8_ofRun_11 (by decide) ?_
  refine aSv (As := [.int 1]) S (c_X8_needArgument_3 l D cI cZ cJ o u ra ga H.size) ms_X8_needArgument kw_4_4 rfl rfl ⟨Nat.le_of_ble_eq_true rfl, Nat.le_of_ble_eq_true rfl⟩ hP hD hK hS hA hB hl.1 (Nat.le_of_ble_eq_true rfl) ⟨Nat.le_of_ble_eq_true rfl, Nat.le_of_ble_eq_true rfl⟩ dX8_ofRun_15 (fun H locs hz hP hD hS => ?_)
  refine lv_iload_n hx hb dX8_ofRun_18 rfl (lv_at hl 1 rfl) ?_
  refine lv_bipush (v := 10) hx hb dX8_ofRun_19 (by decide) ?_
  refine lv_icmp_ne (tgt := 31) hx hb dX8_ofRun_21 (by decide) (fun _ => ?_) (fun c => absurd c (by decide))
  refine lv_aload_n hx hb dX8_ofRun_31 rfl (lv_at hl 0 rfl) ?_
  refine xg (ci := 8) S inX8 rfl hK hP (q0 := 0) rfl 7 (by decide) rfl kw_3_27 rfl dX8_ofRun_32 ?_
  refine lv_iload_n hx hb dX8_ofRun_35 rfl (lv_at hl 1 rfl) ?_
  refine rdV (As := [.int 7]) (ci := 6) S (c_X6_answer_17 l D cI cZ cJ o u) mi_X6_answer kw_4_235 ⟨rfl, rfl⟩ ⟨Nat.le_of_ble_eq_true rfl, Nat.le_of_ble_eq_true rfl⟩ hP hK (k := 80) rfl rfl rfl hl.1 (Nat.le_of_ble_eq_true rfl) ⟨Nat.le_of_ble_eq_true rfl, Nat.le_of_ble_eq_true rfl⟩ dX8_ofRun_36 ?_
  exact wEnd S hr hlocks hP hD hS (Nat.le_of_ble_eq_true rfl) (Nat.le_of_ble_eq_true rfl) dX8_ofRun_39 rfl

set_option maxHeartbeats 8000000 in
set_option maxRecDepth 100000 in
theorem c_X6_answer_18 (l : Launch) (D : va_G) (cI cZ cJ : ClassId) (o : Nat) (u : Nat → Nat) : Met l yX6_answer (uW yX6_answer cX6_answer 2 (some .int)) ({ frames := 0, cells := 0, slots := 0, locals := 0 }) (va_Pc [.ref (u 79), .int 8] (pS D (tyL cI cZ cJ) (((((((xW o u cI cZ cJ).set 0 (o, .inr (8, ((xF u).set 9 (.int 0))))).set 32 ((u 31), .inl (cZ, 10, .inl (upd (upd (upd (upd (upd (upd (upd (upd (upd (upd (fun _ => 0) (0 : Int32).toNatClampNeg 0) (1 : Int32).toNatClampNeg 0) (2 : Int32).toNatClampNeg 0) (3 : Int32).toNatClampNeg 0) (4 : Int32).toNatClampNeg 0) (5 : Int32).toNatClampNeg 0) (6 : Int32).toNatClampNeg 0) (7 : Int32).toNatClampNeg 0) (8 : Int32).toNatClampNeg 0) (9 : Int32).toNatClampNeg 0)))).set 34 ((u 33), .inr (2, ([.ref (u 0), .ref (u 12), .ref (u 19), .int 0, .ref (u 34), .ref (u 35), .ref (u 36), .ref (u 37), .int 0].set 3 (.int 1))))).set 35 ((u 34), .inl (cI, 120, .inl (upd (fun _ => 0) (0 : Int32).toNatClampNeg 10)))).set 36 ((u 35), .inl (cI, 120, .inl (upd (fun _ => 0) (0 : Int32).toNatClampNeg 0)))).set 37 ((u 36), .inl (cI, 120, .inl (upd (fun _ => 0) (0 : Int32).toNatClampNeg (-1))))))) (QcRead (0)) 0 0 (fun _ => False) := by
  refine rdStart (lv := [(0, .ref (u 79)), (1, .int 8)]) (by decide) (Nat.le_of_ble_eq_true rfl) rfl ?_
  intro p e s m args below meth c ls S hr hlocks hl hP hK
  have hx := S.1
  have hb := S.2.1
  refine lv_iload_n hx hb dX6_answer_0 rfl (lv_at hl 1 rfl) ?_
  refine lv_tableIn (off := 91) (tgt := 92) hx hb dX6_answer_1 (by decide) (by decide) (by decide) (by decide) ?_
  refine lv_aload_n hx hb dX6_answer_92 rfl (lv_at hl 0 rfl) ?_
  refine xg (ci := 6) S inX6 rfl hK hP (q0 := 80) rfl 8 (by decide) rfl kw_2_165 rfl dX6_answer_93 ?_
  exact rdEnd S hr hlocks dX6_answer_96 rfl

set_option maxHeartbeats 8000000 in
set_option maxRecDepth 100000 in
theorem c_X8_ofRun_11 (l : Launch) (D : va_G) (cI cZ cJ : ClassId) (o : Nat) (u : Nat → Nat) (ra ga : Nat → Nat) (sz : Nat) : Met l yX8_ofRun (uW yX8_ofRun cX8_ofRun 2 (some .int)) ({ frames := 1, cells := 0, slots := 0, locals := 21 }) (va_Pc [.ref o, .int 8] (aS ra ga D (tyL cI cZ cJ) (((((((xW o u cI cZ cJ).set 0 (o, .inr (8, ((xF u).set 9 (.int 0))))).set 32 ((u 31), .inl (cZ, 10, .inl (upd (upd (upd (upd (upd (upd (upd (upd (upd (upd (fun _ => 0) (0 : Int32).toNatClampNeg 0) (1 : Int32).toNatClampNeg 0) (2 : Int32).toNatClampNeg 0) (3 : Int32).toNatClampNeg 0) (4 : Int32).toNatClampNeg 0) (5 : Int32).toNatClampNeg 0) (6 : Int32).toNatClampNeg 0) (7 : Int32).toNatClampNeg 0) (8 : Int32).toNatClampNeg 0) (9 : Int32).toNatClampNeg 0)))).set 34 ((u 33), .inr (2, ([.ref (u 0), .ref (u 12), .ref (u 19), .int 0, .ref (u 34), .ref (u 35), .ref (u 36), .ref (u 37), .int 0].set 3 (.int 1))))).set 35 ((u 34), .inl (cI, 120, .inl (upd (fun _ => 0) (0 : Int32).toNatClampNeg 10)))).set 36 ((u 35), .inl (cI, 120, .inl (upd (fun _ => 0) (0 : Int32).toNatClampNeg 0)))).set 37 ((u 36), .inl (cI, 120, .inl (upd (fun _ => 0) (0 : Int32).toNatClampNeg (-1))))) sz)) (wQi (0) D (((((((xW o u cI cZ cJ).set 0 (o, .inr (8, ((xF u).set 9 (.int 0))))).set 32 ((u 31), .inl (cZ, 10, .inl (upd (upd (upd (upd (upd (upd (upd (upd (upd (upd (fun _ => 0) (0 : Int32).toNatClampNeg 0) (1 : Int32).toNatClampNeg 0) (2 : Int32).toNatClampNeg 0) (3 : Int32).toNatClampNeg 0) (4 : Int32).toNatClampNeg 0) (5 : Int32).toNatClampNeg 0) (6 : Int32).toNatClampNeg 0) (7 : Int32).toNatClampNeg 0) (8 : Int32).toNatClampNeg 0) (9 : Int32).toNatClampNeg 0)))).set 34 ((u 33), .inr (2, ([.ref (u 0), .ref (u 12), .ref (u 19), .int 0, .ref (u 34), .ref (u 35), .ref (u 36), .ref (u 37), .int 0].set 3 (.int 1))))).set 35 ((u 34), .inl (cI, 120, .inl (upd (fun _ => 0) (0 : Int32).toNatClampNeg 10)))).set 36 ((u 35), .inl (cI, 120, .inl (upd (fun _ => 0) (0 : Int32).toNatClampNeg 0)))).set 37 ((u 36), .inl (cI, 120, .inl (upd (fun _ => 0) (0 : Int32).toNatClampNeg (-1))))) (va_A (((((((xW o u cI cZ cJ).set 0 (o, .inr (8, ((xF u).set 9 (.int 0))))).set 32 ((u 31), .inl (cZ, 10, .inl (upd (upd (upd (upd (upd (upd (upd (upd (upd (upd (fun _ => 0) (0 : Int32).toNatClampNeg 0) (1 : Int32).toNatClampNeg 0) (2 : Int32).toNatClampNeg 0) (3 : Int32).toNatClampNeg 0) (4 : Int32).toNatClampNeg 0) (5 : Int32).toNatClampNeg 0) (6 : Int32).toNatClampNeg 0) (7 : Int32).toNatClampNeg 0) (8 : Int32).toNatClampNeg 0) (9 : Int32).toNatClampNeg 0)))).set 34 ((u 33), .inr (2, ([.ref (u 0), .ref (u 12), .ref (u 19), .int 0, .ref (u 34), .ref (u 35), .ref (u 36), .ref (u 37), .int 0].set 3 (.int 1))))).set 35 ((u 34), .inl (cI, 120, .inl (upd (fun _ => 0) (0 : Int32).toNatClampNeg 10)))).set 36 ((u 35), .inl (cI, 120, .inl (upd (fun _ => 0) (0 : Int32).toNatClampNeg 0)))).set 37 ((u 36), .inl (cI, 120, .inl (upd (fun _ => 0) (0 : Int32).toNatClampNeg (-1))))) sz)) 0 0 (va_A (((((((xW o u cI cZ cJ).set 0 (o, .inr (8, ((xF u).set 9 (.int 0))))).set 32 ((u 31), .inl (cZ, 10, .inl (upd (upd (upd (upd (upd (upd (upd (upd (upd (upd (fun _ => 0) (0 : Int32).toNatClampNeg 0) (1 : Int32).toNatClampNeg 0) (2 : Int32).toNatClampNeg 0) (3 : Int32).toNatClampNeg 0) (4 : Int32).toNatClampNeg 0) (5 : Int32).toNatClampNeg 0) (6 : Int32).toNatClampNeg 0) (7 : Int32).toNatClampNeg 0) (8 : Int32).toNatClampNeg 0) (9 : Int32).toNatClampNeg 0)))).set 34 ((u 33), .inr (2, ([.ref (u 0), .ref (u 12), .ref (u 19), .int 0, .ref (u 34), .ref (u 35), .ref (u 36), .ref (u 37), .int 0].set 3 (.int 1))))).set 35 ((u 34), .inl (cI, 120, .inl (upd (fun _ => 0) (0 : Int32).toNatClampNeg 10)))).set 36 ((u 35), .inl (cI, 120, .inl (upd (fun _ => 0) (0 : Int32).toNatClampNeg 0)))).set 37 ((u 36), .inl (cI, 120, .inl (upd (fun _ => 0) (0 : Int32).toNatClampNeg (-1))))) sz) := by
  refine aStart (lv := [(0, .ref o), (1, .int 8)]) (Qc := fun A => wQi (0) D (((((((xW o u cI cZ cJ).set 0 (o, .inr (8, ((xF u).set 9 (.int 0))))).set 32 ((u 31), .inl (cZ, 10, .inl (upd (upd (upd (upd (upd (upd (upd (upd (upd (upd (fun _ => 0) (0 : Int32).toNatClampNeg 0) (1 : Int32).toNatClampNeg 0) (2 : Int32).toNatClampNeg 0) (3 : Int32).toNatClampNeg 0) (4 : Int32).toNatClampNeg 0) (5 : Int32).toNatClampNeg 0) (6 : Int32).toNatClampNeg 0) (7 : Int32).toNatClampNeg 0) (8 : Int32).toNatClampNeg 0) (9 : Int32).toNatClampNeg 0)))).set 34 ((u 33), .inr (2, ([.ref (u 0), .ref (u 12), .ref (u 19), .int 0, .ref (u 34), .ref (u 35), .ref (u 36), .ref (u 37), .int 0].set 3 (.int 1))))).set 35 ((u 34), .inl (cI, 120, .inl (upd (fun _ => 0) (0 : Int32).toNatClampNeg 10)))).set 36 ((u 35), .inl (cI, 120, .inl (upd (fun _ => 0) (0 : Int32).toNatClampNeg 0)))).set 37 ((u 36), .inl (cI, 120, .inl (upd (fun _ => 0) (0 : Int32).toNatClampNeg (-1))))) A) (by decide) (Nat.le_of_ble_eq_true rfl) rfl ?_
  intro p e s m args below meth c ls A H S hr hlocks hnm hl hK hP hD hS hA hB
  have hx := S.1
  have hb := S.2.1
  refine lv_iload_n hx hb dX8_ofRun_0 rfl (lv_at hl 1 rfl) ?_
  refine lv_if_lt (tgt := 14) hx hb dX8_ofRun_1 (by decide) (fun c => absurd c (by decide)) (fun _ => ?_)
  refine lv_iload_n hx hb dX8_ofRun_4 rfl (lv_at hl 1 rfl) ?_
  refine lv_bipush (v := 10) hx hb dX8_ofRun_5 (by decide) ?_
  refine lv_icmp_gt (tgt := 14) hx hb dX8_ofRun_7 (by decide) (fun c => absurd c (by decide)) (fun _ => ?_)
  refine lv_iconst (v := 1) hx hb dX8_ofRun_10 (by decide) ?_
  refine lv_goto (tgt := 15) hx hb dX8_ofRun_11 (by decide) ?_
  refine aSv (As := [.int 1]) S (c_X8_needArgument_3 l D cI cZ cJ o u ra ga H.size) ms_X8_needArgument kw_4_4 rfl rfl ⟨Nat.le_of_ble_eq_true rfl, Nat.le_of_ble_eq_true rfl⟩ hP hD hK hS hA hB hl.1 (Nat.le_of_ble_eq_true rfl) ⟨Nat.le_of_ble_eq_true rfl, Nat.le_of_ble_eq_true rfl⟩ dX8_ofRun_15 (fun H locs hz hP hD hS => ?_)
  refine lv_iload_n hx hb dX8_ofRun_18 rfl (lv_at hl 1 rfl) ?_
  refine lv_bipush (v := 10) hx hb dX8_ofRun_19 (by decide) ?_
  refine lv_icmp_ne (tgt := 31) hx hb dX8_ofRun_21 (by decide) (fun _ => ?_) (fun c => absurd c (by decide))
  refine lv_aload_n hx hb dX8_ofRun_31 rfl (lv_at hl 0 rfl) ?_
  refine xg (ci := 8) S inX8 rfl hK hP (q0 := 0) rfl 7 (by decide) rfl kw_3_27 rfl dX8_ofRun_32 ?_
  refine lv_iload_n hx hb dX8_ofRun_35 rfl (lv_at hl 1 rfl) ?_
  refine rdV (As := [.int 8]) (ci := 6) S (c_X6_answer_18 l D cI cZ cJ o u) mi_X6_answer kw_4_235 ⟨rfl, rfl⟩ ⟨Nat.le_of_ble_eq_true rfl, Nat.le_of_ble_eq_true rfl⟩ hP hK (k := 80) rfl rfl rfl hl.1 (Nat.le_of_ble_eq_true rfl) ⟨Nat.le_of_ble_eq_true rfl, Nat.le_of_ble_eq_true rfl⟩ dX8_ofRun_36 ?_
  exact wEnd S hr hlocks hP hD hS (Nat.le_of_ble_eq_true rfl) (Nat.le_of_ble_eq_true rfl) dX8_ofRun_39 rfl

set_option maxHeartbeats 8000000 in
set_option maxRecDepth 100000 in
theorem c_X6_answer_19 (l : Launch) (D : va_G) (cI cZ cJ : ClassId) (o : Nat) (u : Nat → Nat) : Met l yX6_answer (uW yX6_answer cX6_answer 2 (some .int)) ({ frames := 0, cells := 0, slots := 0, locals := 0 }) (va_Pc [.ref (u 79), .int 9] (pS D (tyL cI cZ cJ) (((((((xW o u cI cZ cJ).set 0 (o, .inr (8, ((xF u).set 9 (.int 0))))).set 32 ((u 31), .inl (cZ, 10, .inl (upd (upd (upd (upd (upd (upd (upd (upd (upd (upd (fun _ => 0) (0 : Int32).toNatClampNeg 0) (1 : Int32).toNatClampNeg 0) (2 : Int32).toNatClampNeg 0) (3 : Int32).toNatClampNeg 0) (4 : Int32).toNatClampNeg 0) (5 : Int32).toNatClampNeg 0) (6 : Int32).toNatClampNeg 0) (7 : Int32).toNatClampNeg 0) (8 : Int32).toNatClampNeg 0) (9 : Int32).toNatClampNeg 0)))).set 34 ((u 33), .inr (2, ([.ref (u 0), .ref (u 12), .ref (u 19), .int 0, .ref (u 34), .ref (u 35), .ref (u 36), .ref (u 37), .int 0].set 3 (.int 1))))).set 35 ((u 34), .inl (cI, 120, .inl (upd (fun _ => 0) (0 : Int32).toNatClampNeg 10)))).set 36 ((u 35), .inl (cI, 120, .inl (upd (fun _ => 0) (0 : Int32).toNatClampNeg 0)))).set 37 ((u 36), .inl (cI, 120, .inl (upd (fun _ => 0) (0 : Int32).toNatClampNeg (-1))))))) (QcRead (0)) 0 0 (fun _ => False) := by
  refine rdStart (lv := [(0, .ref (u 79)), (1, .int 9)]) (by decide) (Nat.le_of_ble_eq_true rfl) rfl ?_
  intro p e s m args below meth c ls S hr hlocks hl hP hK
  have hx := S.1
  have hb := S.2.1
  refine lv_iload_n hx hb dX6_answer_0 rfl (lv_at hl 1 rfl) ?_
  refine lv_tableOut (tgt := 97) hx hb dX6_answer_1 (by decide) (by decide) ?_
  refine lv_aload_n hx hb dX6_answer_97 rfl (lv_at hl 0 rfl) ?_
  refine xg (ci := 6) S inX6 rfl hK hP (q0 := 80) rfl 9 (by decide) rfl kw_2_167 rfl dX6_answer_98 ?_
  exact rdEnd S hr hlocks dX6_answer_101 rfl

set_option maxHeartbeats 8000000 in
set_option maxRecDepth 100000 in
theorem c_X8_ofRun_12 (l : Launch) (D : va_G) (cI cZ cJ : ClassId) (o : Nat) (u : Nat → Nat) (ra ga : Nat → Nat) (sz : Nat) : Met l yX8_ofRun (uW yX8_ofRun cX8_ofRun 2 (some .int)) ({ frames := 1, cells := 0, slots := 0, locals := 21 }) (va_Pc [.ref o, .int 9] (aS ra ga D (tyL cI cZ cJ) (((((((xW o u cI cZ cJ).set 0 (o, .inr (8, ((xF u).set 9 (.int 0))))).set 32 ((u 31), .inl (cZ, 10, .inl (upd (upd (upd (upd (upd (upd (upd (upd (upd (upd (fun _ => 0) (0 : Int32).toNatClampNeg 0) (1 : Int32).toNatClampNeg 0) (2 : Int32).toNatClampNeg 0) (3 : Int32).toNatClampNeg 0) (4 : Int32).toNatClampNeg 0) (5 : Int32).toNatClampNeg 0) (6 : Int32).toNatClampNeg 0) (7 : Int32).toNatClampNeg 0) (8 : Int32).toNatClampNeg 0) (9 : Int32).toNatClampNeg 0)))).set 34 ((u 33), .inr (2, ([.ref (u 0), .ref (u 12), .ref (u 19), .int 0, .ref (u 34), .ref (u 35), .ref (u 36), .ref (u 37), .int 0].set 3 (.int 1))))).set 35 ((u 34), .inl (cI, 120, .inl (upd (fun _ => 0) (0 : Int32).toNatClampNeg 10)))).set 36 ((u 35), .inl (cI, 120, .inl (upd (fun _ => 0) (0 : Int32).toNatClampNeg 0)))).set 37 ((u 36), .inl (cI, 120, .inl (upd (fun _ => 0) (0 : Int32).toNatClampNeg (-1))))) sz)) (wQi (0) D (((((((xW o u cI cZ cJ).set 0 (o, .inr (8, ((xF u).set 9 (.int 0))))).set 32 ((u 31), .inl (cZ, 10, .inl (upd (upd (upd (upd (upd (upd (upd (upd (upd (upd (fun _ => 0) (0 : Int32).toNatClampNeg 0) (1 : Int32).toNatClampNeg 0) (2 : Int32).toNatClampNeg 0) (3 : Int32).toNatClampNeg 0) (4 : Int32).toNatClampNeg 0) (5 : Int32).toNatClampNeg 0) (6 : Int32).toNatClampNeg 0) (7 : Int32).toNatClampNeg 0) (8 : Int32).toNatClampNeg 0) (9 : Int32).toNatClampNeg 0)))).set 34 ((u 33), .inr (2, ([.ref (u 0), .ref (u 12), .ref (u 19), .int 0, .ref (u 34), .ref (u 35), .ref (u 36), .ref (u 37), .int 0].set 3 (.int 1))))).set 35 ((u 34), .inl (cI, 120, .inl (upd (fun _ => 0) (0 : Int32).toNatClampNeg 10)))).set 36 ((u 35), .inl (cI, 120, .inl (upd (fun _ => 0) (0 : Int32).toNatClampNeg 0)))).set 37 ((u 36), .inl (cI, 120, .inl (upd (fun _ => 0) (0 : Int32).toNatClampNeg (-1))))) (va_A (((((((xW o u cI cZ cJ).set 0 (o, .inr (8, ((xF u).set 9 (.int 0))))).set 32 ((u 31), .inl (cZ, 10, .inl (upd (upd (upd (upd (upd (upd (upd (upd (upd (upd (fun _ => 0) (0 : Int32).toNatClampNeg 0) (1 : Int32).toNatClampNeg 0) (2 : Int32).toNatClampNeg 0) (3 : Int32).toNatClampNeg 0) (4 : Int32).toNatClampNeg 0) (5 : Int32).toNatClampNeg 0) (6 : Int32).toNatClampNeg 0) (7 : Int32).toNatClampNeg 0) (8 : Int32).toNatClampNeg 0) (9 : Int32).toNatClampNeg 0)))).set 34 ((u 33), .inr (2, ([.ref (u 0), .ref (u 12), .ref (u 19), .int 0, .ref (u 34), .ref (u 35), .ref (u 36), .ref (u 37), .int 0].set 3 (.int 1))))).set 35 ((u 34), .inl (cI, 120, .inl (upd (fun _ => 0) (0 : Int32).toNatClampNeg 10)))).set 36 ((u 35), .inl (cI, 120, .inl (upd (fun _ => 0) (0 : Int32).toNatClampNeg 0)))).set 37 ((u 36), .inl (cI, 120, .inl (upd (fun _ => 0) (0 : Int32).toNatClampNeg (-1))))) sz)) 0 0 (va_A (((((((xW o u cI cZ cJ).set 0 (o, .inr (8, ((xF u).set 9 (.int 0))))).set 32 ((u 31), .inl (cZ, 10, .inl (upd (upd (upd (upd (upd (upd (upd (upd (upd (upd (fun _ => 0) (0 : Int32).toNatClampNeg 0) (1 : Int32).toNatClampNeg 0) (2 : Int32).toNatClampNeg 0) (3 : Int32).toNatClampNeg 0) (4 : Int32).toNatClampNeg 0) (5 : Int32).toNatClampNeg 0) (6 : Int32).toNatClampNeg 0) (7 : Int32).toNatClampNeg 0) (8 : Int32).toNatClampNeg 0) (9 : Int32).toNatClampNeg 0)))).set 34 ((u 33), .inr (2, ([.ref (u 0), .ref (u 12), .ref (u 19), .int 0, .ref (u 34), .ref (u 35), .ref (u 36), .ref (u 37), .int 0].set 3 (.int 1))))).set 35 ((u 34), .inl (cI, 120, .inl (upd (fun _ => 0) (0 : Int32).toNatClampNeg 10)))).set 36 ((u 35), .inl (cI, 120, .inl (upd (fun _ => 0) (0 : Int32).toNatClampNeg 0)))).set 37 ((u 36), .inl (cI, 120, .inl (upd (fun _ => 0) (0 : Int32).toNatClampNeg (-1))))) sz) := by
  refine aStart (lv := [(0, .ref o), (1, .int 9)]) (Qc := fun A => wQi (0) D (((((((xW o u cI cZ cJ).set 0 (o, .inr (8, ((xF u).set 9 (.int 0))))).set 32 ((u 31), .inl (cZ, 10, .inl (upd (upd (upd (upd (upd (upd (upd (upd (upd (upd (fun _ => 0) (0 : Int32).toNatClampNeg 0) (1 : Int32).toNatClampNeg 0) (2 : Int32).toNatClampNeg 0) (3 : Int32).toNatClampNeg 0) (4 : Int32).toNatClampNeg 0) (5 : Int32).toNatClampNeg 0) (6 : Int32).toNatClampNeg 0) (7 : Int32).toNatClampNeg 0) (8 : Int32).toNatClampNeg 0) (9 : Int32).toNatClampNeg 0)))).set 34 ((u 33), .inr (2, ([.ref (u 0), .ref (u 12), .ref (u 19), .int 0, .ref (u 34), .ref (u 35), .ref (u 36), .ref (u 37), .int 0].set 3 (.int 1))))).set 35 ((u 34), .inl (cI, 120, .inl (upd (fun _ => 0) (0 : Int32).toNatClampNeg 10)))).set 36 ((u 35), .inl (cI, 120, .inl (upd (fun _ => 0) (0 : Int32).toNatClampNeg 0)))).set 37 ((u 36), .inl (cI, 120, .inl (upd (fun _ => 0) (0 : Int32).toNatClampNeg (-1))))) A) (by decide) (Nat.le_of_ble_eq_true rfl) rfl ?_
  intro p e s m args below meth c ls A H S hr hlocks hnm hl hK hP hD hS hA hB
  have hx := S.1
  have hb := S.2.1
  refine lv_iload_n hx hb dX8_ofRun_0 rfl (lv_at hl 1 rfl) ?_
  refine lv_if_lt (tgt := 14) hx hb dX8_ofRun_1 (by decide) (fun c => absurd c (by decide)) (fun _ => ?_)
  refine lv_iload_n hx hb dX8_ofRun_4 rfl (lv_at hl 1 rfl) ?_
  refine lv_bipush (v := 10) hx hb dX8_ofRun_5 (by decide) ?_
  refine lv_icmp_gt (tgt := 14) hx hb dX8_ofRun_7 (by decide) (fun c => absurd c (by decide)) (fun _ => ?_)
  refine lv_iconst (v := 1) hx hb dX8_ofRun_10 (by decide) ?_
  refine lv_goto (tgt := 15) hx hb dX8_ofRun_11 (by decide) ?_
  refine aSv (As := [.int 1]) S (c_X8_needArgument_3 l D cI cZ cJ o u ra ga H.size) ms_X8_needArgument kw_4_4 rfl rfl ⟨Nat.le_of_ble_eq_true rfl, Nat.le_of_ble_eq_true rfl⟩ hP hD hK hS hA hB hl.1 (Nat.le_of_ble_eq_true rfl) ⟨Nat.le_of_ble_eq_true rfl, Nat.le_of_ble_eq_true rfl⟩ dX8_ofRun_15 (fun H locs hz hP hD hS => ?_)
  refine lv_iload_n hx hb dX8_ofRun_18 rfl (lv_at hl 1 rfl) ?_
  refine lv_bipush (v := 10) hx hb dX8_ofRun_19 (by decide) ?_
  refine lv_icmp_ne (tgt := 31) hx hb dX8_ofRun_21 (by decide) (fun _ => ?_) (fun c => absurd c (by decide))
  refine lv_aload_n hx hb dX8_ofRun_31 rfl (lv_at hl 0 rfl) ?_
  refine xg (ci := 8) S inX8 rfl hK hP (q0 := 0) rfl 7 (by decide) rfl kw_3_27 rfl dX8_ofRun_32 ?_
  refine lv_iload_n hx hb dX8_ofRun_35 rfl (lv_at hl 1 rfl) ?_
  refine rdV (As := [.int 9]) (ci := 6) S (c_X6_answer_19 l D cI cZ cJ o u) mi_X6_answer kw_4_235 ⟨rfl, rfl⟩ ⟨Nat.le_of_ble_eq_true rfl, Nat.le_of_ble_eq_true rfl⟩ hP hK (k := 80) rfl rfl rfl hl.1 (Nat.le_of_ble_eq_true rfl) ⟨Nat.le_of_ble_eq_true rfl, Nat.le_of_ble_eq_true rfl⟩ dX8_ofRun_36 ?_
  exact wEnd S hr hlocks hP hD hS (Nat.le_of_ble_eq_true rfl) (Nat.le_of_ble_eq_true rfl) dX8_ofRun_39 rfl

set_option maxHeartbeats 8000000 in
set_option maxRecDepth 100000 in
theorem c_X8_ofRun_13 (l : Launch) (D : va_G) (cI cZ cJ : ClassId) (o : Nat) (u : Nat → Nat) (ra ga : Nat → Nat) (sz : Nat) : Met l yX8_ofRun (uW yX8_ofRun cX8_ofRun 2 (some .int)) ({ frames := 1, cells := 0, slots := 0, locals := 20 }) (va_Pc [.ref o, .int 10] (aS ra ga D (tyL cI cZ cJ) (((((((xW o u cI cZ cJ).set 0 (o, .inr (8, ((xF u).set 9 (.int 0))))).set 32 ((u 31), .inl (cZ, 10, .inl (upd (upd (upd (upd (upd (upd (upd (upd (upd (upd (fun _ => 0) (0 : Int32).toNatClampNeg 0) (1 : Int32).toNatClampNeg 0) (2 : Int32).toNatClampNeg 0) (3 : Int32).toNatClampNeg 0) (4 : Int32).toNatClampNeg 0) (5 : Int32).toNatClampNeg 0) (6 : Int32).toNatClampNeg 0) (7 : Int32).toNatClampNeg 0) (8 : Int32).toNatClampNeg 0) (9 : Int32).toNatClampNeg 0)))).set 34 ((u 33), .inr (2, ([.ref (u 0), .ref (u 12), .ref (u 19), .int 0, .ref (u 34), .ref (u 35), .ref (u 36), .ref (u 37), .int 0].set 3 (.int 1))))).set 35 ((u 34), .inl (cI, 120, .inl (upd (fun _ => 0) (0 : Int32).toNatClampNeg 10)))).set 36 ((u 35), .inl (cI, 120, .inl (upd (fun _ => 0) (0 : Int32).toNatClampNeg 0)))).set 37 ((u 36), .inl (cI, 120, .inl (upd (fun _ => 0) (0 : Int32).toNatClampNeg (-1))))) sz)) (wQi (0) D (((((((xW o u cI cZ cJ).set 0 (o, .inr (8, ((xF u).set 9 (.int 0))))).set 32 ((u 31), .inl (cZ, 10, .inl (upd (upd (upd (upd (upd (upd (upd (upd (upd (upd (fun _ => 0) (0 : Int32).toNatClampNeg 0) (1 : Int32).toNatClampNeg 0) (2 : Int32).toNatClampNeg 0) (3 : Int32).toNatClampNeg 0) (4 : Int32).toNatClampNeg 0) (5 : Int32).toNatClampNeg 0) (6 : Int32).toNatClampNeg 0) (7 : Int32).toNatClampNeg 0) (8 : Int32).toNatClampNeg 0) (9 : Int32).toNatClampNeg 0)))).set 34 ((u 33), .inr (2, ([.ref (u 0), .ref (u 12), .ref (u 19), .int 0, .ref (u 34), .ref (u 35), .ref (u 36), .ref (u 37), .int 0].set 3 (.int 1))))).set 35 ((u 34), .inl (cI, 120, .inl (upd (fun _ => 0) (0 : Int32).toNatClampNeg 10)))).set 36 ((u 35), .inl (cI, 120, .inl (upd (fun _ => 0) (0 : Int32).toNatClampNeg 0)))).set 37 ((u 36), .inl (cI, 120, .inl (upd (fun _ => 0) (0 : Int32).toNatClampNeg (-1))))) (va_A (((((((xW o u cI cZ cJ).set 0 (o, .inr (8, ((xF u).set 9 (.int 0))))).set 32 ((u 31), .inl (cZ, 10, .inl (upd (upd (upd (upd (upd (upd (upd (upd (upd (upd (fun _ => 0) (0 : Int32).toNatClampNeg 0) (1 : Int32).toNatClampNeg 0) (2 : Int32).toNatClampNeg 0) (3 : Int32).toNatClampNeg 0) (4 : Int32).toNatClampNeg 0) (5 : Int32).toNatClampNeg 0) (6 : Int32).toNatClampNeg 0) (7 : Int32).toNatClampNeg 0) (8 : Int32).toNatClampNeg 0) (9 : Int32).toNatClampNeg 0)))).set 34 ((u 33), .inr (2, ([.ref (u 0), .ref (u 12), .ref (u 19), .int 0, .ref (u 34), .ref (u 35), .ref (u 36), .ref (u 37), .int 0].set 3 (.int 1))))).set 35 ((u 34), .inl (cI, 120, .inl (upd (fun _ => 0) (0 : Int32).toNatClampNeg 10)))).set 36 ((u 35), .inl (cI, 120, .inl (upd (fun _ => 0) (0 : Int32).toNatClampNeg 0)))).set 37 ((u 36), .inl (cI, 120, .inl (upd (fun _ => 0) (0 : Int32).toNatClampNeg (-1))))) sz)) 0 0 (va_A (((((((xW o u cI cZ cJ).set 0 (o, .inr (8, ((xF u).set 9 (.int 0))))).set 32 ((u 31), .inl (cZ, 10, .inl (upd (upd (upd (upd (upd (upd (upd (upd (upd (upd (fun _ => 0) (0 : Int32).toNatClampNeg 0) (1 : Int32).toNatClampNeg 0) (2 : Int32).toNatClampNeg 0) (3 : Int32).toNatClampNeg 0) (4 : Int32).toNatClampNeg 0) (5 : Int32).toNatClampNeg 0) (6 : Int32).toNatClampNeg 0) (7 : Int32).toNatClampNeg 0) (8 : Int32).toNatClampNeg 0) (9 : Int32).toNatClampNeg 0)))).set 34 ((u 33), .inr (2, ([.ref (u 0), .ref (u 12), .ref (u 19), .int 0, .ref (u 34), .ref (u 35), .ref (u 36), .ref (u 37), .int 0].set 3 (.int 1))))).set 35 ((u 34), .inl (cI, 120, .inl (upd (fun _ => 0) (0 : Int32).toNatClampNeg 10)))).set 36 ((u 35), .inl (cI, 120, .inl (upd (fun _ => 0) (0 : Int32).toNatClampNeg 0)))).set 37 ((u 36), .inl (cI, 120, .inl (upd (fun _ => 0) (0 : Int32).toNatClampNeg (-1))))) sz) := by
  refine aStart (lv := [(0, .ref o), (1, .int 10)]) (Qc := fun A => wQi (0) D (((((((xW o u cI cZ cJ).set 0 (o, .inr (8, ((xF u).set 9 (.int 0))))).set 32 ((u 31), .inl (cZ, 10, .inl (upd (upd (upd (upd (upd (upd (upd (upd (upd (upd (fun _ => 0) (0 : Int32).toNatClampNeg 0) (1 : Int32).toNatClampNeg 0) (2 : Int32).toNatClampNeg 0) (3 : Int32).toNatClampNeg 0) (4 : Int32).toNatClampNeg 0) (5 : Int32).toNatClampNeg 0) (6 : Int32).toNatClampNeg 0) (7 : Int32).toNatClampNeg 0) (8 : Int32).toNatClampNeg 0) (9 : Int32).toNatClampNeg 0)))).set 34 ((u 33), .inr (2, ([.ref (u 0), .ref (u 12), .ref (u 19), .int 0, .ref (u 34), .ref (u 35), .ref (u 36), .ref (u 37), .int 0].set 3 (.int 1))))).set 35 ((u 34), .inl (cI, 120, .inl (upd (fun _ => 0) (0 : Int32).toNatClampNeg 10)))).set 36 ((u 35), .inl (cI, 120, .inl (upd (fun _ => 0) (0 : Int32).toNatClampNeg 0)))).set 37 ((u 36), .inl (cI, 120, .inl (upd (fun _ => 0) (0 : Int32).toNatClampNeg (-1))))) A) (by decide) (Nat.le_of_ble_eq_true rfl) rfl ?_
  intro p e s m args below meth c ls A H S hr hlocks hnm hl hK hP hD hS hA hB
  have hx := S.1
  have hb := S.2.1
  refine lv_iload_n hx hb dX8_ofRun_0 rfl (lv_at hl 1 rfl) ?_
  refine lv_if_lt (tgt := 14) hx hb dX8_ofRun_1 (by decide) (fun c => absurd c (by decide)) (fun _ => ?_)
  refine lv_iload_n hx hb dX8_ofRun_4 rfl (lv_at hl 1 rfl) ?_
  refine lv_bipush (v := 10) hx hb dX8_ofRun_5 (by decide) ?_
  refine lv_icmp_gt (tgt := 14) hx hb dX8_ofRun_7 (by decide) (fun c => absurd c (by decide)) (fun _ => ?_)
  refine lv_iconst (v := 1) hx hb dX8_ofRun_10 (by decide) ?_
  refine lv_goto (tgt := 15) hx hb dX8_ofRun_11 (by decide) ?_
  refine aSv (As := [.int 1]) S (c_X8_needArgument_3 l D cI cZ cJ o u ra ga H.size) ms_X8_needArgument kw_4_4 rfl rfl ⟨Nat.le_of_ble_eq_true rfl, Nat.le_of_ble_eq_true rfl⟩ hP hD hK hS hA hB hl.1 (Nat.le_of_ble_eq_true rfl) ⟨Nat.le_of_ble_eq_true rfl, Nat.le_of_ble_eq_true rfl⟩ dX8_ofRun_15 (fun H locs hz hP hD hS => ?_)
  refine lv_iload_n hx hb dX8_ofRun_18 rfl (lv_at hl 1 rfl) ?_
  refine lv_bipush (v := 10) hx hb dX8_ofRun_19 (by decide) ?_
  refine lv_icmp_ne (tgt := 31) hx hb dX8_ofRun_21 (by decide) (fun c => absurd c (by decide)) (fun _ => ?_)
  refine lv_aload_n hx hb dX8_ofRun_24 rfl (lv_at hl 0 rfl) ?_
  refine xg (ci := 8) S inX8 rfl hK hP (q0 := 0) rfl 13 (by decide) rfl kw_3_33 rfl dX8_ofRun_25 ?_
  refine lv_goto (tgt := 39) hx hb dX8_ofRun_28 (by decide) ?_
  exact wEnd S hr hlocks hP hD hS (Nat.le_of_ble_eq_true rfl) (Nat.le_of_ble_eq_true rfl) dX8_ofRun_39 rfl

set_option maxHeartbeats 8000000 in
set_option maxRecDepth 100000 in
theorem c_X6_kept_1 (l : Launch) (D : va_G) (cI cZ cJ : ClassId) (o : Nat) (u : Nat → Nat) : Met l yX6_kept (uW yX6_kept cX6_kept 1 (some .int)) ({ frames := 0, cells := 0, slots := 0, locals := 0 }) (va_Pc [.ref (u 79)] (pS D (tyL cI cZ cJ) (((((((xW o u cI cZ cJ).set 0 (o, .inr (8, ((xF u).set 9 (.int 0))))).set 32 ((u 31), .inl (cZ, 10, .inl (upd (upd (upd (upd (upd (upd (upd (upd (upd (upd (fun _ => 0) (0 : Int32).toNatClampNeg 0) (1 : Int32).toNatClampNeg 0) (2 : Int32).toNatClampNeg 0) (3 : Int32).toNatClampNeg 0) (4 : Int32).toNatClampNeg 0) (5 : Int32).toNatClampNeg 0) (6 : Int32).toNatClampNeg 0) (7 : Int32).toNatClampNeg 0) (8 : Int32).toNatClampNeg 0) (9 : Int32).toNatClampNeg 0)))).set 34 ((u 33), .inr (2, ([.ref (u 0), .ref (u 12), .ref (u 19), .int 0, .ref (u 34), .ref (u 35), .ref (u 36), .ref (u 37), .int 0].set 3 (.int 1))))).set 35 ((u 34), .inl (cI, 120, .inl (upd (fun _ => 0) (0 : Int32).toNatClampNeg 10)))).set 36 ((u 35), .inl (cI, 120, .inl (upd (fun _ => 0) (0 : Int32).toNatClampNeg 0)))).set 37 ((u 36), .inl (cI, 120, .inl (upd (fun _ => 0) (0 : Int32).toNatClampNeg (-1))))))) (QcRead (0)) 0 0 (fun _ => False) := by
  refine rdStart (lv := [(0, .ref (u 79))]) (by decide) (Nat.le_of_ble_eq_true rfl) rfl ?_
  intro p e s m args below meth c ls S hr hlocks hl hP hK
  have hx := S.1
  have hb := S.2.1
  refine lv_aload_n hx hb dX6_kept_0 rfl (lv_at hl 0 rfl) ?_
  refine xg (ci := 6) S inX6 rfl hK hP (q0 := 80) rfl 4 (by decide) rfl kw_2_155 rfl dX6_kept_1 ?_
  refine lv_bipush (v := 50) hx hb dX6_kept_4 (by decide) ?_
  refine lv_icmp_ge (tgt := 16) hx hb dX6_kept_6 (by decide) (fun c => absurd c (by decide)) (fun _ => ?_)
  refine lv_aload_n hx hb dX6_kept_9 rfl (lv_at hl 0 rfl) ?_
  refine xg (ci := 6) S inX6 rfl hK hP (q0 := 80) rfl 4 (by decide) rfl kw_2_155 rfl dX6_kept_10 ?_
  refine lv_goto (tgt := 18) hx hb dX6_kept_13 (by decide) ?_
  exact rdEnd S hr hlocks dX6_kept_18 rfl

set_option maxHeartbeats 8000000 in
set_option maxRecDepth 100000 in
theorem c_X8_digest_0 (l : Launch) (D : va_G) (cI cZ cJ : ClassId) (o : Nat) (u : Nat → Nat) (ra ga : Nat → Nat) (sz : Nat) : Met l yX8_digest (uW yX8_digest cX8_digest 6 (some .long)) ({ frames := 4, cells := 0, slots := 0, locals := 85 }) (va_Pc [.ref o] (aS ra ga D (tyL cI cZ cJ) (xW o u cI cZ cJ) sz)) (wQl (7471511100537308759) D (((((((xW o u cI cZ cJ).set 0 (o, .inr (8, ((xF u).set 9 (.int 0))))).set 32 ((u 31), .inl (cZ, 10, .inl (upd (upd (upd (upd (upd (upd (upd (upd (upd (upd (fun _ => 0) (0 : Int32).toNatClampNeg 0) (1 : Int32).toNatClampNeg 0) (2 : Int32).toNatClampNeg 0) (3 : Int32).toNatClampNeg 0) (4 : Int32).toNatClampNeg 0) (5 : Int32).toNatClampNeg 0) (6 : Int32).toNatClampNeg 0) (7 : Int32).toNatClampNeg 0) (8 : Int32).toNatClampNeg 0) (9 : Int32).toNatClampNeg 0)))).set 34 ((u 33), .inr (2, ([.ref (u 0), .ref (u 12), .ref (u 19), .int 0, .ref (u 34), .ref (u 35), .ref (u 36), .ref (u 37), .int 0].set 3 (.int 1))))).set 35 ((u 34), .inl (cI, 120, .inl (upd (fun _ => 0) (0 : Int32).toNatClampNeg 10)))).set 36 ((u 35), .inl (cI, 120, .inl (upd (fun _ => 0) (0 : Int32).toNatClampNeg 0)))).set 37 ((u 36), .inl (cI, 120, .inl (upd (fun _ => 0) (0 : Int32).toNatClampNeg (-1))))) (va_A (xW o u cI cZ cJ) sz)) 0 0 (va_A (xW o u cI cZ cJ) sz) := by
  refine aStart (lv := [(0, .ref o)]) (Qc := fun A => wQl (7471511100537308759) D (((((((xW o u cI cZ cJ).set 0 (o, .inr (8, ((xF u).set 9 (.int 0))))).set 32 ((u 31), .inl (cZ, 10, .inl (upd (upd (upd (upd (upd (upd (upd (upd (upd (upd (fun _ => 0) (0 : Int32).toNatClampNeg 0) (1 : Int32).toNatClampNeg 0) (2 : Int32).toNatClampNeg 0) (3 : Int32).toNatClampNeg 0) (4 : Int32).toNatClampNeg 0) (5 : Int32).toNatClampNeg 0) (6 : Int32).toNatClampNeg 0) (7 : Int32).toNatClampNeg 0) (8 : Int32).toNatClampNeg 0) (9 : Int32).toNatClampNeg 0)))).set 34 ((u 33), .inr (2, ([.ref (u 0), .ref (u 12), .ref (u 19), .int 0, .ref (u 34), .ref (u 35), .ref (u 36), .ref (u 37), .int 0].set 3 (.int 1))))).set 35 ((u 34), .inl (cI, 120, .inl (upd (fun _ => 0) (0 : Int32).toNatClampNeg 10)))).set 36 ((u 35), .inl (cI, 120, .inl (upd (fun _ => 0) (0 : Int32).toNatClampNeg 0)))).set 37 ((u 36), .inl (cI, 120, .inl (upd (fun _ => 0) (0 : Int32).toNatClampNeg (-1))))) A) (by decide) (Nat.le_of_ble_eq_true rfl) rfl ?_
  intro p e s m args below meth c ls A H S hr hlocks hnm hl hK hP hD hS hA hB
  have hx := S.1
  have hb := S.2.1
  refine lv_aload_n hx hb dX8_digest_0 rfl (lv_at hl 0 rfl) ?_
  refine aVv (As := []) (ci := 8) S (c_X8_refresh_0 l D cI cZ cJ o u ra ga H.size) mi_X8_refresh kw_3_71 rfl rfl ⟨Nat.le_of_ble_eq_true rfl, Nat.le_of_ble_eq_true rfl⟩ hP hD hK hS hA hB xW_0 rfl rfl hl.1 (Nat.le_of_ble_eq_true rfl) ⟨Nat.le_of_ble_eq_true rfl, Nat.le_of_ble_eq_true rfl⟩ dX8_digest_1 (fun H locs hz hP hD hS => ?_)
  refine lv_ldc2 hx hb S.2.2.2.1 (S.2.2.2.2 _ kw_3_238) dX8_digest_4 ?_
  refine lv_lstore_n (lv' := [(1, .long 58126), (0, .ref o)]) hx hb dX8_digest_7 rfl hl (by decide) rfl (fun ls hl => ?_)
  refine lv_iconst (v := 0) hx hb dX8_digest_8 (by decide) ?_
  refine lv_istore_n (lv' := [(3, .int 0), (1, .long 58126), (0, .ref o)]) hx hb dX8_digest_9 rfl hl (by decide) rfl (fun ls hl => ?_)
  refine lv_iload_n hx hb dX8_digest_10 rfl (lv_at hl 0 rfl) ?_
  refine lv_bipush (v := 10) hx hb dX8_digest_11 (by decide) ?_
  refine lv_icmp_gt (tgt := 35) hx hb dX8_digest_13 (by decide) (fun c => absurd c (by decide)) (fun _ => ?_)
  refine lv_lload_n hx hb dX8_digest_16 rfl (lv_at hl 1 rfl) ?_
  refine lv_ldc2 hx hb S.2.2.2.1 (S.2.2.2.2 _ kw_3_239) dX8_digest_17 ?_
  refine xlmul (v := 1801906) S dX8_digest_20 (by decide) ?_
  refine lv_aload_n hx hb dX8_digest_21 rfl (lv_at hl 2 rfl) ?_
  refine lv_iload_n hx hb dX8_digest_22 rfl (lv_at hl 0 rfl) ?_
  refine aVi (As := [.int 0]) (ci := 8) S (c_X8_many_13 l D cI cZ cJ o u ra ga H.size) mi_X8_many kw_4_0 rfl rfl ⟨Nat.le_of_ble_eq_true rfl, Nat.le_of_ble_eq_true rfl⟩ hP hD hK hS hA hB (k := 0) rfl rfl rfl hl.1 (Nat.le_of_ble_eq_true rfl) ⟨Nat.le_of_ble_eq_true rfl, Nat.le_of_ble_eq_true rfl⟩ dX8_digest_23 (fun H locs hz hP hD hS => ?_)
  refine lv_i2l (v := 1) hx hb dX8_digest_26 (by decide) ?_
  refine xladd (v := 1801907) S dX8_digest_27 (by decide) ?_
  refine lv_lstore_n (lv' := [(1, .long 1801907), (3, .int 0), (0, .ref o)]) hx hb dX8_digest_28 rfl hl (by decide) rfl (fun ls hl => ?_)
  refine lv_iinc (v := 1) (lv' := [(3, .int 1), (1, .long 1801907), (0, .ref o)]) hx hb dX8_digest_29 hl (k := 1) rfl (by decide) (by decide) rfl (fun ls hl => ?_)
  refine lv_goto (tgt := 10) hx hb dX8_digest_32 (by decide) ?_
  refine lv_iload_n hx hb dX8_digest_10 rfl (lv_at hl 0 rfl) ?_
  refine lv_bipush (v := 10) hx hb dX8_digest_11 (by decide) ?_
  refine lv_icmp_gt (tgt := 35) hx hb dX8_digest_13 (by decide) (fun c => absurd c (by decide)) (fun _ => ?_)
  refine lv_lload_n hx hb dX8_digest_16 rfl (lv_at hl 1 rfl) ?_
  refine lv_ldc2 hx hb S.2.2.2.1 (S.2.2.2.2 _ kw_3_239) dX8_digest_17 ?_
  refine xlmul (v := 55859117) S dX8_digest_20 (by decide) ?_
  refine lv_aload_n hx hb dX8_digest_21 rfl (lv_at hl 2 rfl) ?_
  refine lv_iload_n hx hb dX8_digest_22 rfl (lv_at hl 0 rfl) ?_
  refine aVi (As := [.int 1]) (ci := 8) S (c_X8_many_14 l D cI cZ cJ o u ra ga H.size) mi_X8_many kw_4_0 rfl rfl ⟨Nat.le_of_ble_eq_true rfl, Nat.le_of_ble_eq_true rfl⟩ hP hD hK hS hA hB (k := 0) rfl rfl rfl hl.1 (Nat.le_of_ble_eq_true rfl) ⟨Nat.le_of_ble_eq_true rfl, Nat.le_of_ble_eq_true rfl⟩ dX8_digest_23 (fun H locs hz hP hD hS => ?_)
  refine lv_i2l (v := 0) hx hb dX8_digest_26 (by decide) ?_
  refine xladd (v := 55859117) S dX8_digest_27 (by decide) ?_
  refine lv_lstore_n (lv' := [(1, .long 55859117), (3, .int 1), (0, .ref o)]) hx hb dX8_digest_28 rfl hl (by decide) rfl (fun ls hl => ?_)
  refine lv_iinc (v := 2) (lv' := [(3, .int 2), (1, .long 55859117), (0, .ref o)]) hx hb dX8_digest_29 hl (k := 1) rfl (by decide) (by decide) rfl (fun ls hl => ?_)
  refine lv_goto (tgt := 10) hx hb dX8_digest_32 (by decide) ?_
  refine lv_iload_n hx hb dX8_digest_10 rfl (lv_at hl 0 rfl) ?_
  refine lv_bipush (v := 10) hx hb dX8_digest_11 (by decide) ?_
  refine lv_icmp_gt (tgt := 35) hx hb dX8_digest_13 (by decide) (fun c => absurd c (by decide)) (fun _ => ?_)
  refine lv_lload_n hx hb dX8_digest_16 rfl (lv_at hl 1 rfl) ?_
  refine lv_ldc2 hx hb S.2.2.2.1 (S.2.2.2.2 _ kw_3_239) dX8_digest_17 ?_
  refine xlmul (v := 1731632627) S dX8_digest_20 (by decide) ?_
  refine lv_aload_n hx hb dX8_digest_21 rfl (lv_at hl 2 rfl) ?_
  refine lv_iload_n hx hb dX8_digest_22 rfl (lv_at hl 0 rfl) ?_
  refine aVi (As := [.int 2]) (ci := 8) S (c_X8_many_15 l D cI cZ cJ o u ra ga H.size) mi_X8_many kw_4_0 rfl rfl ⟨Nat.le_of_ble_eq_true rfl, Nat.le_of_ble_eq_true rfl⟩ hP hD hK hS hA hB (k := 0) rfl rfl rfl hl.1 (Nat.le_of_ble_eq_true rfl) ⟨Nat.le_of_ble_eq_true rfl, Nat.le_of_ble_eq_true rfl⟩ dX8_digest_23 (fun H locs hz hP hD hS => ?_)
  refine lv_i2l (v := 0) hx hb dX8_digest_26 (by decide) ?_
  refine xladd (v := 1731632627) S dX8_digest_27 (by decide) ?_
  refine lv_lstore_n (lv' := [(1, .long 1731632627), (3, .int 2), (0, .ref o)]) hx hb dX8_digest_28 rfl hl (by decide) rfl (fun ls hl => ?_)
  refine lv_iinc (v := 3) (lv' := [(3, .int 3), (1, .long 1731632627), (0, .ref o)]) hx hb dX8_digest_29 hl (k := 1) rfl (by decide) (by decide) rfl (fun ls hl => ?_)
  refine lv_goto (tgt := 10) hx hb dX8_digest_32 (by decide) ?_
  refine lv_iload_n hx hb dX8_digest_10 rfl (lv_at hl 0 rfl) ?_
  refine lv_bipush (v := 10) hx hb dX8_digest_11 (by decide) ?_
  refine lv_icmp_gt (tgt := 35) hx hb dX8_digest_13 (by decide) (fun c => absurd c (by decide)) (fun _ => ?_)
  refine lv_lload_n hx hb dX8_digest_16 rfl (lv_at hl 1 rfl) ?_
  refine lv_ldc2 hx hb S.2.2.2.1 (S.2.2.2.2 _ kw_3_239) dX8_digest_17 ?_
  refine xlmul (v := 53680611437) S dX8_digest_20 (by decide) ?_
  refine lv_aload_n hx hb dX8_digest_21 rfl (lv_at hl 2 rfl) ?_
  refine lv_iload_n hx hb dX8_digest_22 rfl (lv_at hl 0 rfl) ?_
  refine aVi (As := [.int 3]) (ci := 8) S (c_X8_many_16 l D cI cZ cJ o u ra ga H.size) mi_X8_many kw_4_0 rfl rfl ⟨Nat.le_of_ble_eq_true rfl, Nat.le_of_ble_eq_true rfl⟩ hP hD hK hS hA hB (k := 0) rfl rfl rfl hl.1 (Nat.le_of_ble_eq_true rfl) ⟨Nat.le_of_ble_eq_true rfl, Nat.le_of_ble_eq_true rfl⟩ dX8_digest_23 (fun H locs hz hP hD hS => ?_)
  refine lv_i2l (v := 1) hx hb dX8_digest_26 (by decide) ?_
  refine xladd (v := 53680611438) S dX8_digest_27 (by decide) ?_
  refine lv_lstore_n (lv' := [(1, .long 53680611438), (3, .int 3), (0, .ref o)]) hx hb dX8_digest_28 rfl hl (by decide) rfl (fun ls hl => ?_)
  refine lv_iinc (v := 4) (lv' := [(3, .int 4), (1, .long 53680611438), (0, .ref o)]) hx hb dX8_digest_29 hl (k := 1) rfl (by decide) (by decide) rfl (fun ls hl => ?_)
  refine lv_goto (tgt := 10) hx hb dX8_digest_32 (by decide) ?_
  refine lv_iload_n hx hb dX8_digest_10 rfl (lv_at hl 0 rfl) ?_
  refine lv_bipush (v := 10) hx hb dX8_digest_11 (by decide) ?_
  refine lv_icmp_gt (tgt := 35) hx hb dX8_digest_13 (by decide) (fun c => absurd c (by decide)) (fun _ => ?_)
  refine lv_lload_n hx hb dX8_digest_16 rfl (lv_at hl 1 rfl) ?_
  refine lv_ldc2 hx hb S.2.2.2.1 (S.2.2.2.2 _ kw_3_239) dX8_digest_17 ?_
  refine xlmul (v := 1664098954578) S dX8_digest_20 (by decide) ?_
  refine lv_aload_n hx hb dX8_digest_21 rfl (lv_at hl 2 rfl) ?_
  refine lv_iload_n hx hb dX8_digest_22 rfl (lv_at hl 0 rfl) ?_
  refine aVi (As := [.int 4]) (ci := 8) S (c_X8_many_17 l D cI cZ cJ o u ra ga H.size) mi_X8_many kw_4_0 rfl rfl ⟨Nat.le_of_ble_eq_true rfl, Nat.le_of_ble_eq_true rfl⟩ hP hD hK hS hA hB (k := 0) rfl rfl rfl hl.1 (Nat.le_of_ble_eq_true rfl) ⟨Nat.le_of_ble_eq_true rfl, Nat.le_of_ble_eq_true rfl⟩ dX8_digest_23 (fun H locs hz hP hD hS => ?_)
  refine lv_i2l (v := 0) hx hb dX8_digest_26 (by decide) ?_
  refine xladd (v := 1664098954578) S dX8_digest_27 (by decide) ?_
  refine lv_lstore_n (lv' := [(1, .long 1664098954578), (3, .int 4), (0, .ref o)]) hx hb dX8_digest_28 rfl hl (by decide) rfl (fun ls hl => ?_)
  refine lv_iinc (v := 5) (lv' := [(3, .int 5), (1, .long 1664098954578), (0, .ref o)]) hx hb dX8_digest_29 hl (k := 1) rfl (by decide) (by decide) rfl (fun ls hl => ?_)
  refine lv_goto (tgt := 10) hx hb dX8_digest_32 (by decide) ?_
  refine lv_iload_n hx hb dX8_digest_10 rfl (lv_at hl 0 rfl) ?_
  refine lv_bipush (v := 10) hx hb dX8_digest_11 (by decide) ?_
  refine lv_icmp_gt (tgt := 35) hx hb dX8_digest_13 (by decide) (fun c => absurd c (by decide)) (fun _ => ?_)
  refine lv_lload_n hx hb dX8_digest_16 rfl (lv_at hl 1 rfl) ?_
  refine lv_ldc2 hx hb S.2.2.2.1 (S.2.2.2.2 _ kw_3_239) dX8_digest_17 ?_
  refine xlmul (v := 51587067591918) S dX8_digest_20 (by decide) ?_
  refine lv_aload_n hx hb dX8_digest_21 rfl (lv_at hl 2 rfl) ?_
  refine lv_iload_n hx hb dX8_digest_22 rfl (lv_at hl 0 rfl) ?_
  refine aVi (As := [.int 5]) (ci := 8) S (c_X8_many_18 l D cI cZ cJ o u ra ga H.size) mi_X8_many kw_4_0 rfl rfl ⟨Nat.le_of_ble_eq_true rfl, Nat.le_of_ble_eq_true rfl⟩ hP hD hK hS hA hB (k := 0) rfl rfl rfl hl.1 (Nat.le_of_ble_eq_true rfl) ⟨Nat.le_of_ble_eq_true rfl, Nat.le_of_ble_eq_true rfl⟩ dX8_digest_23 (fun H locs hz hP hD hS => ?_)
  refine lv_i2l (v := 0) hx hb dX8_digest_26 (by decide) ?_
  refine xladd (v := 51587067591918) S dX8_digest_27 (by decide) ?_
  refine lv_lstore_n (lv' := [(1, .long 51587067591918), (3, .int 5), (0, .ref o)]) hx hb dX8_digest_28 rfl hl (by decide) rfl (fun ls hl => ?_)
  refine lv_iinc (v := 6) (lv' := [(3, .int 6), (1, .long 51587067591918), (0, .ref o)]) hx hb dX8_digest_29 hl (k := 1) rfl (by decide) (by decide) rfl (fun ls hl => ?_)
  refine lv_goto (tgt := 10) hx hb dX8_digest_32 (by decide) ?_
  refine lv_iload_n hx hb dX8_digest_10 rfl (lv_at hl 0 rfl) ?_
  refine lv_bipush (v := 10) hx hb dX8_digest_11 (by decide) ?_
  refine lv_icmp_gt (tgt := 35) hx hb dX8_digest_13 (by decide) (fun c => absurd c (by decide)) (fun _ => ?_)
  refine lv_lload_n hx hb dX8_digest_16 rfl (lv_at hl 1 rfl) ?_
  refine lv_ldc2 hx hb S.2.2.2.1 (S.2.2.2.2 _ kw_3_239) dX8_digest_17 ?_
  refine xlmul (v := 1599199095349458) S dX8_digest_20 (by decide) ?_
  refine lv_aload_n hx hb dX8_digest_21 rfl (lv_at hl 2 rfl) ?_
  refine lv_iload_n hx hb dX8_digest_22 rfl (lv_at hl 0 rfl) ?_
  refine aVi (As := [.int 6]) (ci := 8) S (c_X8_many_19 l D cI cZ cJ o u ra ga H.size) mi_X8_many kw_4_0 rfl rfl ⟨Nat.le_of_ble_eq_true rfl, Nat.le_of_ble_eq_true rfl⟩ hP hD hK hS hA hB (k := 0) rfl rfl rfl hl.1 (Nat.le_of_ble_eq_true rfl) ⟨Nat.le_of_ble_eq_true rfl, Nat.le_of_ble_eq_true rfl⟩ dX8_digest_23 (fun H locs hz hP hD hS => ?_)
  refine lv_i2l (v := 0) hx hb dX8_digest_26 (by decide) ?_
  refine xladd (v := 1599199095349458) S dX8_digest_27 (by decide) ?_
  refine lv_lstore_n (lv' := [(1, .long 1599199095349458), (3, .int 6), (0, .ref o)]) hx hb dX8_digest_28 rfl hl (by decide) rfl (fun ls hl => ?_)
  refine lv_iinc (v := 7) (lv' := [(3, .int 7), (1, .long 1599199095349458), (0, .ref o)]) hx hb dX8_digest_29 hl (k := 1) rfl (by decide) (by decide) rfl (fun ls hl => ?_)
  refine lv_goto (tgt := 10) hx hb dX8_digest_32 (by decide) ?_
  refine lv_iload_n hx hb dX8_digest_10 rfl (lv_at hl 0 rfl) ?_
  refine lv_bipush (v := 10) hx hb dX8_digest_11 (by decide) ?_
  refine lv_icmp_gt (tgt := 35) hx hb dX8_digest_13 (by decide) (fun c => absurd c (by decide)) (fun _ => ?_)
  refine lv_lload_n hx hb dX8_digest_16 rfl (lv_at hl 1 rfl) ?_
  refine lv_ldc2 hx hb S.2.2.2.1 (S.2.2.2.2 _ kw_3_239) dX8_digest_17 ?_
  refine xlmul (v := 49575171955833198) S dX8_digest_20 (by decide) ?_
  refine lv_aload_n hx hb dX8_digest_21 rfl (lv_at hl 2 rfl) ?_
  refine lv_iload_n hx hb dX8_digest_22 rfl (lv_at hl 0 rfl) ?_
  refine aVi (As := [.int 7]) (ci := 8) S (c_X8_many_20 l D cI cZ cJ o u ra ga H.size) mi_X8_many kw_4_0 rfl rfl ⟨Nat.le_of_ble_eq_true rfl, Nat.le_of_ble_eq_true rfl⟩ hP hD hK hS hA hB (k := 0) rfl rfl rfl hl.1 (Nat.le_of_ble_eq_true rfl) ⟨Nat.le_of_ble_eq_true rfl, Nat.le_of_ble_eq_true rfl⟩ dX8_digest_23 (fun H locs hz hP hD hS => ?_)
  refine lv_i2l (v := 7) hx hb dX8_digest_26 (by decide) ?_
  refine xladd (v := 49575171955833205) S dX8_digest_27 (by decide) ?_
  refine lv_lstore_n (lv' := [(1, .long 49575171955833205), (3, .int 7), (0, .ref o)]) hx hb dX8_digest_28 rfl hl (by decide) rfl (fun ls hl => ?_)
  refine lv_iinc (v := 8) (lv' := [(3, .int 8), (1, .long 49575171955833205), (0, .ref o)]) hx hb dX8_digest_29 hl (k := 1) rfl (by decide) (by decide) rfl (fun ls hl => ?_)
  refine lv_goto (tgt := 10) hx hb dX8_digest_32 (by decide) ?_
  refine lv_iload_n hx hb dX8_digest_10 rfl (lv_at hl 0 rfl) ?_
  refine lv_bipush (v := 10) hx hb dX8_digest_11 (by decide) ?_
  refine lv_icmp_gt (tgt := 35) hx hb dX8_digest_13 (by decide) (fun c => absurd c (by decide)) (fun _ => ?_)
  refine lv_lload_n hx hb dX8_digest_16 rfl (lv_at hl 1 rfl) ?_
  refine lv_ldc2 hx hb S.2.2.2.1 (S.2.2.2.2 _ kw_3_239) dX8_digest_17 ?_
  refine xlmul (v := 1536830330630829355) S dX8_digest_20 (by decide) ?_
  refine lv_aload_n hx hb dX8_digest_21 rfl (lv_at hl 2 rfl) ?_
  refine lv_iload_n hx hb dX8_digest_22 rfl (lv_at hl 0 rfl) ?_
  refine aVi (As := [.int 8]) (ci := 8) S (c_X8_many_21 l D cI cZ cJ o u ra ga H.size) mi_X8_many kw_4_0 rfl rfl ⟨Nat.le_of_ble_eq_true rfl, Nat.le_of_ble_eq_true rfl⟩ hP hD hK hS hA hB (k := 0) rfl rfl rfl hl.1 (Nat.le_of_ble_eq_true rfl) ⟨Nat.le_of_ble_eq_true rfl, Nat.le_of_ble_eq_true rfl⟩ dX8_digest_23 (fun H locs hz hP hD hS => ?_)
  refine lv_i2l (v := 1000) hx hb dX8_digest_26 (by decide) ?_
  refine xladd (v := 1536830330630830355) S dX8_digest_27 (by decide) ?_
  refine lv_lstore_n (lv' := [(1, .long 1536830330630830355), (3, .int 8), (0, .ref o)]) hx hb dX8_digest_28 rfl hl (by decide) rfl (fun ls hl => ?_)
  refine lv_iinc (v := 9) (lv' := [(3, .int 9), (1, .long 1536830330630830355), (0, .ref o)]) hx hb dX8_digest_29 hl (k := 1) rfl (by decide) (by decide) rfl (fun ls hl => ?_)
  refine lv_goto (tgt := 10) hx hb dX8_digest_32 (by decide) ?_
  refine lv_iload_n hx hb dX8_digest_10 rfl (lv_at hl 0 rfl) ?_
  refine lv_bipush (v := 10) hx hb dX8_digest_11 (by decide) ?_
  refine lv_icmp_gt (tgt := 35) hx hb dX8_digest_13 (by decide) (fun c => absurd c (by decide)) (fun _ => ?_)
  refine lv_lload_n hx hb dX8_digest_16 rfl (lv_at hl 1 rfl) ?_
  refine lv_ldc2 hx hb S.2.2.2.1 (S.2.2.2.2 _ kw_3_239) dX8_digest_17 ?_
  refine xlmul (v := (-7698491971572913843)) S dX8_digest_20 (by decide) ?_
  refine lv_aload_n hx hb dX8_digest_21 rfl (lv_at hl 2 rfl) ?_
  refine lv_iload_n hx hb dX8_digest_22 rfl (lv_at hl 0 rfl) ?_
  refine aVi (As := [.int 9]) (ci := 8) S (c_X8_many_22 l D cI cZ cJ o u ra ga H.size) mi_X8_many kw_4_0 rfl rfl ⟨Nat.le_of_ble_eq_true rfl, Nat.le_of_ble_eq_true rfl⟩ hP hD hK hS hA hB (k := 0) rfl rfl rfl hl.1 (Nat.le_of_ble_eq_true rfl) ⟨Nat.le_of_ble_eq_true rfl, Nat.le_of_ble_eq_true rfl⟩ dX8_digest_23 (fun H locs hz hP hD hS => ?_)
  refine lv_i2l (v := 20) hx hb dX8_digest_26 (by decide) ?_
  refine xladd (v := (-7698491971572913823)) S dX8_digest_27 (by decide) ?_
  refine lv_lstore_n (lv' := [(1, .long (-7698491971572913823)), (3, .int 9), (0, .ref o)]) hx hb dX8_digest_28 rfl hl (by decide) rfl (fun ls hl => ?_)
  refine lv_iinc (v := 10) (lv' := [(3, .int 10), (1, .long (-7698491971572913823)), (0, .ref o)]) hx hb dX8_digest_29 hl (k := 1) rfl (by decide) (by decide) rfl (fun ls hl => ?_)
  refine lv_goto (tgt := 10) hx hb dX8_digest_32 (by decide) ?_
  refine lv_iload_n hx hb dX8_digest_10 rfl (lv_at hl 0 rfl) ?_
  refine lv_bipush (v := 10) hx hb dX8_digest_11 (by decide) ?_
  refine lv_icmp_gt (tgt := 35) hx hb dX8_digest_13 (by decide) (fun c => absurd c (by decide)) (fun _ => ?_)
  refine lv_lload_n hx hb dX8_digest_16 rfl (lv_at hl 1 rfl) ?_
  refine lv_ldc2 hx hb S.2.2.2.1 (S.2.2.2.2 _ kw_3_239) dX8_digest_17 ?_
  refine xlmul (v := 1154421839463842495) S dX8_digest_20 (by decide) ?_
  refine lv_aload_n hx hb dX8_digest_21 rfl (lv_at hl 2 rfl) ?_
  refine lv_iload_n hx hb dX8_digest_22 rfl (lv_at hl 0 rfl) ?_
  refine aVi (As := [.int 10]) (ci := 8) S (c_X8_many_23 l D cI cZ cJ o u ra ga H.size) mi_X8_many kw_4_0 rfl rfl ⟨Nat.le_of_ble_eq_true rfl, Nat.le_of_ble_eq_true rfl⟩ hP hD hK hS hA hB (k := 0) rfl rfl rfl hl.1 (Nat.le_of_ble_eq_true rfl) ⟨Nat.le_of_ble_eq_true rfl, Nat.le_of_ble_eq_true rfl⟩ dX8_digest_23 (fun H locs hz hP hD hS => ?_)
  refine lv_i2l (v := 0) hx hb dX8_digest_26 (by decide) ?_
  refine xladd (v := 1154421839463842495) S dX8_digest_27 (by decide) ?_
  refine lv_lstore_n (lv' := [(1, .long 1154421839463842495), (3, .int 10), (0, .ref o)]) hx hb dX8_digest_28 rfl hl (by decide) rfl (fun ls hl => ?_)
  refine lv_iinc (v := 11) (lv' := [(3, .int 11), (1, .long 1154421839463842495), (0, .ref o)]) hx hb dX8_digest_29 hl (k := 1) rfl (by decide) (by decide) rfl (fun ls hl => ?_)
  refine lv_goto (tgt := 10) hx hb dX8_digest_32 (by decide) ?_
  refine lv_iload_n hx hb dX8_digest_10 rfl (lv_at hl 0 rfl) ?_
  refine lv_bipush (v := 10) hx hb dX8_digest_11 (by decide) ?_
  refine lv_icmp_gt (tgt := 35) hx hb dX8_digest_13 (by decide) (fun _ => ?_) (fun c => absurd c (by decide))
  refine lv_iconst (v := 0) hx hb dX8_digest_35 (by decide) ?_
  refine lv_istore_n (lv' := [(3, .int 0), (1, .long 1154421839463842495), (0, .ref o)]) hx hb dX8_digest_36 rfl hl (by decide) rfl (fun ls hl => ?_)
  refine lv_iload_n hx hb dX8_digest_37 rfl (lv_at hl 0 rfl) ?_
  refine lv_aload_n hx hb dX8_digest_38 rfl (lv_at hl 2 rfl) ?_
  refine xg (ci := 8) S inX8 rfl hK hP (q0 := 0) rfl 0 (by decide) rfl kw_3_20 rfl dX8_digest_39 ?_
  refine xg (ci := 1) S inX1 rfl hK hP (q0 := 1) rfl 0 (by decide) rfl kw_1_40 rfl dX8_digest_42 ?_
  refine lv_icmp_ge (tgt := 162) hx hb dX8_digest_45 (by decide) (fun c => absurd c (by decide)) (fun _ => ?_)
  refine lv_iconst (v := 0) hx hb dX8_digest_48 (by decide) ?_
  refine lv_istore (lv' := [(4, .int 0), (3, .int 0), (1, .long 1154421839463842495), (0, .ref o)]) hx hb dX8_digest_49 hl (by decide) rfl (fun ls hl => ?_)
  refine lv_iload hx hb dX8_digest_51 (lv_at hl 0 rfl) ?_
  refine lv_bipush (v := 7) hx hb dX8_digest_53 (by decide) ?_
  refine lv_icmp_gt (tgt := 79) hx hb dX8_digest_55 (by decide) (fun c => absurd c (by decide)) (fun _ => ?_)
  refine lv_lload_n hx hb dX8_digest_58 rfl (lv_at hl 2 rfl) ?_
  refine lv_ldc2 hx hb S.2.2.2.1 (S.2.2.2.2 _ kw_3_239) dX8_digest_59 ?_
  refine xlmul (v := (-1106411124039985887)) S dX8_digest_62 (by decide) ?_
  refine lv_aload_n hx hb dX8_digest_63 rfl (lv_at hl 3 rfl) ?_
  refine lv_iload_n hx hb dX8_digest_64 rfl (lv_at hl 1 rfl) ?_
  refine lv_iload hx hb dX8_digest_65 (lv_at hl 0 rfl) ?_
  refine aVi (As := [.int 0, .int 0]) (ci := 8) S (c_X8_ofProcedure_26 l D cI cZ cJ o u ra ga H.size) mi_X8_ofProcedure kw_4_162 rfl rfl ⟨Nat.le_of_ble_eq_true rfl, Nat.le_of_ble_eq_true rfl⟩ hP hD hK hS hA hB (k := 0) rfl rfl rfl hl.1 (Nat.le_of_ble_eq_true rfl) ⟨Nat.le_of_ble_eq_true rfl, Nat.le_of_ble_eq_true rfl⟩ dX8_digest_67 (fun H locs hz hP hD hS => ?_)
  refine lv_i2l (v := (-1)) hx hb dX8_digest_70 (by decide) ?_
  refine xladd (v := (-1106411124039985888)) S dX8_digest_71 (by decide) ?_
  refine lv_lstore_n (lv' := [(1, .long (-1106411124039985888)), (4, .int 0), (3, .int 0), (0, .ref o)]) hx hb dX8_digest_72 rfl hl (by decide) rfl (fun ls hl => ?_)
  refine lv_iinc (v := 1) (lv' := [(4, .int 1), (1, .long (-1106411124039985888)), (3, .int 0), (0, .ref o)]) hx hb dX8_digest_73 hl (k := 1) rfl (by decide) (by decide) rfl (fun ls hl => ?_)
  refine lv_goto (tgt := 51) hx hb dX8_digest_76 (by decide) ?_
  refine lv_iload hx hb dX8_digest_51 (lv_at hl 0 rfl) ?_
  refine lv_bipush (v := 7) hx hb dX8_digest_53 (by decide) ?_
  refine lv_icmp_gt (tgt := 79) hx hb dX8_digest_55 (by decide) (fun c => absurd c (by decide)) (fun _ => ?_)
  refine lv_lload_n hx hb dX8_digest_58 rfl (lv_at hl 1 rfl) ?_
  refine lv_ldc2 hx hb S.2.2.2.1 (S.2.2.2.2 _ kw_3_239) dX8_digest_59 ?_
  refine xlmul (v := 2594743302179540704) S dX8_digest_62 (by decide) ?_
  refine lv_aload_n hx hb dX8_digest_63 rfl (lv_at hl 3 rfl) ?_
  refine lv_iload_n hx hb dX8_digest_64 rfl (lv_at hl 2 rfl) ?_
  refine lv_iload hx hb dX8_digest_65 (lv_at hl 0 rfl) ?_
  refine aVi (As := [.int 0, .int 1]) (ci := 8) S (c_X8_ofProcedure_27 l D cI cZ cJ o u ra ga H.size) mi_X8_ofProcedure kw_4_162 rfl rfl ⟨Nat.le_of_ble_eq_true rfl, Nat.le_of_ble_eq_true rfl⟩ hP hD hK hS hA hB (k := 0) rfl rfl rfl hl.1 (Nat.le_of_ble_eq_true rfl) ⟨Nat.le_of_ble_eq_true rfl, Nat.le_of_ble_eq_true rfl⟩ dX8_digest_67 (fun H locs hz hP hD hS => ?_)
  refine lv_i2l (v := (-1)) hx hb dX8_digest_70 (by decide) ?_
  refine xladd (v := 2594743302179540703) S dX8_digest_71 (by decide) ?_
  refine lv_lstore_n (lv' := [(1, .long 2594743302179540703), (4, .int 1), (3, .int 0), (0, .ref o)]) hx hb dX8_digest_72 rfl hl (by decide) rfl (fun ls hl => ?_)
  refine lv_iinc (v := 2) (lv' := [(4, .int 2), (1, .long 2594743302179540703), (3, .int 0), (0, .ref o)]) hx hb dX8_digest_73 hl (k := 1) rfl (by decide) (by decide) rfl (fun ls hl => ?_)
  refine lv_goto (tgt := 51) hx hb dX8_digest_76 (by decide) ?_
  refine lv_iload hx hb dX8_digest_51 (lv_at hl 0 rfl) ?_
  refine lv_bipush (v := 7) hx hb dX8_digest_53 (by decide) ?_
  refine lv_icmp_gt (tgt := 79) hx hb dX8_digest_55 (by decide) (fun c => absurd c (by decide)) (fun _ => ?_)
  refine lv_lload_n hx hb dX8_digest_58 rfl (lv_at hl 1 rfl) ?_
  refine lv_ldc2 hx hb S.2.2.2.1 (S.2.2.2.2 _ kw_3_239) dX8_digest_59 ?_
  refine xlmul (v := 6650066072727555329) S dX8_digest_62 (by decide) ?_
  refine lv_aload_n hx hb dX8_digest_63 rfl (lv_at hl 3 rfl) ?_
  refine lv_iload_n hx hb dX8_digest_64 rfl (lv_at hl 2 rfl) ?_
  refine lv_iload hx hb dX8_digest_65 (lv_at hl 0 rfl) ?_
  refine aVi (As := [.int 0, .int 2]) (ci := 8) S (c_X8_ofProcedure_28 l D cI cZ cJ o u ra ga H.size) mi_X8_ofProcedure kw_4_162 rfl rfl ⟨Nat.le_of_ble_eq_true rfl, Nat.le_of_ble_eq_true rfl⟩ hP hD hK hS hA hB (k := 0) rfl rfl rfl hl.1 (Nat.le_of_ble_eq_true rfl) ⟨Nat.le_of_ble_eq_true rfl, Nat.le_of_ble_eq_true rfl⟩ dX8_digest_67 (fun H locs hz hP hD hS => ?_)
  refine lv_i2l (v := 0) hx hb dX8_digest_70 (by decide) ?_
  refine xladd (v := 6650066072727555329) S dX8_digest_71 (by decide) ?_
  refine lv_lstore_n (lv' := [(1, .long 6650066072727555329), (4, .int 2), (3, .int 0), (0, .ref o)]) hx hb dX8_digest_72 rfl hl (by decide) rfl (fun ls hl => ?_)
  refine lv_iinc (v := 3) (lv' := [(4, .int 3), (1, .long 6650066072727555329), (3, .int 0), (0, .ref o)]) hx hb dX8_digest_73 hl (k := 1) rfl (by decide) (by decide) rfl (fun ls hl => ?_)
  refine lv_goto (tgt := 51) hx hb dX8_digest_76 (by decide) ?_
  refine lv_iload hx hb dX8_digest_51 (lv_at hl 0 rfl) ?_
  refine lv_bipush (v := 7) hx hb dX8_digest_53 (by decide) ?_
  refine lv_icmp_gt (tgt := 79) hx hb dX8_digest_55 (by decide) (fun c => absurd c (by decide)) (fun _ => ?_)
  refine lv_lload_n hx hb dX8_digest_58 rfl (lv_at hl 1 rfl) ?_
  refine lv_ldc2 hx hb S.2.2.2.1 (S.2.2.2.2 _ kw_3_239) dX8_digest_59 ?_
  refine xlmul (v := 3237863443749147423) S dX8_digest_62 (by decide) ?_
  refine lv_aload_n hx hb dX8_digest_63 rfl (lv_at hl 3 rfl) ?_
  refine lv_iload_n hx hb dX8_digest_64 rfl (lv_at hl 2 rfl) ?_
  refine lv_iload hx hb dX8_digest_65 (lv_at hl 0 rfl) ?_
  refine aVi (As := [.int 0, .int 3]) (ci := 8) S (c_X8_ofProcedure_29 l D cI cZ cJ o u ra ga H.size) mi_X8_ofProcedure kw_4_162 rfl rfl ⟨Nat.le_of_ble_eq_true rfl, Nat.le_of_ble_eq_true rfl⟩ hP hD hK hS hA hB (k := 0) rfl rfl rfl hl.1 (Nat.le_of_ble_eq_true rfl) ⟨Nat.le_of_ble_eq_true rfl, Nat.le_of_ble_eq_true rfl⟩ dX8_digest_67 (fun H locs hz hP hD hS => ?_)
  refine lv_i2l (v := 0) hx hb dX8_digest_70 (by decide) ?_
  refine xladd (v := 3237863443749147423) S dX8_digest_71 (by decide) ?_
  refine lv_lstore_n (lv' := [(1, .long 3237863443749147423), (4, .int 3), (3, .int 0), (0, .ref o)]) hx hb dX8_digest_72 rfl hl (by decide) rfl (fun ls hl => ?_)
  refine lv_iinc (v := 4) (lv' := [(4, .int 4), (1, .long 3237863443749147423), (3, .int 0), (0, .ref o)]) hx hb dX8_digest_73 hl (k := 1) rfl (by decide) (by decide) rfl (fun ls hl => ?_)
  refine lv_goto (tgt := 51) hx hb dX8_digest_76 (by decide) ?_
  refine lv_iload hx hb dX8_digest_51 (lv_at hl 0 rfl) ?_
  refine lv_bipush (v := 7) hx hb dX8_digest_53 (by decide) ?_
  refine lv_icmp_gt (tgt := 79) hx hb dX8_digest_55 (by decide) (fun c => absurd c (by decide)) (fun _ => ?_)
  refine lv_lload_n hx hb dX8_digest_58 rfl (lv_at hl 1 rfl) ?_
  refine lv_ldc2 hx hb S.2.2.2.1 (S.2.2.2.2 _ kw_3_239) dX8_digest_59 ?_
  refine xlmul (v := 8140046387675812033) S dX8_digest_62 (by decide) ?_
  refine lv_aload_n hx hb dX8_digest_63 rfl (lv_at hl 3 rfl) ?_
  refine lv_iload_n hx hb dX8_digest_64 rfl (lv_at hl 2 rfl) ?_
  refine lv_iload hx hb dX8_digest_65 (lv_at hl 0 rfl) ?_
  refine aVi (As := [.int 0, .int 4]) (ci := 8) S (c_X8_ofProcedure_30 l D cI cZ cJ o u ra ga H.size) mi_X8_ofProcedure kw_4_162 rfl rfl ⟨Nat.le_of_ble_eq_true rfl, Nat.le_of_ble_eq_true rfl⟩ hP hD hK hS hA hB (k := 0) rfl rfl rfl hl.1 (Nat.le_of_ble_eq_true rfl) ⟨Nat.le_of_ble_eq_true rfl, Nat.le_of_ble_eq_true rfl⟩ dX8_digest_67 (fun H locs hz hP hD hS => ?_)
  refine lv_i2l (v := 0) hx hb dX8_digest_70 (by decide) ?_
  refine xladd (v := 8140046387675812033) S dX8_digest_71 (by decide) ?_
  refine lv_lstore_n (lv' := [(1, .long 8140046387675812033), (4, .int 4), (3, .int 0), (0, .ref o)]) hx hb dX8_digest_72 rfl hl (by decide) rfl (fun ls hl => ?_)
  refine lv_iinc (v := 5) (lv' := [(4, .int 5), (1, .long 8140046387675812033), (3, .int 0), (0, .ref o)]) hx hb dX8_digest_73 hl (k := 1) rfl (by decide) (by decide) rfl (fun ls hl => ?_)
  refine lv_goto (tgt := 51) hx hb dX8_digest_76 (by decide) ?_
  refine lv_iload hx hb dX8_digest_51 (lv_at hl 0 rfl) ?_
  refine lv_bipush (v := 7) hx hb dX8_digest_53 (by decide) ?_
  refine lv_icmp_gt (tgt := 79) hx hb dX8_digest_55 (by decide) (fun c => absurd c (by decide)) (fun _ => ?_)
  refine lv_lload_n hx hb dX8_digest_58 rfl (lv_at hl 1 rfl) ?_
  refine lv_ldc2 hx hb S.2.2.2.1 (S.2.2.2.2 _ kw_3_239) dX8_digest_59 ?_
  refine xlmul (v := (-5912979013983549601)) S dX8_digest_62 (by decide) ?_
  refine lv_aload_n hx hb dX8_digest_63 rfl (lv_at hl 3 rfl) ?_
  refine lv_iload_n hx hb dX8_digest_64 rfl (lv_at hl 2 rfl) ?_
  refine lv_iload hx hb dX8_digest_65 (lv_at hl 0 rfl) ?_
  refine aVi (As := [.int 0, .int 5]) (ci := 8) S (c_X8_ofProcedure_31 l D cI cZ cJ o u ra ga H.size) mi_X8_ofProcedure kw_4_162 rfl rfl ⟨Nat.le_of_ble_eq_true rfl, Nat.le_of_ble_eq_true rfl⟩ hP hD hK hS hA hB (k := 0) rfl rfl rfl hl.1 (Nat.le_of_ble_eq_true rfl) ⟨Nat.le_of_ble_eq_true rfl, Nat.le_of_ble_eq_true rfl⟩ dX8_digest_67 (fun H locs hz hP hD hS => ?_)
  refine lv_i2l (v := 0) hx hb dX8_digest_70 (by decide) ?_
  refine xladd (v := (-5912979013983549601)) S dX8_digest_71 (by decide) ?_
  refine lv_lstore_n (lv' := [(1, .long (-5912979013983549601)), (4, .int 5), (3, .int 0), (0, .ref o)]) hx hb dX8_digest_72 rfl hl (by decide) rfl (fun ls hl => ?_)
  refine lv_iinc (v := 6) (lv' := [(4, .int 6), (1, .long (-5912979013983549601)), (3, .int 0), (0, .ref o)]) hx hb dX8_digest_73 hl (k := 1) rfl (by decide) (by decide) rfl (fun ls hl => ?_)
  refine lv_goto (tgt := 51) hx hb dX8_digest_76 (by decide) ?_
  refine lv_iload hx hb dX8_digest_51 (lv_at hl 0 rfl) ?_
  refine lv_bipush (v := 7) hx hb dX8_digest_53 (by decide) ?_
  refine lv_icmp_gt (tgt := 79) hx hb dX8_digest_55 (by decide) (fun c => absurd c (by decide)) (fun _ => ?_)
  refine lv_lload_n hx hb dX8_digest_58 rfl (lv_at hl 1 rfl) ?_
  refine lv_ldc2 hx hb S.2.2.2.1 (S.2.2.2.2 _ kw_3_239) dX8_digest_59 ?_
  refine xlmul (v := 1165091303605478529) S dX8_digest_62 (by decide) ?_
  refine lv_aload_n hx hb dX8_digest_63 rfl (lv_at hl 3 rfl) ?_
  refine lv_iload_n hx hb dX8_digest_64 rfl (lv_at hl 2 rfl) ?_
  refine lv_iload hx hb dX8_digest_65 (lv_at hl 0 rfl) ?_
  refine aVi (As := [.int 0, .int 6]) (ci := 8) S (c_X8_ofProcedure_32 l D cI cZ cJ o u ra ga H.size) mi_X8_ofProcedure kw_4_162 rfl rfl ⟨Nat.le_of_ble_eq_true rfl, Nat.le_of_ble_eq_true rfl⟩ hP hD hK hS hA hB (k := 0) rfl rfl rfl hl.1 (Nat.le_of_ble_eq_true rfl) ⟨Nat.le_of_ble_eq_true rfl, Nat.le_of_ble_eq_true rfl⟩ dX8_digest_67 (fun H locs hz hP hD hS => ?_)
  refine lv_i2l (v := (-1)) hx hb dX8_digest_70 (by decide) ?_
  refine xladd (v := 1165091303605478528) S dX8_digest_71 (by decide) ?_
  refine lv_lstore_n (lv' := [(1, .long 1165091303605478528), (4, .int 6), (3, .int 0), (0, .ref o)]) hx hb dX8_digest_72 rfl hl (by decide) rfl (fun ls hl => ?_)
  refine lv_iinc (v := 7) (lv' := [(4, .int 7), (1, .long 1165091303605478528), (3, .int 0), (0, .ref o)]) hx hb dX8_digest_73 hl (k := 1) rfl (by decide) (by decide) rfl (fun ls hl => ?_)
  refine lv_goto (tgt := 51) hx hb dX8_digest_76 (by decide) ?_
  refine lv_iload hx hb dX8_digest_51 (lv_at hl 0 rfl) ?_
  refine lv_bipush (v := 7) hx hb dX8_digest_53 (by decide) ?_
  refine lv_icmp_gt (tgt := 79) hx hb dX8_digest_55 (by decide) (fun c => absurd c (by decide)) (fun _ => ?_)
  refine lv_lload_n hx hb dX8_digest_58 rfl (lv_at hl 1 rfl) ?_
  refine lv_ldc2 hx hb S.2.2.2.1 (S.2.2.2.2 _ kw_3_239) dX8_digest_59 ?_
  refine xlmul (v := (-775657735649268864)) S dX8_digest_62 (by decide) ?_
  refine lv_aload_n hx hb dX8_digest_63 rfl (lv_at hl 3 rfl) ?_
  refine lv_iload_n hx hb dX8_digest_64 rfl (lv_at hl 2 rfl) ?_
  refine lv_iload hx hb dX8_digest_65 (lv_at hl 0 rfl) ?_
  refine aVi (As := [.int 0, .int 7]) (ci := 8) S (c_X8_ofProcedure_33 l D cI cZ cJ o u ra ga H.size) mi_X8_ofProcedure kw_4_162 rfl rfl ⟨Nat.le_of_ble_eq_true rfl, Nat.le_of_ble_eq_true rfl⟩ hP hD hK hS hA hB (k := 0) rfl rfl rfl hl.1 (Nat.le_of_ble_eq_true rfl) ⟨Nat.le_of_ble_eq_true rfl, Nat.le_of_ble_eq_true rfl⟩ dX8_digest_67 (fun H locs hz hP hD hS => ?_)
  refine lv_i2l (v := 0) hx hb dX8_digest_70 (by decide) ?_
  refine xladd (v := (-775657735649268864)) S dX8_digest_71 (by decide) ?_
  refine lv_lstore_n (lv' := [(1, .long (-775657735649268864)), (4, .int 7), (3, .int 0), (0, .ref o)]) hx hb dX8_digest_72 rfl hl (by decide) rfl (fun ls hl => ?_)
  refine lv_iinc (v := 8) (lv' := [(4, .int 8), (1, .long (-775657735649268864)), (3, .int 0), (0, .ref o)]) hx hb dX8_digest_73 hl (k := 1) rfl (by decide) (by decide) rfl (fun ls hl => ?_)
  refine lv_goto (tgt := 51) hx hb dX8_digest_76 (by decide) ?_
  refine lv_iload hx hb dX8_digest_51 (lv_at hl 0 rfl) ?_
  refine lv_bipush (v := 7) hx hb dX8_digest_53 (by decide) ?_
  refine lv_icmp_gt (tgt := 79) hx hb dX8_digest_55 (by decide) (fun _ => ?_) (fun c => absurd c (by decide))
  refine lv_iconst (v := 0) hx hb dX8_digest_79 (by decide) ?_
  refine lv_istore (lv' := [(4, .int 0), (1, .long (-775657735649268864)), (3, .int 0), (0, .ref o)]) hx hb dX8_digest_80 hl (by decide) rfl (fun ls hl => ?_)
  refine lv_iload hx hb dX8_digest_82 (lv_at hl 0 rfl) ?_
  refine lv_bipush (v := 7) hx hb dX8_digest_84 (by decide) ?_
  refine lv_icmp_gt (tgt := 110) hx hb dX8_digest_86 (by decide) (fun c => absurd c (by decide)) (fun _ => ?_)
  refine lv_lload_n hx hb dX8_digest_89 rfl (lv_at hl 1 rfl) ?_
  refine lv_ldc2 hx hb S.2.2.2.1 (S.2.2.2.2 _ kw_3_239) dX8_digest_90 ?_
  refine xlmul (v := (-5598645731417783168)) S dX8_digest_93 (by decide) ?_
  refine lv_aload_n hx hb dX8_digest_94 rfl (lv_at hl 3 rfl) ?_
  refine lv_iload_n hx hb dX8_digest_95 rfl (lv_at hl 2 rfl) ?_
  refine lv_iload hx hb dX8_digest_96 (lv_at hl 0 rfl) ?_
  refine aVi (As := [.int 0, .int 0]) (ci := 8) S (c_X8_hiddenBy_5 l D cI cZ cJ o u ra ga H.size) mi_X8_hiddenBy kw_4_194 rfl rfl ⟨Nat.le_of_ble_eq_true rfl, Nat.le_of_ble_eq_true rfl⟩ hP hD hK hS hA hB (k := 0) rfl rfl rfl hl.1 (Nat.le_of_ble_eq_true rfl) ⟨Nat.le_of_ble_eq_true rfl, Nat.le_of_ble_eq_true rfl⟩ dX8_digest_98 (fun H locs hz hP hD hS => ?_)
  refine lv_i2l (v := 0) hx hb dX8_digest_101 (by decide) ?_
  refine xladd (v := (-5598645731417783168)) S dX8_digest_102 (by decide) ?_
  refine lv_lstore_n (lv' := [(1, .long (-5598645731417783168)), (4, .int 0), (3, .int 0), (0, .ref o)]) hx hb dX8_digest_103 rfl hl (by decide) rfl (fun ls hl => ?_)
  refine lv_iinc (v := 1) (lv' := [(4, .int 1), (1, .long (-5598645731417783168)), (3, .int 0), (0, .ref o)]) hx hb dX8_digest_104 hl (k := 1) rfl (by decide) (by decide) rfl (fun ls hl => ?_)
  refine lv_goto (tgt := 82) hx hb dX8_digest_107 (by decide) ?_
  refine lv_iload hx hb dX8_digest_82 (lv_at hl 0 rfl) ?_
  refine lv_bipush (v := 7) hx hb dX8_digest_84 (by decide) ?_
  refine lv_icmp_gt (tgt := 110) hx hb dX8_digest_86 (by decide) (fun c => absurd c (by decide)) (fun _ => ?_)
  refine lv_lload_n hx hb dX8_digest_89 rfl (lv_at hl 1 rfl) ?_
  refine lv_ldc2 hx hb S.2.2.2.1 (S.2.2.2.2 _ kw_3_239) dX8_digest_90 ?_
  refine xlmul (v := (-7537321010565313664)) S dX8_digest_93 (by decide) ?_
  refine lv_aload_n hx hb dX8_digest_94 rfl (lv_at hl 3 rfl) ?_
  refine lv_iload_n hx hb dX8_digest_95 rfl (lv_at hl 2 rfl) ?_
  refine lv_iload hx hb dX8_digest_96 (lv_at hl 0 rfl) ?_
  refine aVi (As := [.int 0, .int 1]) (ci := 8) S (c_X8_hiddenBy_6 l D cI cZ cJ o u ra ga H.size) mi_X8_hiddenBy kw_4_194 rfl rfl ⟨Nat.le_of_ble_eq_true rfl, Nat.le_of_ble_eq_true rfl⟩ hP hD hK hS hA hB (k := 0) rfl rfl rfl hl.1 (Nat.le_of_ble_eq_true rfl) ⟨Nat.le_of_ble_eq_true rfl, Nat.le_of_ble_eq_true rfl⟩ dX8_digest_98 (fun H locs hz hP hD hS => ?_)
  refine lv_i2l (v := 0) hx hb dX8_digest_101 (by decide) ?_
  refine xladd (v := (-7537321010565313664)) S dX8_digest_102 (by decide) ?_
  refine lv_lstore_n (lv' := [(1, .long (-7537321010565313664)), (4, .int 1), (3, .int 0), (0, .ref o)]) hx hb dX8_digest_103 rfl hl (by decide) rfl (fun ls hl => ?_)
  refine lv_iinc (v := 2) (lv' := [(4, .int 2), (1, .long (-7537321010565313664)), (3, .int 0), (0, .ref o)]) hx hb dX8_digest_104 hl (k := 1) rfl (by decide) (by decide) rfl (fun ls hl => ?_)
  refine lv_goto (tgt := 82) hx hb dX8_digest_107 (by decide) ?_
  refine lv_iload hx hb dX8_digest_82 (lv_at hl 0 rfl) ?_
  refine lv_bipush (v := 7) hx hb dX8_digest_84 (by decide) ?_
  refine lv_icmp_gt (tgt := 110) hx hb dX8_digest_86 (by decide) (fun c => absurd c (by decide)) (fun _ => ?_)
  refine lv_lload_n hx hb dX8_digest_89 rfl (lv_at hl 1 rfl) ?_
  refine lv_ldc2 hx hb S.2.2.2.1 (S.2.2.2.2 _ kw_3_239) dX8_digest_90 ?_
  refine xlmul (v := 6150721630699447424) S dX8_digest_93 (by decide) ?_
  refine lv_aload_n hx hb dX8_digest_94 rfl (lv_at hl 3 rfl) ?_
  refine lv_iload_n hx hb dX8_digest_95 rfl (lv_at hl 2 rfl) ?_
  refine lv_iload hx hb dX8_digest_96 (lv_at hl 0 rfl) ?_
  refine aVi (As := [.int 0, .int 2]) (ci := 8) S (c_X8_hiddenBy_7 l D cI cZ cJ o u ra ga H.size) mi_X8_hiddenBy kw_4_194 rfl rfl ⟨Nat.le_of_ble_eq_true rfl, Nat.le_of_ble_eq_true rfl⟩ hP hD hK hS hA hB (k := 0) rfl rfl rfl hl.1 (Nat.le_of_ble_eq_true rfl) ⟨Nat.le_of_ble_eq_true rfl, Nat.le_of_ble_eq_true rfl⟩ dX8_digest_98 (fun H locs hz hP hD hS => ?_)
  refine lv_i2l (v := 0) hx hb dX8_digest_101 (by decide) ?_
  refine xladd (v := 6150721630699447424) S dX8_digest_102 (by decide) ?_
  refine lv_lstore_n (lv' := [(1, .long 6150721630699447424), (4, .int 2), (3, .int 0), (0, .ref o)]) hx hb dX8_digest_103 rfl hl (by decide) rfl (fun ls hl => ?_)
  refine lv_iinc (v := 3) (lv' := [(4, .int 3), (1, .long 6150721630699447424), (3, .int 0), (0, .ref o)]) hx hb dX8_digest_104 hl (k := 1) rfl (by decide) (by decide) rfl (fun ls hl => ?_)
  refine lv_goto (tgt := 82) hx hb dX8_digest_107 (by decide) ?_
  refine lv_iload hx hb dX8_digest_82 (lv_at hl 0 rfl) ?_
  refine lv_bipush (v := 7) hx hb dX8_digest_84 (by decide) ?_
  refine lv_icmp_gt (tgt := 110) hx hb dX8_digest_86 (by decide) (fun c => absurd c (by decide)) (fun _ => ?_)
  refine lv_lload_n hx hb dX8_digest_89 rfl (lv_at hl 1 rfl) ?_
  refine lv_ldc2 hx hb S.2.2.2.1 (S.2.2.2.2 _ kw_3_239) dX8_digest_90 ?_
  refine xlmul (v := 6204929814587353984) S dX8_digest_93 (by decide) ?_
  refine lv_aload_n hx hb dX8_digest_94 rfl (lv_at hl 3 rfl) ?_
  refine lv_iload_n hx hb dX8_digest_95 rfl (lv_at hl 2 rfl) ?_
  refine lv_iload hx hb dX8_digest_96 (lv_at hl 0 rfl) ?_
  refine aVi (As := [.int 0, .int 3]) (ci := 8) S (c_X8_hiddenBy_8 l D cI cZ cJ o u ra ga H.size) mi_X8_hiddenBy kw_4_194 rfl rfl ⟨Nat.le_of_ble_eq_true rfl, Nat.le_of_ble_eq_true rfl⟩ hP hD hK hS hA hB (k := 0) rfl rfl rfl hl.1 (Nat.le_of_ble_eq_true rfl) ⟨Nat.le_of_ble_eq_true rfl, Nat.le_of_ble_eq_true rfl⟩ dX8_digest_98 (fun H locs hz hP hD hS => ?_)
  refine lv_i2l (v := 0) hx hb dX8_digest_101 (by decide) ?_
  refine xladd (v := 6204929814587353984) S dX8_digest_102 (by decide) ?_
  refine lv_lstore_n (lv' := [(1, .long 6204929814587353984), (4, .int 3), (3, .int 0), (0, .ref o)]) hx hb dX8_digest_103 rfl hl (by decide) rfl (fun ls hl => ?_)
  refine lv_iinc (v := 4) (lv' := [(4, .int 4), (1, .long 6204929814587353984), (3, .int 0), (0, .ref o)]) hx hb dX8_digest_104 hl (k := 1) rfl (by decide) (by decide) rfl (fun ls hl => ?_)
  refine lv_goto (tgt := 82) hx hb dX8_digest_107 (by decide) ?_
  refine lv_iload hx hb dX8_digest_82 (lv_at hl 0 rfl) ?_
  refine lv_bipush (v := 7) hx hb dX8_digest_84 (by decide) ?_
  refine lv_icmp_gt (tgt := 110) hx hb dX8_digest_86 (by decide) (fun c => absurd c (by decide)) (fun _ => ?_)
  refine lv_lload_n hx hb dX8_digest_89 rfl (lv_at hl 1 rfl) ?_
  refine lv_ldc2 hx hb S.2.2.2.1 (S.2.2.2.2 _ kw_3_239) dX8_digest_90 ?_
  refine xlmul (v := 7885383515112457344) S dX8_digest_93 (by decide) ?_
  refine lv_aload_n hx hb dX8_digest_94 rfl (lv_at hl 3 rfl) ?_
  refine lv_iload_n hx hb dX8_digest_95 rfl (lv_at hl 2 rfl) ?_
  refine lv_iload hx hb dX8_digest_96 (lv_at hl 0 rfl) ?_
  refine aVi (As := [.int 0, .int 4]) (ci := 8) S (c_X8_hiddenBy_9 l D cI cZ cJ o u ra ga H.size) mi_X8_hiddenBy kw_4_194 rfl rfl ⟨Nat.le_of_ble_eq_true rfl, Nat.le_of_ble_eq_true rfl⟩ hP hD hK hS hA hB (k := 0) rfl rfl rfl hl.1 (Nat.le_of_ble_eq_true rfl) ⟨Nat.le_of_ble_eq_true rfl, Nat.le_of_ble_eq_true rfl⟩ dX8_digest_98 (fun H locs hz hP hD hS => ?_)
  refine lv_i2l (v := 0) hx hb dX8_digest_101 (by decide) ?_
  refine xladd (v := 7885383515112457344) S dX8_digest_102 (by decide) ?_
  refine lv_lstore_n (lv' := [(1, .long 7885383515112457344), (4, .int 4), (3, .int 0), (0, .ref o)]) hx hb dX8_digest_103 rfl hl (by decide) rfl (fun ls hl => ?_)
  refine lv_iinc (v := 5) (lv' := [(4, .int 5), (1, .long 7885383515112457344), (3, .int 0), (0, .ref o)]) hx hb dX8_digest_104 hl (k := 1) rfl (by decide) (by decide) rfl (fun ls hl => ?_)
  refine lv_goto (tgt := 82) hx hb dX8_digest_107 (by decide) ?_
  refine lv_iload hx hb dX8_digest_82 (lv_at hl 0 rfl) ?_
  refine lv_bipush (v := 7) hx hb dX8_digest_84 (by decide) ?_
  refine lv_icmp_gt (tgt := 110) hx hb dX8_digest_86 (by decide) (fun c => absurd c (by decide)) (fun _ => ?_)
  refine lv_lload_n hx hb dX8_digest_89 rfl (lv_at hl 1 rfl) ?_
  refine lv_ldc2 hx hb S.2.2.2.1 (S.2.2.2.2 _ kw_3_239) dX8_digest_90 ?_
  refine xlmul (v := 4639216010262006656) S dX8_digest_93 (by decide) ?_
  refine lv_aload_n hx hb dX8_digest_94 rfl (lv_at hl 3 rfl) ?_
  refine lv_iload_n hx hb dX8_digest_95 rfl (lv_at hl 2 rfl) ?_
  refine lv_iload hx hb dX8_digest_96 (lv_at hl 0 rfl) ?_
  refine aVi (As := [.int 0, .int 5]) (ci := 8) S (c_X8_hiddenBy_10 l D cI cZ cJ o u ra ga H.size) mi_X8_hiddenBy kw_4_194 rfl rfl ⟨Nat.le_of_ble_eq_true rfl, Nat.le_of_ble_eq_true rfl⟩ hP hD hK hS hA hB (k := 0) rfl rfl rfl hl.1 (Nat.le_of_ble_eq_true rfl) ⟨Nat.le_of_ble_eq_true rfl, Nat.le_of_ble_eq_true rfl⟩ dX8_digest_98 (fun H locs hz hP hD hS => ?_)
  refine lv_i2l (v := 0) hx hb dX8_digest_101 (by decide) ?_
  refine xladd (v := 4639216010262006656) S dX8_digest_102 (by decide) ?_
  refine lv_lstore_n (lv' := [(1, .long 4639216010262006656), (4, .int 5), (3, .int 0), (0, .ref o)]) hx hb dX8_digest_103 rfl hl (by decide) rfl (fun ls hl => ?_)
  refine lv_iinc (v := 6) (lv' := [(4, .int 6), (1, .long 4639216010262006656), (3, .int 0), (0, .ref o)]) hx hb dX8_digest_104 hl (k := 1) rfl (by decide) (by decide) rfl (fun ls hl => ?_)
  refine lv_goto (tgt := 82) hx hb dX8_digest_107 (by decide) ?_
  refine lv_iload hx hb dX8_digest_82 (lv_at hl 0 rfl) ?_
  refine lv_bipush (v := 7) hx hb dX8_digest_84 (by decide) ?_
  refine lv_icmp_gt (tgt := 110) hx hb dX8_digest_86 (by decide) (fun c => absurd c (by decide)) (fun _ => ?_)
  refine lv_lload_n hx hb dX8_digest_89 rfl (lv_at hl 1 rfl) ?_
  refine lv_ldc2 hx hb S.2.2.2.1 (S.2.2.2.2 _ kw_3_239) dX8_digest_90 ?_
  refine xlmul (v := (-3758256271554206592)) S dX8_digest_93 (by decide) ?_
  refine lv_aload_n hx hb dX8_digest_94 rfl (lv_at hl 3 rfl) ?_
  refine lv_iload_n hx hb dX8_digest_95 rfl (lv_at hl 2 rfl) ?_
  refine lv_iload hx hb dX8_digest_96 (lv_at hl 0 rfl) ?_
  refine aVi (As := [.int 0, .int 6]) (ci := 8) S (c_X8_hiddenBy_11 l D cI cZ cJ o u ra ga H.size) mi_X8_hiddenBy kw_4_194 rfl rfl ⟨Nat.le_of_ble_eq_true rfl, Nat.le_of_ble_eq_true rfl⟩ hP hD hK hS hA hB (k := 0) rfl rfl rfl hl.1 (Nat.le_of_ble_eq_true rfl) ⟨Nat.le_of_ble_eq_true rfl, Nat.le_of_ble_eq_true rfl⟩ dX8_digest_98 (fun H locs hz hP hD hS => ?_)
  refine lv_i2l (v := 0) hx hb dX8_digest_101 (by decide) ?_
  refine xladd (v := (-3758256271554206592)) S dX8_digest_102 (by decide) ?_
  refine lv_lstore_n (lv' := [(1, .long (-3758256271554206592)), (4, .int 6), (3, .int 0), (0, .ref o)]) hx hb dX8_digest_103 rfl hl (by decide) rfl (fun ls hl => ?_)
  refine lv_iinc (v := 7) (lv' := [(4, .int 7), (1, .long (-3758256271554206592)), (3, .int 0), (0, .ref o)]) hx hb dX8_digest_104 hl (k := 1) rfl (by decide) (by decide) rfl (fun ls hl => ?_)
  refine lv_goto (tgt := 82) hx hb dX8_digest_107 (by decide) ?_
  refine lv_iload hx hb dX8_digest_82 (lv_at hl 0 rfl) ?_
  refine lv_bipush (v := 7) hx hb dX8_digest_84 (by decide) ?_
  refine lv_icmp_gt (tgt := 110) hx hb dX8_digest_86 (by decide) (fun c => absurd c (by decide)) (fun _ => ?_)
  refine lv_lload_n hx hb dX8_digest_89 rfl (lv_at hl 1 rfl) ?_
  refine lv_ldc2 hx hb S.2.2.2.1 (S.2.2.2.2 _ kw_3_239) dX8_digest_90 ?_
  refine xlmul (v := (-5825479975923094656)) S dX8_digest_93 (by decide) ?_
  refine lv_aload_n hx hb dX8_digest_94 rfl (lv_at hl 3 rfl) ?_
  refine lv_iload_n hx hb dX8_digest_95 rfl (lv_at hl 2 rfl) ?_
  refine lv_iload hx hb dX8_digest_96 (lv_at hl 0 rfl) ?_
  refine aVi (As := [.int 0, .int 7]) (ci := 8) S (c_X8_hiddenBy_12 l D cI cZ cJ o u ra ga H.size) mi_X8_hiddenBy kw_4_194 rfl rfl ⟨Nat.le_of_ble_eq_true rfl, Nat.le_of_ble_eq_true rfl⟩ hP hD hK hS hA hB (k := 0) rfl rfl rfl hl.1 (Nat.le_of_ble_eq_true rfl) ⟨Nat.le_of_ble_eq_true rfl, Nat.le_of_ble_eq_true rfl⟩ dX8_digest_98 (fun H locs hz hP hD hS => ?_)
  refine lv_i2l (v := 0) hx hb dX8_digest_101 (by decide) ?_
  refine xladd (v := (-5825479975923094656)) S dX8_digest_102 (by decide) ?_
  refine lv_lstore_n (lv' := [(1, .long (-5825479975923094656)), (4, .int 7), (3, .int 0), (0, .ref o)]) hx hb dX8_digest_103 rfl hl (by decide) rfl (fun ls hl => ?_)
  refine lv_iinc (v := 8) (lv' := [(4, .int 8), (1, .long (-5825479975923094656)), (3, .int 0), (0, .ref o)]) hx hb dX8_digest_104 hl (k := 1) rfl (by decide) (by decide) rfl (fun ls hl => ?_)
  refine lv_goto (tgt := 82) hx hb dX8_digest_107 (by decide) ?_
  refine lv_iload hx hb dX8_digest_82 (lv_at hl 0 rfl) ?_
  refine lv_bipush (v := 7) hx hb dX8_digest_84 (by decide) ?_
  refine lv_icmp_gt (tgt := 110) hx hb dX8_digest_86 (by decide) (fun _ => ?_) (fun c => absurd c (by decide))
  refine lv_aload_n hx hb dX8_digest_110 rfl (lv_at hl 3 rfl) ?_
  refine lv_iload_n hx hb dX8_digest_111 rfl (lv_at hl 2 rfl) ?_
  refine rdV (As := [.int 0]) (ci := 8) S (c_X8_codeLength_0 l D cI cZ cJ o u) mi_X8_codeLength kw_4_190 ⟨rfl, rfl⟩ ⟨Nat.le_of_ble_eq_true rfl, Nat.le_of_ble_eq_true rfl⟩ hP hK (k := 0) rfl rfl rfl hl.1 (Nat.le_of_ble_eq_true rfl) ⟨Nat.le_of_ble_eq_true rfl, Nat.le_of_ble_eq_true rfl⟩ dX8_digest_112 ?_
  refine lv_istore (lv' := [(4, .int 0), (1, .long (-5825479975923094656)), (3, .int 0), (0, .ref o)]) hx hb dX8_digest_115 hl (by decide) rfl (fun ls hl => ?_)
  refine lv_iconst (v := 0) hx hb dX8_digest_117 (by decide) ?_
  refine lv_istore (lv' := [(5, .int 0), (4, .int 0), (1, .long (-5825479975923094656)), (3, .int 0), (0, .ref o)]) hx hb dX8_digest_118 hl (by decide) rfl (fun ls hl => ?_)
  refine lv_iload hx hb dX8_digest_120 (lv_at hl 0 rfl) ?_
  refine lv_iload hx hb dX8_digest_122 (lv_at hl 1 rfl) ?_
  refine lv_iconst (v := 4) hx hb dX8_digest_124 (by decide) ?_
  refine ximul (v := 0) S dX8_digest_125 (by decide) ?_
  refine lv_icmp_ge (tgt := 156) hx hb dX8_digest_126 (by decide) (fun _ => ?_) (fun c => absurd c (by decide))
  refine lv_iinc (v := 1) (lv' := [(3, .int 1), (5, .int 0), (4, .int 0), (1, .long (-5825479975923094656)), (0, .ref o)]) hx hb dX8_digest_156 hl (k := 3) rfl (by decide) (by decide) rfl (fun ls hl => ?_)
  refine lv_goto (tgt := 37) hx hb dX8_digest_159 (by decide) ?_
  refine lv_iload_n hx hb dX8_digest_37 rfl (lv_at hl 0 rfl) ?_
  refine lv_aload_n hx hb dX8_digest_38 rfl (lv_at hl 4 rfl) ?_
  refine xg (ci := 8) S inX8 rfl hK hP (q0 := 0) rfl 0 (by decide) rfl kw_3_20 rfl dX8_digest_39 ?_
  refine xg (ci := 1) S inX1 rfl hK hP (q0 := 1) rfl 0 (by decide) rfl kw_1_40 rfl dX8_digest_42 ?_
  refine lv_icmp_ge (tgt := 162) hx hb dX8_digest_45 (by decide) (fun _ => ?_) (fun c => absurd c (by decide))
  refine lv_iconst (v := 0) hx hb dX8_digest_162 (by decide) ?_
  refine lv_istore_n (lv' := [(3, .int 0), (5, .int 0), (4, .int 0), (1, .long (-5825479975923094656)), (0, .ref o)]) hx hb dX8_digest_163 rfl hl (by decide) rfl (fun ls hl => ?_)
  refine lv_iload_n hx hb dX8_digest_164 rfl (lv_at hl 0 rfl) ?_
  refine lv_aload_n hx hb dX8_digest_165 rfl (lv_at hl 4 rfl) ?_
  refine xg (ci := 8) S inX8 rfl hK hP (q0 := 0) rfl 1 (by decide) rfl kw_3_21 rfl dX8_digest_166 ?_
  refine xg (ci := 5) S inX5 rfl hK hP (q0 := 13) rfl 0 (by decide) rfl kw_1_110 rfl dX8_digest_169 ?_
  refine lv_iconst (v := 4) hx hb dX8_digest_172 (by decide) ?_
  refine ximul (v := 0) S dX8_digest_173 (by decide) ?_
  refine lv_icmp_ge (tgt := 203) hx hb dX8_digest_174 (by decide) (fun _ => ?_) (fun c => absurd c (by decide))
  refine lv_iconst (v := 0) hx hb dX8_digest_203 (by decide) ?_
  refine lv_istore_n (lv' := [(3, .int 0), (5, .int 0), (4, .int 0), (1, .long (-5825479975923094656)), (0, .ref o)]) hx hb dX8_digest_204 rfl hl (by decide) rfl (fun ls hl => ?_)
  refine lv_iload_n hx hb dX8_digest_205 rfl (lv_at hl 0 rfl) ?_
  refine lv_aload_n hx hb dX8_digest_206 rfl (lv_at hl 4 rfl) ?_
  refine xg (ci := 8) S inX8 rfl hK hP (q0 := 0) rfl 3 (by decide) rfl kw_3_23 rfl dX8_digest_207 ?_
  refine xg (ci := 2) S inX2 rfl hK hP (q0 := 34) rfl 3 (by decide) rfl kw_2_14 rfl dX8_digest_210 ?_
  refine lv_iconst (v := 3) hx hb dX8_digest_213 (by decide) ?_
  refine ximul (v := 3) S dX8_digest_214 (by decide) ?_
  refine lv_icmp_ge (tgt := 242) hx hb dX8_digest_215 (by decide) (fun c => absurd c (by decide)) (fun _ => ?_)
  refine lv_lload_n hx hb dX8_digest_218 rfl (lv_at hl 3 rfl) ?_
  refine lv_ldc2 hx hb S.2.2.2.1 (S.2.2.2.2 _ kw_3_239) dX8_digest_219 ?_
  refine xlmul (v := 3877561483479581824) S dX8_digest_222 (by decide) ?_
  refine lv_aload_n hx hb dX8_digest_223 rfl (lv_at hl 4 rfl) ?_
  refine lv_iload_n hx hb dX8_digest_224 rfl (lv_at hl 0 rfl) ?_
  refine lv_iconst (v := 3) hx hb dX8_digest_225 (by decide) ?_
  refine xidiv (v := 0) S dX8_digest_226 (by decide) (by decide) ?_
  refine lv_iload_n hx hb dX8_digest_227 rfl (lv_at hl 0 rfl) ?_
  refine lv_iconst (v := 3) hx hb dX8_digest_228 (by decide) ?_
  refine xirem (v := 0) S dX8_digest_229 (by decide) (by decide) ?_
  refine aVi (As := [.int 0, .int 0]) (ci := 8) S (c_X8_fault_11 l D cI cZ cJ o u ra ga H.size) mi_X8_fault kw_4_227 rfl rfl ⟨Nat.le_of_ble_eq_true rfl, Nat.le_of_ble_eq_true rfl⟩ hP hD hK hS hA hB (k := 0) rfl rfl rfl hl.1 (Nat.le_of_ble_eq_true rfl) ⟨Nat.le_of_ble_eq_true rfl, Nat.le_of_ble_eq_true rfl⟩ dX8_digest_230 (fun H locs hz hP hD hS => ?_)
  refine lv_i2l (v := 10) hx hb dX8_digest_233 (by decide) ?_
  refine xladd (v := 3877561483479581834) S dX8_digest_234 (by decide) ?_
  refine lv_lstore_n (lv' := [(1, .long 3877561483479581834), (3, .int 0), (5, .int 0), (4, .int 0), (0, .ref o)]) hx hb dX8_digest_235 rfl hl (by decide) rfl (fun ls hl => ?_)
  refine lv_iinc (v := 1) (lv' := [(3, .int 1), (1, .long 3877561483479581834), (5, .int 0), (4, .int 0), (0, .ref o)]) hx hb dX8_digest_236 hl (k := 1) rfl (by decide) (by decide) rfl (fun ls hl => ?_)
  refine lv_goto (tgt := 205) hx hb dX8_digest_239 (by decide) ?_
  refine lv_iload_n hx hb dX8_digest_205 rfl (lv_at hl 0 rfl) ?_
  refine lv_aload_n hx hb dX8_digest_206 rfl (lv_at hl 4 rfl) ?_
  refine xg (ci := 8) S inX8 rfl hK hP (q0 := 0) rfl 3 (by decide) rfl kw_3_23 rfl dX8_digest_207 ?_
  refine xg (ci := 2) S inX2 rfl hK hP (q0 := 34) rfl 3 (by decide) rfl kw_2_14 rfl dX8_digest_210 ?_
  refine lv_iconst (v := 3) hx hb dX8_digest_213 (by decide) ?_
  refine ximul (v := 3) S dX8_digest_214 (by decide) ?_
  refine lv_icmp_ge (tgt := 242) hx hb dX8_digest_215 (by decide) (fun c => absurd c (by decide)) (fun _ => ?_)
  refine lv_lload_n hx hb dX8_digest_218 rfl (lv_at hl 1 rfl) ?_
  refine lv_ldc2 hx hb S.2.2.2.1 (S.2.2.2.2 _ kw_3_239) dX8_digest_219 ?_
  refine xlmul (v := (-8922802528099824458)) S dX8_digest_222 (by decide) ?_
  refine lv_aload_n hx hb dX8_digest_223 rfl (lv_at hl 4 rfl) ?_
  refine lv_iload_n hx hb dX8_digest_224 rfl (lv_at hl 0 rfl) ?_
  refine lv_iconst (v := 3) hx hb dX8_digest_225 (by decide) ?_
  refine xidiv (v := 0) S dX8_digest_226 (by decide) (by decide) ?_
  refine lv_iload_n hx hb dX8_digest_227 rfl (lv_at hl 0 rfl) ?_
  refine lv_iconst (v := 3) hx hb dX8_digest_228 (by decide) ?_
  refine xirem (v := 1) S dX8_digest_229 (by decide) (by decide) ?_
  refine aVi (As := [.int 0, .int 1]) (ci := 8) S (c_X8_fault_12 l D cI cZ cJ o u ra ga H.size) mi_X8_fault kw_4_227 rfl rfl ⟨Nat.le_of_ble_eq_true rfl, Nat.le_of_ble_eq_true rfl⟩ hP hD hK hS hA hB (k := 0) rfl rfl rfl hl.1 (Nat.le_of_ble_eq_true rfl) ⟨Nat.le_of_ble_eq_true rfl, Nat.le_of_ble_eq_true rfl⟩ dX8_digest_230 (fun H locs hz hP hD hS => ?_)
  refine lv_i2l (v := 0) hx hb dX8_digest_233 (by decide) ?_
  refine xladd (v := (-8922802528099824458)) S dX8_digest_234 (by decide) ?_
  refine lv_lstore_n (lv' := [(1, .long (-8922802528099824458)), (3, .int 1), (5, .int 0), (4, .int 0), (0, .ref o)]) hx hb dX8_digest_235 rfl hl (by decide) rfl (fun ls hl => ?_)
  refine lv_iinc (v := 2) (lv' := [(3, .int 2), (1, .long (-8922802528099824458)), (5, .int 0), (4, .int 0), (0, .ref o)]) hx hb dX8_digest_236 hl (k := 1) rfl (by decide) (by decide) rfl (fun ls hl => ?_)
  refine lv_goto (tgt := 205) hx hb dX8_digest_239 (by decide) ?_
  refine lv_iload_n hx hb dX8_digest_205 rfl (lv_at hl 0 rfl) ?_
  refine lv_aload_n hx hb dX8_digest_206 rfl (lv_at hl 4 rfl) ?_
  refine xg (ci := 8) S inX8 rfl hK hP (q0 := 0) rfl 3 (by decide) rfl kw_3_23 rfl dX8_digest_207 ?_
  refine xg (ci := 2) S inX2 rfl hK hP (q0 := 34) rfl 3 (by decide) rfl kw_2_14 rfl dX8_digest_210 ?_
  refine lv_iconst (v := 3) hx hb dX8_digest_213 (by decide) ?_
  refine ximul (v := 3) S dX8_digest_214 (by decide) ?_
  refine lv_icmp_ge (tgt := 242) hx hb dX8_digest_215 (by decide) (fun c => absurd c (by decide)) (fun _ => ?_)
  refine lv_lload_n hx hb dX8_digest_218 rfl (lv_at hl 1 rfl) ?_
  refine lv_ldc2 hx hb S.2.2.2.1 (S.2.2.2.2 _ kw_3_239) dX8_digest_219 ?_
  refine xlmul (v := 94282734548716042) S dX8_digest_222 (by decide) ?_
  refine lv_aload_n hx hb dX8_digest_223 rfl (lv_at hl 4 rfl) ?_
  refine lv_iload_n hx hb dX8_digest_224 rfl (lv_at hl 0 rfl) ?_
  refine lv_iconst (v := 3) hx hb dX8_digest_225 (by decide) ?_
  refine xidiv (v := 0) S dX8_digest_226 (by decide) (by decide) ?_
  refine lv_iload_n hx hb dX8_digest_227 rfl (lv_at hl 0 rfl) ?_
  refine lv_iconst (v := 3) hx hb dX8_digest_228 (by decide) ?_
  refine xirem (v := 2) S dX8_digest_229 (by decide) (by decide) ?_
  refine aVi (As := [.int 0, .int 2]) (ci := 8) S (c_X8_fault_13 l D cI cZ cJ o u ra ga H.size) mi_X8_fault kw_4_227 rfl rfl ⟨Nat.le_of_ble_eq_true rfl, Nat.le_of_ble_eq_true rfl⟩ hP hD hK hS hA hB (k := 0) rfl rfl rfl hl.1 (Nat.le_of_ble_eq_true rfl) ⟨Nat.le_of_ble_eq_true rfl, Nat.le_of_ble_eq_true rfl⟩ dX8_digest_230 (fun H locs hz hP hD hS => ?_)
  refine lv_i2l (v := (-1)) hx hb dX8_digest_233 (by decide) ?_
  refine xladd (v := 94282734548716041) S dX8_digest_234 (by decide) ?_
  refine lv_lstore_n (lv' := [(1, .long 94282734548716041), (3, .int 2), (5, .int 0), (4, .int 0), (0, .ref o)]) hx hb dX8_digest_235 rfl hl (by decide) rfl (fun ls hl => ?_)
  refine lv_iinc (v := 3) (lv' := [(3, .int 3), (1, .long 94282734548716041), (5, .int 0), (4, .int 0), (0, .ref o)]) hx hb dX8_digest_236 hl (k := 1) rfl (by decide) (by decide) rfl (fun ls hl => ?_)
  refine lv_goto (tgt := 205) hx hb dX8_digest_239 (by decide) ?_
  refine lv_iload_n hx hb dX8_digest_205 rfl (lv_at hl 0 rfl) ?_
  refine lv_aload_n hx hb dX8_digest_206 rfl (lv_at hl 4 rfl) ?_
  refine xg (ci := 8) S inX8 rfl hK hP (q0 := 0) rfl 3 (by decide) rfl kw_3_23 rfl dX8_digest_207 ?_
  refine xg (ci := 2) S inX2 rfl hK hP (q0 := 34) rfl 3 (by decide) rfl kw_2_14 rfl dX8_digest_210 ?_
  refine lv_iconst (v := 3) hx hb dX8_digest_213 (by decide) ?_
  refine ximul (v := 3) S dX8_digest_214 (by decide) ?_
  refine lv_icmp_ge (tgt := 242) hx hb dX8_digest_215 (by decide) (fun _ => ?_) (fun c => absurd c (by decide))
  refine lv_iconst (v := 0) hx hb dX8_digest_242 (by decide) ?_
  refine lv_istore_n (lv' := [(3, .int 0), (1, .long 94282734548716041), (5, .int 0), (4, .int 0), (0, .ref o)]) hx hb dX8_digest_243 rfl hl (by decide) rfl (fun ls hl => ?_)
  refine lv_iload_n hx hb dX8_digest_244 rfl (lv_at hl 0 rfl) ?_
  refine lv_bipush (v := 10) hx hb dX8_digest_245 (by decide) ?_
  refine lv_icmp_gt (tgt := 269) hx hb dX8_digest_247 (by decide) (fun c => absurd c (by decide)) (fun _ => ?_)
  refine lv_lload_n hx hb dX8_digest_250 rfl (lv_at hl 1 rfl) ?_
  refine lv_ldc2 hx hb S.2.2.2.1 (S.2.2.2.2 _ kw_3_239) dX8_digest_251 ?_
  refine xlmul (v := 2922764771010197271) S dX8_digest_254 (by decide) ?_
  refine lv_aload_n hx hb dX8_digest_255 rfl (lv_at hl 4 rfl) ?_
  refine lv_iload_n hx hb dX8_digest_256 rfl (lv_at hl 0 rfl) ?_
  refine aVi (As := [.int 0]) (ci := 8) S (c_X8_ofRun_3 l D cI cZ cJ o u ra ga H.size) mi_X8_ofRun kw_4_231 rfl rfl ⟨Nat.le_of_ble_eq_true rfl, Nat.le_of_ble_eq_true rfl⟩ hP hD hK hS hA hB (k := 0) rfl rfl rfl hl.1 (Nat.le_of_ble_eq_true rfl) ⟨Nat.le_of_ble_eq_true rfl, Nat.le_of_ble_eq_true rfl⟩ dX8_digest_257 (fun H locs hz hP hD hS => ?_)
  refine lv_i2l (v := 0) hx hb dX8_digest_260 (by decide) ?_
  refine xladd (v := 2922764771010197271) S dX8_digest_261 (by decide) ?_
  refine lv_lstore_n (lv' := [(1, .long 2922764771010197271), (3, .int 0), (5, .int 0), (4, .int 0), (0, .ref o)]) hx hb dX8_digest_262 rfl hl (by decide) rfl (fun ls hl => ?_)
  refine lv_iinc (v := 1) (lv' := [(3, .int 1), (1, .long 2922764771010197271), (5, .int 0), (4, .int 0), (0, .ref o)]) hx hb dX8_digest_263 hl (k := 1) rfl (by decide) (by decide) rfl (fun ls hl => ?_)
  refine lv_goto (tgt := 244) hx hb dX8_digest_266 (by decide) ?_
  refine lv_iload_n hx hb dX8_digest_244 rfl (lv_at hl 0 rfl) ?_
  refine lv_bipush (v := 10) hx hb dX8_digest_245 (by decide) ?_
  refine lv_icmp_gt (tgt := 269) hx hb dX8_digest_247 (by decide) (fun c => absurd c (by decide)) (fun _ => ?_)
  refine lv_lload_n hx hb dX8_digest_250 rfl (lv_at hl 1 rfl) ?_
  refine lv_ldc2 hx hb S.2.2.2.1 (S.2.2.2.2 _ kw_3_239) dX8_digest_251 ?_
  refine xlmul (v := (-1628012467231642679)) S dX8_digest_254 (by decide) ?_
  refine lv_aload_n hx hb dX8_digest_255 rfl (lv_at hl 4 rfl) ?_
  refine lv_iload_n hx hb dX8_digest_256 rfl (lv_at hl 0 rfl) ?_
  refine aVi (As := [.int 1]) (ci := 8) S (c_X8_ofRun_4 l D cI cZ cJ o u ra ga H.size) mi_X8_ofRun kw_4_231 rfl rfl ⟨Nat.le_of_ble_eq_true rfl, Nat.le_of_ble_eq_true rfl⟩ hP hD hK hS hA hB (k := 0) rfl rfl rfl hl.1 (Nat.le_of_ble_eq_true rfl) ⟨Nat.le_of_ble_eq_true rfl, Nat.le_of_ble_eq_true rfl⟩ dX8_digest_257 (fun H locs hz hP hD hS => ?_)
  refine lv_i2l (v := 0) hx hb dX8_digest_260 (by decide) ?_
  refine xladd (v := (-1628012467231642679)) S dX8_digest_261 (by decide) ?_
  refine lv_lstore_n (lv' := [(1, .long (-1628012467231642679)), (3, .int 1), (5, .int 0), (4, .int 0), (0, .ref o)]) hx hb dX8_digest_262 rfl hl (by decide) rfl (fun ls hl => ?_)
  refine lv_iinc (v := 2) (lv' := [(3, .int 2), (1, .long (-1628012467231642679)), (5, .int 0), (4, .int 0), (0, .ref o)]) hx hb dX8_digest_263 hl (k := 1) rfl (by decide) (by decide) rfl (fun ls hl => ?_)
  refine lv_goto (tgt := 244) hx hb dX8_digest_266 (by decide) ?_
  refine lv_iload_n hx hb dX8_digest_244 rfl (lv_at hl 0 rfl) ?_
  refine lv_bipush (v := 10) hx hb dX8_digest_245 (by decide) ?_
  refine lv_icmp_gt (tgt := 269) hx hb dX8_digest_247 (by decide) (fun c => absurd c (by decide)) (fun _ => ?_)
  refine lv_lload_n hx hb dX8_digest_250 rfl (lv_at hl 1 rfl) ?_
  refine lv_ldc2 hx hb S.2.2.2.1 (S.2.2.2.2 _ kw_3_239) dX8_digest_251 ?_
  refine xlmul (v := 4871845736947731799) S dX8_digest_254 (by decide) ?_
  refine lv_aload_n hx hb dX8_digest_255 rfl (lv_at hl 4 rfl) ?_
  refine lv_iload_n hx hb dX8_digest_256 rfl (lv_at hl 0 rfl) ?_
  refine aVi (As := [.int 2]) (ci := 8) S (c_X8_ofRun_5 l D cI cZ cJ o u ra ga H.size) mi_X8_ofRun kw_4_231 rfl rfl ⟨Nat.le_of_ble_eq_true rfl, Nat.le_of_ble_eq_true rfl⟩ hP hD hK hS hA hB (k := 0) rfl rfl rfl hl.1 (Nat.le_of_ble_eq_true rfl) ⟨Nat.le_of_ble_eq_true rfl, Nat.le_of_ble_eq_true rfl⟩ dX8_digest_257 (fun H locs hz hP hD hS => ?_)
  refine lv_i2l (v := 0) hx hb dX8_digest_260 (by decide) ?_
  refine xladd (v := 4871845736947731799) S dX8_digest_261 (by decide) ?_
  refine lv_lstore_n (lv' := [(1, .long 4871845736947731799), (3, .int 2), (5, .int 0), (4, .int 0), (0, .ref o)]) hx hb dX8_digest_262 rfl hl (by decide) rfl (fun ls hl => ?_)
  refine lv_iinc (v := 3) (lv' := [(3, .int 3), (1, .long 4871845736947731799), (5, .int 0), (4, .int 0), (0, .ref o)]) hx hb dX8_digest_263 hl (k := 1) rfl (by decide) (by decide) rfl (fun ls hl => ?_)
  refine lv_goto (tgt := 244) hx hb dX8_digest_266 (by decide) ?_
  refine lv_iload_n hx hb dX8_digest_244 rfl (lv_at hl 0 rfl) ?_
  refine lv_bipush (v := 10) hx hb dX8_digest_245 (by decide) ?_
  refine lv_icmp_gt (tgt := 269) hx hb dX8_digest_247 (by decide) (fun c => absurd c (by decide)) (fun _ => ?_)
  refine lv_lload_n hx hb dX8_digest_250 rfl (lv_at hl 1 rfl) ?_
  refine lv_ldc2 hx hb S.2.2.2.1 (S.2.2.2.2 _ kw_3_239) dX8_digest_251 ?_
  refine xlmul (v := 3453265255703272841) S dX8_digest_254 (by decide) ?_
  refine lv_aload_n hx hb dX8_digest_255 rfl (lv_at hl 4 rfl) ?_
  refine lv_iload_n hx hb dX8_digest_256 rfl (lv_at hl 0 rfl) ?_
  refine aVi (As := [.int 3]) (ci := 8) S (c_X8_ofRun_6 l D cI cZ cJ o u ra ga H.size) mi_X8_ofRun kw_4_231 rfl rfl ⟨Nat.le_of_ble_eq_true rfl, Nat.le_of_ble_eq_true rfl⟩ hP hD hK hS hA hB (k := 0) rfl rfl rfl hl.1 (Nat.le_of_ble_eq_true rfl) ⟨Nat.le_of_ble_eq_true rfl, Nat.le_of_ble_eq_true rfl⟩ dX8_digest_257 (fun H locs hz hP hD hS => ?_)
  refine lv_i2l (v := 0) hx hb dX8_digest_260 (by decide) ?_
  refine xladd (v := 3453265255703272841) S dX8_digest_261 (by decide) ?_
  refine lv_lstore_n (lv' := [(1, .long 3453265255703272841), (3, .int 3), (5, .int 0), (4, .int 0), (0, .ref o)]) hx hb dX8_digest_262 rfl hl (by decide) rfl (fun ls hl => ?_)
  refine lv_iinc (v := 4) (lv' := [(3, .int 4), (1, .long 3453265255703272841), (5, .int 0), (4, .int 0), (0, .ref o)]) hx hb dX8_digest_263 hl (k := 1) rfl (by decide) (by decide) rfl (fun ls hl => ?_)
  refine lv_goto (tgt := 244) hx hb dX8_digest_266 (by decide) ?_
  refine lv_iload_n hx hb dX8_digest_244 rfl (lv_at hl 0 rfl) ?_
  refine lv_bipush (v := 10) hx hb dX8_digest_245 (by decide) ?_
  refine lv_icmp_gt (tgt := 269) hx hb dX8_digest_247 (by decide) (fun c => absurd c (by decide)) (fun _ => ?_)
  refine lv_lload_n hx hb dX8_digest_250 rfl (lv_at hl 1 rfl) ?_
  refine lv_ldc2 hx hb S.2.2.2.1 (S.2.2.2.2 _ kw_3_239) dX8_digest_251 ?_
  refine xlmul (v := (-3629241515455851625)) S dX8_digest_254 (by decide) ?_
  refine lv_aload_n hx hb dX8_digest_255 rfl (lv_at hl 4 rfl) ?_
  refine lv_iload_n hx hb dX8_digest_256 rfl (lv_at hl 0 rfl) ?_
  refine aVi (As := [.int 4]) (ci := 8) S (c_X8_ofRun_7 l D cI cZ cJ o u ra ga H.size) mi_X8_ofRun kw_4_231 rfl rfl ⟨Nat.le_of_ble_eq_true rfl, Nat.le_of_ble_eq_true rfl⟩ hP hD hK hS hA hB (k := 0) rfl rfl rfl hl.1 (Nat.le_of_ble_eq_true rfl) ⟨Nat.le_of_ble_eq_true rfl, Nat.le_of_ble_eq_true rfl⟩ dX8_digest_257 (fun H locs hz hP hD hS => ?_)
  refine lv_i2l (v := 0) hx hb dX8_digest_260 (by decide) ?_
  refine xladd (v := (-3629241515455851625)) S dX8_digest_261 (by decide) ?_
  refine lv_lstore_n (lv' := [(1, .long (-3629241515455851625)), (3, .int 4), (5, .int 0), (4, .int 0), (0, .ref o)]) hx hb dX8_digest_262 rfl hl (by decide) rfl (fun ls hl => ?_)
  refine lv_iinc (v := 5) (lv' := [(3, .int 5), (1, .long (-3629241515455851625)), (5, .int 0), (4, .int 0), (0, .ref o)]) hx hb dX8_digest_263 hl (k := 1) rfl (by decide) (by decide) rfl (fun ls hl => ?_)
  refine lv_goto (tgt := 244) hx hb dX8_digest_266 (by decide) ?_
  refine lv_iload_n hx hb dX8_digest_244 rfl (lv_at hl 0 rfl) ?_
  refine lv_bipush (v := 10) hx hb dX8_digest_245 (by decide) ?_
  refine lv_icmp_gt (tgt := 269) hx hb dX8_digest_247 (by decide) (fun c => absurd c (by decide)) (fun _ => ?_)
  refine lv_lload_n hx hb dX8_digest_250 rfl (lv_at hl 1 rfl) ?_
  refine lv_ldc2 hx hb S.2.2.2.1 (S.2.2.2.2 _ kw_3_239) dX8_digest_251 ?_
  refine xlmul (v := (-1826022536874090679)) S dX8_digest_254 (by decide) ?_
  refine lv_aload_n hx hb dX8_digest_255 rfl (lv_at hl 4 rfl) ?_
  refine lv_iload_n hx hb dX8_digest_256 rfl (lv_at hl 0 rfl) ?_
  refine aVi (As := [.int 5]) (ci := 8) S (c_X8_ofRun_8 l D cI cZ cJ o u ra ga H.size) mi_X8_ofRun kw_4_231 rfl rfl ⟨Nat.le_of_ble_eq_true rfl, Nat.le_of_ble_eq_true rfl⟩ hP hD hK hS hA hB (k := 0) rfl rfl rfl hl.1 (Nat.le_of_ble_eq_true rfl) ⟨Nat.le_of_ble_eq_true rfl, Nat.le_of_ble_eq_true rfl⟩ dX8_digest_257 (fun H locs hz hP hD hS => ?_)
  refine lv_i2l (v := 0) hx hb dX8_digest_260 (by decide) ?_
  refine xladd (v := (-1826022536874090679)) S dX8_digest_261 (by decide) ?_
  refine lv_lstore_n (lv' := [(1, .long (-1826022536874090679)), (3, .int 5), (5, .int 0), (4, .int 0), (0, .ref o)]) hx hb dX8_digest_262 rfl hl (by decide) rfl (fun ls hl => ?_)
  refine lv_iinc (v := 6) (lv' := [(3, .int 6), (1, .long (-1826022536874090679)), (5, .int 0), (4, .int 0), (0, .ref o)]) hx hb dX8_digest_263 hl (k := 1) rfl (by decide) (by decide) rfl (fun ls hl => ?_)
  refine lv_goto (tgt := 244) hx hb dX8_digest_266 (by decide) ?_
  refine lv_iload_n hx hb dX8_digest_244 rfl (lv_at hl 0 rfl) ?_
  refine lv_bipush (v := 10) hx hb dX8_digest_245 (by decide) ?_
  refine lv_icmp_gt (tgt := 269) hx hb dX8_digest_247 (by decide) (fun c => absurd c (by decide)) (fun _ => ?_)
  refine lv_lload_n hx hb dX8_digest_250 rfl (lv_at hl 1 rfl) ?_
  refine lv_ldc2 hx hb S.2.2.2.1 (S.2.2.2.2 _ kw_3_239) dX8_digest_251 ?_
  refine xlmul (v := (-1266466421968156201)) S dX8_digest_254 (by decide) ?_
  refine lv_aload_n hx hb dX8_digest_255 rfl (lv_at hl 4 rfl) ?_
  refine lv_iload_n hx hb dX8_digest_256 rfl (lv_at hl 0 rfl) ?_
  refine aVi (As := [.int 6]) (ci := 8) S (c_X8_ofRun_9 l D cI cZ cJ o u ra ga H.size) mi_X8_ofRun kw_4_231 rfl rfl ⟨Nat.le_of_ble_eq_true rfl, Nat.le_of_ble_eq_true rfl⟩ hP hD hK hS hA hB (k := 0) rfl rfl rfl hl.1 (Nat.le_of_ble_eq_true rfl) ⟨Nat.le_of_ble_eq_true rfl, Nat.le_of_ble_eq_true rfl⟩ dX8_digest_257 (fun H locs hz hP hD hS => ?_)
  refine lv_i2l (v := 0) hx hb dX8_digest_260 (by decide) ?_
  refine xladd (v := (-1266466421968156201)) S dX8_digest_261 (by decide) ?_
  refine lv_lstore_n (lv' := [(1, .long (-1266466421968156201)), (3, .int 6), (5, .int 0), (4, .int 0), (0, .ref o)]) hx hb dX8_digest_262 rfl hl (by decide) rfl (fun ls hl => ?_)
  refine lv_iinc (v := 7) (lv' := [(3, .int 7), (1, .long (-1266466421968156201)), (5, .int 0), (4, .int 0), (0, .ref o)]) hx hb dX8_digest_263 hl (k := 1) rfl (by decide) (by decide) rfl (fun ls hl => ?_)
  refine lv_goto (tgt := 244) hx hb dX8_digest_266 (by decide) ?_
  refine lv_iload_n hx hb dX8_digest_244 rfl (lv_at hl 0 rfl) ?_
  refine lv_bipush (v := 10) hx hb dX8_digest_245 (by decide) ?_
  refine lv_icmp_gt (tgt := 269) hx hb dX8_digest_247 (by decide) (fun c => absurd c (by decide)) (fun _ => ?_)
  refine lv_lload_n hx hb dX8_digest_250 rfl (lv_at hl 1 rfl) ?_
  refine lv_ldc2 hx hb S.2.2.2.1 (S.2.2.2.2 _ kw_3_239) dX8_digest_251 ?_
  refine xlmul (v := (-2366970933593738999)) S dX8_digest_254 (by decide) ?_
  refine lv_aload_n hx hb dX8_digest_255 rfl (lv_at hl 4 rfl) ?_
  refine lv_iload_n hx hb dX8_digest_256 rfl (lv_at hl 0 rfl) ?_
  refine aVi (As := [.int 7]) (ci := 8) S (c_X8_ofRun_10 l D cI cZ cJ o u ra ga H.size) mi_X8_ofRun kw_4_231 rfl rfl ⟨Nat.le_of_ble_eq_true rfl, Nat.le_of_ble_eq_true rfl⟩ hP hD hK hS hA hB (k := 0) rfl rfl rfl hl.1 (Nat.le_of_ble_eq_true rfl) ⟨Nat.le_of_ble_eq_true rfl, Nat.le_of_ble_eq_true rfl⟩ dX8_digest_257 (fun H locs hz hP hD hS => ?_)
  refine lv_i2l (v := 0) hx hb dX8_digest_260 (by decide) ?_
  refine xladd (v := (-2366970933593738999)) S dX8_digest_261 (by decide) ?_
  refine lv_lstore_n (lv' := [(1, .long (-2366970933593738999)), (3, .int 7), (5, .int 0), (4, .int 0), (0, .ref o)]) hx hb dX8_digest_262 rfl hl (by decide) rfl (fun ls hl => ?_)
  refine lv_iinc (v := 8) (lv' := [(3, .int 8), (1, .long (-2366970933593738999)), (5, .int 0), (4, .int 0), (0, .ref o)]) hx hb dX8_digest_263 hl (k := 1) rfl (by decide) (by decide) rfl (fun ls hl => ?_)
  refine lv_goto (tgt := 244) hx hb dX8_digest_266 (by decide) ?_
  refine lv_iload_n hx hb dX8_digest_244 rfl (lv_at hl 0 rfl) ?_
  refine lv_bipush (v := 10) hx hb dX8_digest_245 (by decide) ?_
  refine lv_icmp_gt (tgt := 269) hx hb dX8_digest_247 (by decide) (fun c => absurd c (by decide)) (fun _ => ?_)
  refine lv_lload_n hx hb dX8_digest_250 rfl (lv_at hl 1 rfl) ?_
  refine lv_ldc2 hx hb S.2.2.2.1 (S.2.2.2.2 _ kw_3_239) dX8_digest_251 ?_
  refine xlmul (v := 410877353432297495) S dX8_digest_254 (by decide) ?_
  refine lv_aload_n hx hb dX8_digest_255 rfl (lv_at hl 4 rfl) ?_
  refine lv_iload_n hx hb dX8_digest_256 rfl (lv_at hl 0 rfl) ?_
  refine aVi (As := [.int 8]) (ci := 8) S (c_X8_ofRun_11 l D cI cZ cJ o u ra ga H.size) mi_X8_ofRun kw_4_231 rfl rfl ⟨Nat.le_of_ble_eq_true rfl, Nat.le_of_ble_eq_true rfl⟩ hP hD hK hS hA hB (k := 0) rfl rfl rfl hl.1 (Nat.le_of_ble_eq_true rfl) ⟨Nat.le_of_ble_eq_true rfl, Nat.le_of_ble_eq_true rfl⟩ dX8_digest_257 (fun H locs hz hP hD hS => ?_)
  refine lv_i2l (v := 0) hx hb dX8_digest_260 (by decide) ?_
  refine xladd (v := 410877353432297495) S dX8_digest_261 (by decide) ?_
  refine lv_lstore_n (lv' := [(1, .long 410877353432297495), (3, .int 8), (5, .int 0), (4, .int 0), (0, .ref o)]) hx hb dX8_digest_262 rfl hl (by decide) rfl (fun ls hl => ?_)
  refine lv_iinc (v := 9) (lv' := [(3, .int 9), (1, .long 410877353432297495), (5, .int 0), (4, .int 0), (0, .ref o)]) hx hb dX8_digest_263 hl (k := 1) rfl (by decide) (by decide) rfl (fun ls hl => ?_)
  refine lv_goto (tgt := 244) hx hb dX8_digest_266 (by decide) ?_
  refine lv_iload_n hx hb dX8_digest_244 rfl (lv_at hl 0 rfl) ?_
  refine lv_bipush (v := 10) hx hb dX8_digest_245 (by decide) ?_
  refine lv_icmp_gt (tgt := 269) hx hb dX8_digest_247 (by decide) (fun c => absurd c (by decide)) (fun _ => ?_)
  refine lv_lload_n hx hb dX8_digest_250 rfl (lv_at hl 1 rfl) ?_
  refine lv_ldc2 hx hb S.2.2.2.1 (S.2.2.2.2 _ kw_3_239) dX8_digest_251 ?_
  refine xlmul (v := (-5709546117308329271)) S dX8_digest_254 (by decide) ?_
  refine lv_aload_n hx hb dX8_digest_255 rfl (lv_at hl 4 rfl) ?_
  refine lv_iload_n hx hb dX8_digest_256 rfl (lv_at hl 0 rfl) ?_
  refine aVi (As := [.int 9]) (ci := 8) S (c_X8_ofRun_12 l D cI cZ cJ o u ra ga H.size) mi_X8_ofRun kw_4_231 rfl rfl ⟨Nat.le_of_ble_eq_true rfl, Nat.le_of_ble_eq_true rfl⟩ hP hD hK hS hA hB (k := 0) rfl rfl rfl hl.1 (Nat.le_of_ble_eq_true rfl) ⟨Nat.le_of_ble_eq_true rfl, Nat.le_of_ble_eq_true rfl⟩ dX8_digest_257 (fun H locs hz hP hD hS => ?_)
  refine lv_i2l (v := 0) hx hb dX8_digest_260 (by decide) ?_
  refine xladd (v := (-5709546117308329271)) S dX8_digest_261 (by decide) ?_
  refine lv_lstore_n (lv' := [(1, .long (-5709546117308329271)), (3, .int 9), (5, .int 0), (4, .int 0), (0, .ref o)]) hx hb dX8_digest_262 rfl hl (by decide) rfl (fun ls hl => ?_)
  refine lv_iinc (v := 10) (lv' := [(3, .int 10), (1, .long (-5709546117308329271)), (5, .int 0), (4, .int 0), (0, .ref o)]) hx hb dX8_digest_263 hl (k := 1) rfl (by decide) (by decide) rfl (fun ls hl => ?_)
  refine lv_goto (tgt := 244) hx hb dX8_digest_266 (by decide) ?_
  refine lv_iload_n hx hb dX8_digest_244 rfl (lv_at hl 0 rfl) ?_
  refine lv_bipush (v := 10) hx hb dX8_digest_245 (by decide) ?_
  refine lv_icmp_gt (tgt := 269) hx hb dX8_digest_247 (by decide) (fun c => absurd c (by decide)) (fun _ => ?_)
  refine lv_lload_n hx hb dX8_digest_250 rfl (lv_at hl 1 rfl) ?_
  refine lv_ldc2 hx hb S.2.2.2.1 (S.2.2.2.2 _ kw_3_239) dX8_digest_251 ?_
  refine xlmul (v := 7471511100537308759) S dX8_digest_254 (by decide) ?_
  refine lv_aload_n hx hb dX8_digest_255 rfl (lv_at hl 4 rfl) ?_
  refine lv_iload_n hx hb dX8_digest_256 rfl (lv_at hl 0 rfl) ?_
  refine aVi (As := [.int 10]) (ci := 8) S (c_X8_ofRun_13 l D cI cZ cJ o u ra ga H.size) mi_X8_ofRun kw_4_231 rfl rfl ⟨Nat.le_of_ble_eq_true rfl, Nat.le_of_ble_eq_true rfl⟩ hP hD hK hS hA hB (k := 0) rfl rfl rfl hl.1 (Nat.le_of_ble_eq_true rfl) ⟨Nat.le_of_ble_eq_true rfl, Nat.le_of_ble_eq_true rfl⟩ dX8_digest_257 (fun H locs hz hP hD hS => ?_)
  refine lv_i2l (v := 0) hx hb dX8_digest_260 (by decide) ?_
  refine xladd (v := 7471511100537308759) S dX8_digest_261 (by decide) ?_
  refine lv_lstore_n (lv' := [(1, .long 7471511100537308759), (3, .int 10), (5, .int 0), (4, .int 0), (0, .ref o)]) hx hb dX8_digest_262 rfl hl (by decide) rfl (fun ls hl => ?_)
  refine lv_iinc (v := 11) (lv' := [(3, .int 11), (1, .long 7471511100537308759), (5, .int 0), (4, .int 0), (0, .ref o)]) hx hb dX8_digest_263 hl (k := 1) rfl (by decide) (by decide) rfl (fun ls hl => ?_)
  refine lv_goto (tgt := 244) hx hb dX8_digest_266 (by decide) ?_
  refine lv_iload_n hx hb dX8_digest_244 rfl (lv_at hl 0 rfl) ?_
  refine lv_bipush (v := 10) hx hb dX8_digest_245 (by decide) ?_
  refine lv_icmp_gt (tgt := 269) hx hb dX8_digest_247 (by decide) (fun _ => ?_) (fun c => absurd c (by decide))
  refine lv_iconst (v := 0) hx hb dX8_digest_269 (by decide) ?_
  refine lv_istore_n (lv' := [(3, .int 0), (1, .long 7471511100537308759), (5, .int 0), (4, .int 0), (0, .ref o)]) hx hb dX8_digest_270 rfl hl (by decide) rfl (fun ls hl => ?_)
  refine lv_iload_n hx hb dX8_digest_271 rfl (lv_at hl 0 rfl) ?_
  refine lv_aload_n hx hb dX8_digest_272 rfl (lv_at hl 4 rfl) ?_
  refine xg (ci := 8) S inX8 rfl hK hP (q0 := 0) rfl 7 (by decide) rfl kw_3_27 rfl dX8_digest_273 ?_
  refine rdV (As := []) (ci := 6) S (c_X6_kept_1 l D cI cZ cJ o u) mi_X6_kept kw_4_239 ⟨rfl, rfl⟩ ⟨Nat.le_of_ble_eq_true rfl, Nat.le_of_ble_eq_true rfl⟩ hP hK (k := 80) rfl rfl rfl hl.1 (Nat.le_of_ble_eq_true rfl) ⟨Nat.le_of_ble_eq_true rfl, Nat.le_of_ble_eq_true rfl⟩ dX8_digest_276 ?_
  refine lv_iconst (v := 3) hx hb dX8_digest_279 (by decide) ?_
  refine ximul (v := 0) S dX8_digest_280 (by decide) ?_
  refine lv_icmp_ge (tgt := 308) hx hb dX8_digest_281 (by decide) (fun _ => ?_) (fun c => absurd c (by decide))
  refine lv_aload_n hx hb dX8_digest_308 rfl (lv_at hl 4 rfl) ?_
  refine xg (ci := 8) S inX8 rfl hK hP (q0 := 0) rfl 3 (by decide) rfl kw_3_23 rfl dX8_digest_309 ?_
  refine xg (ci := 2) S inX2 rfl hK hP (q0 := 34) rfl 3 (by decide) rfl kw_2_14 rfl dX8_digest_312 ?_
  refine lv_if_eq (tgt := 320) hx hb dX8_digest_315 (by decide) (fun c => absurd c (by decide)) (fun _ => ?_)
  refine lv_lload_n hx hb dX8_digest_318 rfl (lv_at hl 1 rfl) ?_
  exact wEndl S hr hlocks hP hD hS (Nat.le_of_ble_eq_true rfl) (Nat.le_of_ble_eq_true rfl) dX8_digest_319 rfl

set_option maxHeartbeats 8000000 in
set_option maxRecDepth 100000 in
theorem c_X9_hiddenNow_1 (l : Launch) (D : va_G) (cI cZ cJ : ClassId) (o : Nat) (q : Nat → Nat) : Met l yX9_hiddenNow (uW yX9_hiddenNow cX9_hiddenNow 6 (some .int)) ({ frames := 0, cells := 0, slots := 0, locals := 0 }) (va_Pc [.ref o, .int 0, .int 0] (pS D (tyL cI cZ cJ) (mW o 0 q cI cZ))) (QcRead (0)) 0 0 (fun _ => False) := by
  refine rdStart (lv := [(0, .ref o), (1, .int 0), (2, .int 0)]) (by decide) (Nat.le_of_ble_eq_true rfl) rfl ?_
  intro p e s m args below meth c ls S hr hlocks hl hP hK
  have hx := S.1
  have hb := S.2.1
  refine lv_aload_n hx hb dX9_hiddenNow_0 rfl (lv_at hl 0 rfl) ?_
  refine xg (ci := 9) S inX9 rfl hK hP mW_0 8 (by decide) mF_8 kw_6_156 rfl dX9_hiddenNow_1 ?_
  refine lv_iload_n hx hb dX9_hiddenNow_4 rfl (lv_at hl 1 rfl) ?_
  refine lv_bipush (v := 16) hx hb dX9_hiddenNow_5 (by decide) ?_
  refine ximul (v := 0) S dX9_hiddenNow_7 (by decide) ?_
  refine lv_iload_n hx hb dX9_hiddenNow_8 rfl (lv_at hl 2 rfl) ?_
  refine xiadd (v := 0) S dX9_hiddenNow_9 (by decide) ?_
  refine xiald (t0 := 0) (v := (-1)) S hK hP mW_7 rfl (vin rfl) rfl dX9_hiddenNow_10 ?_
  refine lv_iconst (v := (-1)) hx hb dX9_hiddenNow_11 (by decide) ?_
  refine lv_icmp_eq (tgt := 17) hx hb dX9_hiddenNow_12 (by decide) (fun _ => ?_) (fun c => absurd c (by decide))
  refine lv_iconst (v := 0) hx hb dX9_hiddenNow_17 (by decide) ?_
  refine lv_istore_n (lv' := [(3, .int 0), (0, .ref o), (1, .int 0), (2, .int 0)]) hx hb dX9_hiddenNow_18 rfl hl (by decide) rfl (fun ls hl => ?_)
  refine lv_iconst (v := 0) hx hb dX9_hiddenNow_19 (by decide) ?_
  refine lv_istore (lv' := [(4, .int 0), (3, .int 0), (0, .ref o), (1, .int 0), (2, .int 0)]) hx hb dX9_hiddenNow_20 hl (by decide) rfl (fun ls hl => ?_)
  refine lv_iload hx hb dX9_hiddenNow_22 (lv_at hl 0 rfl) ?_
  refine lv_aload_n hx hb dX9_hiddenNow_24 rfl (lv_at hl 2 rfl) ?_
  refine xg (ci := 9) S inX9 rfl hK hP mW_0 13 (by decide) mF_13 kw_6_161 rfl dX9_hiddenNow_25 ?_
  refine lv_icmp_ge (tgt := 135) hx hb dX9_hiddenNow_28 (by decide) (fun _ => ?_) (fun c => absurd c (by decide))
  refine lv_iload_n hx hb dX9_hiddenNow_135 rfl (lv_at hl 1 rfl) ?_
  exact rdEnd S hr hlocks dX9_hiddenNow_136 rfl

set_option maxHeartbeats 8000000 in
set_option maxRecDepth 100000 in
theorem c_X9_hiddenNow_2 (l : Launch) (D : va_G) (cI cZ cJ : ClassId) (o : Nat) (q : Nat → Nat) : Met l yX9_hiddenNow (uW yX9_hiddenNow cX9_hiddenNow 6 (some .int)) ({ frames := 0, cells := 0, slots := 0, locals := 0 }) (va_Pc [.ref o, .int 0, .int 1] (pS D (tyL cI cZ cJ) (mW o 0 q cI cZ))) (QcRead (0)) 0 0 (fun _ => False) := by
  refine rdStart (lv := [(0, .ref o), (1, .int 0), (2, .int 1)]) (by decide) (Nat.le_of_ble_eq_true rfl) rfl ?_
  intro p e s m args below meth c ls S hr hlocks hl hP hK
  have hx := S.1
  have hb := S.2.1
  refine lv_aload_n hx hb dX9_hiddenNow_0 rfl (lv_at hl 0 rfl) ?_
  refine xg (ci := 9) S inX9 rfl hK hP mW_0 8 (by decide) mF_8 kw_6_156 rfl dX9_hiddenNow_1 ?_
  refine lv_iload_n hx hb dX9_hiddenNow_4 rfl (lv_at hl 1 rfl) ?_
  refine lv_bipush (v := 16) hx hb dX9_hiddenNow_5 (by decide) ?_
  refine ximul (v := 0) S dX9_hiddenNow_7 (by decide) ?_
  refine lv_iload_n hx hb dX9_hiddenNow_8 rfl (lv_at hl 2 rfl) ?_
  refine xiadd (v := 1) S dX9_hiddenNow_9 (by decide) ?_
  refine xiald (t0 := 0) (v := (-1)) S hK hP mW_7 rfl (vin rfl) rfl dX9_hiddenNow_10 ?_
  refine lv_iconst (v := (-1)) hx hb dX9_hiddenNow_11 (by decide) ?_
  refine lv_icmp_eq (tgt := 17) hx hb dX9_hiddenNow_12 (by decide) (fun _ => ?_) (fun c => absurd c (by decide))
  refine lv_iconst (v := 0) hx hb dX9_hiddenNow_17 (by decide) ?_
  refine lv_istore_n (lv' := [(3, .int 0), (0, .ref o), (1, .int 0), (2, .int 1)]) hx hb dX9_hiddenNow_18 rfl hl (by decide) rfl (fun ls hl => ?_)
  refine lv_iconst (v := 0) hx hb dX9_hiddenNow_19 (by decide) ?_
  refine lv_istore (lv' := [(4, .int 0), (3, .int 0), (0, .ref o), (1, .int 0), (2, .int 1)]) hx hb dX9_hiddenNow_20 hl (by decide) rfl (fun ls hl => ?_)
  refine lv_iload hx hb dX9_hiddenNow_22 (lv_at hl 0 rfl) ?_
  refine lv_aload_n hx hb dX9_hiddenNow_24 rfl (lv_at hl 2 rfl) ?_
  refine xg (ci := 9) S inX9 rfl hK hP mW_0 13 (by decide) mF_13 kw_6_161 rfl dX9_hiddenNow_25 ?_
  refine lv_icmp_ge (tgt := 135) hx hb dX9_hiddenNow_28 (by decide) (fun _ => ?_) (fun c => absurd c (by decide))
  refine lv_iload_n hx hb dX9_hiddenNow_135 rfl (lv_at hl 1 rfl) ?_
  exact rdEnd S hr hlocks dX9_hiddenNow_136 rfl

set_option maxHeartbeats 8000000 in
set_option maxRecDepth 100000 in
theorem c_X9_hiddenNow_3 (l : Launch) (D : va_G) (cI cZ cJ : ClassId) (o : Nat) (q : Nat → Nat) : Met l yX9_hiddenNow (uW yX9_hiddenNow cX9_hiddenNow 6 (some .int)) ({ frames := 0, cells := 0, slots := 0, locals := 0 }) (va_Pc [.ref o, .int 0, .int 2] (pS D (tyL cI cZ cJ) (mW o 0 q cI cZ))) (QcRead (0)) 0 0 (fun _ => False) := by
  refine rdStart (lv := [(0, .ref o), (1, .int 0), (2, .int 2)]) (by decide) (Nat.le_of_ble_eq_true rfl) rfl ?_
  intro p e s m args below meth c ls S hr hlocks hl hP hK
  have hx := S.1
  have hb := S.2.1
  refine lv_aload_n hx hb dX9_hiddenNow_0 rfl (lv_at hl 0 rfl) ?_
  refine xg (ci := 9) S inX9 rfl hK hP mW_0 8 (by decide) mF_8 kw_6_156 rfl dX9_hiddenNow_1 ?_
  refine lv_iload_n hx hb dX9_hiddenNow_4 rfl (lv_at hl 1 rfl) ?_
  refine lv_bipush (v := 16) hx hb dX9_hiddenNow_5 (by decide) ?_
  refine ximul (v := 0) S dX9_hiddenNow_7 (by decide) ?_
  refine lv_iload_n hx hb dX9_hiddenNow_8 rfl (lv_at hl 2 rfl) ?_
  refine xiadd (v := 2) S dX9_hiddenNow_9 (by decide) ?_
  refine xiald (t0 := 0) (v := (-1)) S hK hP mW_7 rfl (vin rfl) rfl dX9_hiddenNow_10 ?_
  refine lv_iconst (v := (-1)) hx hb dX9_hiddenNow_11 (by decide) ?_
  refine lv_icmp_eq (tgt := 17) hx hb dX9_hiddenNow_12 (by decide) (fun _ => ?_) (fun c => absurd c (by decide))
  refine lv_iconst (v := 0) hx hb dX9_hiddenNow_17 (by decide) ?_
  refine lv_istore_n (lv' := [(3, .int 0), (0, .ref o), (1, .int 0), (2, .int 2)]) hx hb dX9_hiddenNow_18 rfl hl (by decide) rfl (fun ls hl => ?_)
  refine lv_iconst (v := 0) hx hb dX9_hiddenNow_19 (by decide) ?_
  refine lv_istore (lv' := [(4, .int 0), (3, .int 0), (0, .ref o), (1, .int 0), (2, .int 2)]) hx hb dX9_hiddenNow_20 hl (by decide) rfl (fun ls hl => ?_)
  refine lv_iload hx hb dX9_hiddenNow_22 (lv_at hl 0 rfl) ?_
  refine lv_aload_n hx hb dX9_hiddenNow_24 rfl (lv_at hl 2 rfl) ?_
  refine xg (ci := 9) S inX9 rfl hK hP mW_0 13 (by decide) mF_13 kw_6_161 rfl dX9_hiddenNow_25 ?_
  refine lv_icmp_ge (tgt := 135) hx hb dX9_hiddenNow_28 (by decide) (fun _ => ?_) (fun c => absurd c (by decide))
  refine lv_iload_n hx hb dX9_hiddenNow_135 rfl (lv_at hl 1 rfl) ?_
  exact rdEnd S hr hlocks dX9_hiddenNow_136 rfl

set_option maxHeartbeats 8000000 in
set_option maxRecDepth 100000 in
theorem c_X9_hiddenNow_4 (l : Launch) (D : va_G) (cI cZ cJ : ClassId) (o : Nat) (q : Nat → Nat) : Met l yX9_hiddenNow (uW yX9_hiddenNow cX9_hiddenNow 6 (some .int)) ({ frames := 0, cells := 0, slots := 0, locals := 0 }) (va_Pc [.ref o, .int 0, .int 3] (pS D (tyL cI cZ cJ) (mW o 0 q cI cZ))) (QcRead (0)) 0 0 (fun _ => False) := by
  refine rdStart (lv := [(0, .ref o), (1, .int 0), (2, .int 3)]) (by decide) (Nat.le_of_ble_eq_true rfl) rfl ?_
  intro p e s m args below meth c ls S hr hlocks hl hP hK
  have hx := S.1
  have hb := S.2.1
  refine lv_aload_n hx hb dX9_hiddenNow_0 rfl (lv_at hl 0 rfl) ?_
  refine xg (ci := 9) S inX9 rfl hK hP mW_0 8 (by decide) mF_8 kw_6_156 rfl dX9_hiddenNow_1 ?_
  refine lv_iload_n hx hb dX9_hiddenNow_4 rfl (lv_at hl 1 rfl) ?_
  refine lv_bipush (v := 16) hx hb dX9_hiddenNow_5 (by decide) ?_
  refine ximul (v := 0) S dX9_hiddenNow_7 (by decide) ?_
  refine lv_iload_n hx hb dX9_hiddenNow_8 rfl (lv_at hl 2 rfl) ?_
  refine xiadd (v := 3) S dX9_hiddenNow_9 (by decide) ?_
  refine xiald (t0 := 0) (v := (-1)) S hK hP mW_7 rfl (vin rfl) rfl dX9_hiddenNow_10 ?_
  refine lv_iconst (v := (-1)) hx hb dX9_hiddenNow_11 (by decide) ?_
  refine lv_icmp_eq (tgt := 17) hx hb dX9_hiddenNow_12 (by decide) (fun _ => ?_) (fun c => absurd c (by decide))
  refine lv_iconst (v := 0) hx hb dX9_hiddenNow_17 (by decide) ?_
  refine lv_istore_n (lv' := [(3, .int 0), (0, .ref o), (1, .int 0), (2, .int 3)]) hx hb dX9_hiddenNow_18 rfl hl (by decide) rfl (fun ls hl => ?_)
  refine lv_iconst (v := 0) hx hb dX9_hiddenNow_19 (by decide) ?_
  refine lv_istore (lv' := [(4, .int 0), (3, .int 0), (0, .ref o), (1, .int 0), (2, .int 3)]) hx hb dX9_hiddenNow_20 hl (by decide) rfl (fun ls hl => ?_)
  refine lv_iload hx hb dX9_hiddenNow_22 (lv_at hl 0 rfl) ?_
  refine lv_aload_n hx hb dX9_hiddenNow_24 rfl (lv_at hl 2 rfl) ?_
  refine xg (ci := 9) S inX9 rfl hK hP mW_0 13 (by decide) mF_13 kw_6_161 rfl dX9_hiddenNow_25 ?_
  refine lv_icmp_ge (tgt := 135) hx hb dX9_hiddenNow_28 (by decide) (fun _ => ?_) (fun c => absurd c (by decide))
  refine lv_iload_n hx hb dX9_hiddenNow_135 rfl (lv_at hl 1 rfl) ?_
  exact rdEnd S hr hlocks dX9_hiddenNow_136 rfl

set_option maxHeartbeats 8000000 in
set_option maxRecDepth 100000 in
theorem c_X9_hiddenNow_5 (l : Launch) (D : va_G) (cI cZ cJ : ClassId) (o : Nat) (q : Nat → Nat) : Met l yX9_hiddenNow (uW yX9_hiddenNow cX9_hiddenNow 6 (some .int)) ({ frames := 0, cells := 0, slots := 0, locals := 0 }) (va_Pc [.ref o, .int 0, .int 4] (pS D (tyL cI cZ cJ) (mW o 0 q cI cZ))) (QcRead (0)) 0 0 (fun _ => False) := by
  refine rdStart (lv := [(0, .ref o), (1, .int 0), (2, .int 4)]) (by decide) (Nat.le_of_ble_eq_true rfl) rfl ?_
  intro p e s m args below meth c ls S hr hlocks hl hP hK
  have hx := S.1
  have hb := S.2.1
  refine lv_aload_n hx hb dX9_hiddenNow_0 rfl (lv_at hl 0 rfl) ?_
  refine xg (ci := 9) S inX9 rfl hK hP mW_0 8 (by decide) mF_8 kw_6_156 rfl dX9_hiddenNow_1 ?_
  refine lv_iload_n hx hb dX9_hiddenNow_4 rfl (lv_at hl 1 rfl) ?_
  refine lv_bipush (v := 16) hx hb dX9_hiddenNow_5 (by decide) ?_
  refine ximul (v := 0) S dX9_hiddenNow_7 (by decide) ?_
  refine lv_iload_n hx hb dX9_hiddenNow_8 rfl (lv_at hl 2 rfl) ?_
  refine xiadd (v := 4) S dX9_hiddenNow_9 (by decide) ?_
  refine xiald (t0 := 0) (v := (-1)) S hK hP mW_7 rfl (vin rfl) rfl dX9_hiddenNow_10 ?_
  refine lv_iconst (v := (-1)) hx hb dX9_hiddenNow_11 (by decide) ?_
  refine lv_icmp_eq (tgt := 17) hx hb dX9_hiddenNow_12 (by decide) (fun _ => ?_) (fun c => absurd c (by decide))
  refine lv_iconst (v := 0) hx hb dX9_hiddenNow_17 (by decide) ?_
  refine lv_istore_n (lv' := [(3, .int 0), (0, .ref o), (1, .int 0), (2, .int 4)]) hx hb dX9_hiddenNow_18 rfl hl (by decide) rfl (fun ls hl => ?_)
  refine lv_iconst (v := 0) hx hb dX9_hiddenNow_19 (by decide) ?_
  refine lv_istore (lv' := [(4, .int 0), (3, .int 0), (0, .ref o), (1, .int 0), (2, .int 4)]) hx hb dX9_hiddenNow_20 hl (by decide) rfl (fun ls hl => ?_)
  refine lv_iload hx hb dX9_hiddenNow_22 (lv_at hl 0 rfl) ?_
  refine lv_aload_n hx hb dX9_hiddenNow_24 rfl (lv_at hl 2 rfl) ?_
  refine xg (ci := 9) S inX9 rfl hK hP mW_0 13 (by decide) mF_13 kw_6_161 rfl dX9_hiddenNow_25 ?_
  refine lv_icmp_ge (tgt := 135) hx hb dX9_hiddenNow_28 (by decide) (fun _ => ?_) (fun c => absurd c (by decide))
  refine lv_iload_n hx hb dX9_hiddenNow_135 rfl (lv_at hl 1 rfl) ?_
  exact rdEnd S hr hlocks dX9_hiddenNow_136 rfl

set_option maxHeartbeats 8000000 in
set_option maxRecDepth 100000 in
theorem c_X9_hiddenNow_6 (l : Launch) (D : va_G) (cI cZ cJ : ClassId) (o : Nat) (q : Nat → Nat) : Met l yX9_hiddenNow (uW yX9_hiddenNow cX9_hiddenNow 6 (some .int)) ({ frames := 0, cells := 0, slots := 0, locals := 0 }) (va_Pc [.ref o, .int 0, .int 5] (pS D (tyL cI cZ cJ) (mW o 0 q cI cZ))) (QcRead (0)) 0 0 (fun _ => False) := by
  refine rdStart (lv := [(0, .ref o), (1, .int 0), (2, .int 5)]) (by decide) (Nat.le_of_ble_eq_true rfl) rfl ?_
  intro p e s m args below meth c ls S hr hlocks hl hP hK
  have hx := S.1
  have hb := S.2.1
  refine lv_aload_n hx hb dX9_hiddenNow_0 rfl (lv_at hl 0 rfl) ?_
  refine xg (ci := 9) S inX9 rfl hK hP mW_0 8 (by decide) mF_8 kw_6_156 rfl dX9_hiddenNow_1 ?_
  refine lv_iload_n hx hb dX9_hiddenNow_4 rfl (lv_at hl 1 rfl) ?_
  refine lv_bipush (v := 16) hx hb dX9_hiddenNow_5 (by decide) ?_
  refine ximul (v := 0) S dX9_hiddenNow_7 (by decide) ?_
  refine lv_iload_n hx hb dX9_hiddenNow_8 rfl (lv_at hl 2 rfl) ?_
  refine xiadd (v := 5) S dX9_hiddenNow_9 (by decide) ?_
  refine xiald (t0 := 0) (v := (-1)) S hK hP mW_7 rfl (vin rfl) rfl dX9_hiddenNow_10 ?_
  refine lv_iconst (v := (-1)) hx hb dX9_hiddenNow_11 (by decide) ?_
  refine lv_icmp_eq (tgt := 17) hx hb dX9_hiddenNow_12 (by decide) (fun _ => ?_) (fun c => absurd c (by decide))
  refine lv_iconst (v := 0) hx hb dX9_hiddenNow_17 (by decide) ?_
  refine lv_istore_n (lv' := [(3, .int 0), (0, .ref o), (1, .int 0), (2, .int 5)]) hx hb dX9_hiddenNow_18 rfl hl (by decide) rfl (fun ls hl => ?_)
  refine lv_iconst (v := 0) hx hb dX9_hiddenNow_19 (by decide) ?_
  refine lv_istore (lv' := [(4, .int 0), (3, .int 0), (0, .ref o), (1, .int 0), (2, .int 5)]) hx hb dX9_hiddenNow_20 hl (by decide) rfl (fun ls hl => ?_)
  refine lv_iload hx hb dX9_hiddenNow_22 (lv_at hl 0 rfl) ?_
  refine lv_aload_n hx hb dX9_hiddenNow_24 rfl (lv_at hl 2 rfl) ?_
  refine xg (ci := 9) S inX9 rfl hK hP mW_0 13 (by decide) mF_13 kw_6_161 rfl dX9_hiddenNow_25 ?_
  refine lv_icmp_ge (tgt := 135) hx hb dX9_hiddenNow_28 (by decide) (fun _ => ?_) (fun c => absurd c (by decide))
  refine lv_iload_n hx hb dX9_hiddenNow_135 rfl (lv_at hl 1 rfl) ?_
  exact rdEnd S hr hlocks dX9_hiddenNow_136 rfl

set_option maxHeartbeats 8000000 in
set_option maxRecDepth 100000 in
theorem c_X9_hiddenNow_7 (l : Launch) (D : va_G) (cI cZ cJ : ClassId) (o : Nat) (q : Nat → Nat) : Met l yX9_hiddenNow (uW yX9_hiddenNow cX9_hiddenNow 6 (some .int)) ({ frames := 0, cells := 0, slots := 0, locals := 0 }) (va_Pc [.ref o, .int 0, .int 6] (pS D (tyL cI cZ cJ) (mW o 0 q cI cZ))) (QcRead (0)) 0 0 (fun _ => False) := by
  refine rdStart (lv := [(0, .ref o), (1, .int 0), (2, .int 6)]) (by decide) (Nat.le_of_ble_eq_true rfl) rfl ?_
  intro p e s m args below meth c ls S hr hlocks hl hP hK
  have hx := S.1
  have hb := S.2.1
  refine lv_aload_n hx hb dX9_hiddenNow_0 rfl (lv_at hl 0 rfl) ?_
  refine xg (ci := 9) S inX9 rfl hK hP mW_0 8 (by decide) mF_8 kw_6_156 rfl dX9_hiddenNow_1 ?_
  refine lv_iload_n hx hb dX9_hiddenNow_4 rfl (lv_at hl 1 rfl) ?_
  refine lv_bipush (v := 16) hx hb dX9_hiddenNow_5 (by decide) ?_
  refine ximul (v := 0) S dX9_hiddenNow_7 (by decide) ?_
  refine lv_iload_n hx hb dX9_hiddenNow_8 rfl (lv_at hl 2 rfl) ?_
  refine xiadd (v := 6) S dX9_hiddenNow_9 (by decide) ?_
  refine xiald (t0 := 0) (v := (-1)) S hK hP mW_7 rfl (vin rfl) rfl dX9_hiddenNow_10 ?_
  refine lv_iconst (v := (-1)) hx hb dX9_hiddenNow_11 (by decide) ?_
  refine lv_icmp_eq (tgt := 17) hx hb dX9_hiddenNow_12 (by decide) (fun _ => ?_) (fun c => absurd c (by decide))
  refine lv_iconst (v := 0) hx hb dX9_hiddenNow_17 (by decide) ?_
  refine lv_istore_n (lv' := [(3, .int 0), (0, .ref o), (1, .int 0), (2, .int 6)]) hx hb dX9_hiddenNow_18 rfl hl (by decide) rfl (fun ls hl => ?_)
  refine lv_iconst (v := 0) hx hb dX9_hiddenNow_19 (by decide) ?_
  refine lv_istore (lv' := [(4, .int 0), (3, .int 0), (0, .ref o), (1, .int 0), (2, .int 6)]) hx hb dX9_hiddenNow_20 hl (by decide) rfl (fun ls hl => ?_)
  refine lv_iload hx hb dX9_hiddenNow_22 (lv_at hl 0 rfl) ?_
  refine lv_aload_n hx hb dX9_hiddenNow_24 rfl (lv_at hl 2 rfl) ?_
  refine xg (ci := 9) S inX9 rfl hK hP mW_0 13 (by decide) mF_13 kw_6_161 rfl dX9_hiddenNow_25 ?_
  refine lv_icmp_ge (tgt := 135) hx hb dX9_hiddenNow_28 (by decide) (fun _ => ?_) (fun c => absurd c (by decide))
  refine lv_iload_n hx hb dX9_hiddenNow_135 rfl (lv_at hl 1 rfl) ?_
  exact rdEnd S hr hlocks dX9_hiddenNow_136 rfl

set_option maxHeartbeats 8000000 in
set_option maxRecDepth 100000 in
theorem c_X9_hiddenNow_8 (l : Launch) (D : va_G) (cI cZ cJ : ClassId) (o : Nat) (q : Nat → Nat) : Met l yX9_hiddenNow (uW yX9_hiddenNow cX9_hiddenNow 6 (some .int)) ({ frames := 0, cells := 0, slots := 0, locals := 0 }) (va_Pc [.ref o, .int 0, .int 7] (pS D (tyL cI cZ cJ) (mW o 0 q cI cZ))) (QcRead (0)) 0 0 (fun _ => False) := by
  refine rdStart (lv := [(0, .ref o), (1, .int 0), (2, .int 7)]) (by decide) (Nat.le_of_ble_eq_true rfl) rfl ?_
  intro p e s m args below meth c ls S hr hlocks hl hP hK
  have hx := S.1
  have hb := S.2.1
  refine lv_aload_n hx hb dX9_hiddenNow_0 rfl (lv_at hl 0 rfl) ?_
  refine xg (ci := 9) S inX9 rfl hK hP mW_0 8 (by decide) mF_8 kw_6_156 rfl dX9_hiddenNow_1 ?_
  refine lv_iload_n hx hb dX9_hiddenNow_4 rfl (lv_at hl 1 rfl) ?_
  refine lv_bipush (v := 16) hx hb dX9_hiddenNow_5 (by decide) ?_
  refine ximul (v := 0) S dX9_hiddenNow_7 (by decide) ?_
  refine lv_iload_n hx hb dX9_hiddenNow_8 rfl (lv_at hl 2 rfl) ?_
  refine xiadd (v := 7) S dX9_hiddenNow_9 (by decide) ?_
  refine xiald (t0 := 0) (v := (-1)) S hK hP mW_7 rfl (vin rfl) rfl dX9_hiddenNow_10 ?_
  refine lv_iconst (v := (-1)) hx hb dX9_hiddenNow_11 (by decide) ?_
  refine lv_icmp_eq (tgt := 17) hx hb dX9_hiddenNow_12 (by decide) (fun _ => ?_) (fun c => absurd c (by decide))
  refine lv_iconst (v := 0) hx hb dX9_hiddenNow_17 (by decide) ?_
  refine lv_istore_n (lv' := [(3, .int 0), (0, .ref o), (1, .int 0), (2, .int 7)]) hx hb dX9_hiddenNow_18 rfl hl (by decide) rfl (fun ls hl => ?_)
  refine lv_iconst (v := 0) hx hb dX9_hiddenNow_19 (by decide) ?_
  refine lv_istore (lv' := [(4, .int 0), (3, .int 0), (0, .ref o), (1, .int 0), (2, .int 7)]) hx hb dX9_hiddenNow_20 hl (by decide) rfl (fun ls hl => ?_)
  refine lv_iload hx hb dX9_hiddenNow_22 (lv_at hl 0 rfl) ?_
  refine lv_aload_n hx hb dX9_hiddenNow_24 rfl (lv_at hl 2 rfl) ?_
  refine xg (ci := 9) S inX9 rfl hK hP mW_0 13 (by decide) mF_13 kw_6_161 rfl dX9_hiddenNow_25 ?_
  refine lv_icmp_ge (tgt := 135) hx hb dX9_hiddenNow_28 (by decide) (fun _ => ?_) (fun c => absurd c (by decide))
  refine lv_iload_n hx hb dX9_hiddenNow_135 rfl (lv_at hl 1 rfl) ?_
  exact rdEnd S hr hlocks dX9_hiddenNow_136 rfl

set_option maxHeartbeats 8000000 in
set_option maxRecDepth 100000 in
theorem c_X9_digest_0 (l : Launch) (D : va_G) (cI cZ cJ : ClassId) (o : Nat) (q : Nat → Nat) (sz : Nat) : Met l yX9_digest (uW yX9_digest cX9_digest 9 (some .long)) ({ frames := 3, cells := 7, slots := 777, locals := 72 }) (va_Pc [.ref o] (wS D (tyL cI cZ cJ) (mW o 0 q cI cZ) sz)) (wQl (7471511100537308759) D (mW o 0 q cI cZ) (va_A (mW o 0 q cI cZ) sz)) 7 777 (va_A (mW o 0 q cI cZ) sz) := by
  refine wStart (lv := [(0, .ref o)]) (Qc := fun A => wQl (7471511100537308759) D (mW o 0 q cI cZ) A) (by decide) (Nat.le_of_ble_eq_true rfl) rfl ?_
  intro p e s m args below meth c ls A H S hr hlocks hnm hl hK hP hD hS hA
  have hx := S.1
  have hb := S.2.1
  refine lv_aload_n hx hb dX9_digest_0 rfl (lv_at hl 0 rfl) ?_
  refine lv_iconst (v := 0) hx hb dX9_digest_1 (by decide) ?_
  refine xp (ci := 9) (v := .int 0) S inX9 tyX9 tyX9_ok nmX9 rfl hK hP hD hS mW_0 0 (by decide) kw_6_148 rfl rfl rfl rfl (Nat.le_of_ble_eq_true rfl) dX9_digest_2 (fun H locs hP hD hS => ?_)
  have hP : va_P D vwCl (mW o 0 q cI cZ) H := hP
  have hD : va_D A (mW o 0 q cI cZ) := hD
  refine lv_ldc2 hx hb S.2.2.2.1 (S.2.2.2.2 _ kw_9_56) dX9_digest_5 ?_
  refine lv_lstore_n (lv' := [(1, .long 58126), (0, .ref o)]) hx hb dX9_digest_8 rfl hl (by decide) rfl (fun ls hl => ?_)
  refine lv_aload_n hx hb dX9_digest_9 rfl (lv_at hl 1 rfl) ?_
  refine wrV (As := []) (ci := 9) S (c_X9_faults_0 l D cI cZ cJ o q H.size) mi_X9_faults kw_7_230 rfl rfl ⟨Nat.le_of_ble_eq_true rfl, Nat.le_of_ble_eq_true rfl⟩ hP hD hK hS hA mW_0 rfl rfl hl.1 (Nat.le_of_ble_eq_true rfl) ⟨Nat.le_of_ble_eq_true rfl, Nat.le_of_ble_eq_true rfl⟩ dX9_digest_10 (fun H locs hz hP hD hS => ?_)
  refine lv_istore_n (lv' := [(3, .int 1), (1, .long 58126), (0, .ref o)]) hx hb dX9_digest_13 rfl hl (by decide) rfl (fun ls hl => ?_)
  refine lv_iconst (v := 0) hx hb dX9_digest_14 (by decide) ?_
  refine lv_istore (lv' := [(4, .int 0), (3, .int 1), (1, .long 58126), (0, .ref o)]) hx hb dX9_digest_15 hl (by decide) rfl (fun ls hl => ?_)
  refine lv_iload hx hb dX9_digest_17 (lv_at hl 0 rfl) ?_
  refine lv_bipush (v := 11) hx hb dX9_digest_19 (by decide) ?_
  refine lv_icmp_ge (tgt := 44) hx hb dX9_digest_21 (by decide) (fun c => absurd c (by decide)) (fun _ => ?_)
  refine lv_lload_n hx hb dX9_digest_24 rfl (lv_at hl 2 rfl) ?_
  refine lv_ldc2 hx hb S.2.2.2.1 (S.2.2.2.2 _ kw_9_57) dX9_digest_25 ?_
  refine xlmul (v := 1801906) S dX9_digest_28 (by decide) ?_
  refine lv_aload_n hx hb dX9_digest_29 rfl (lv_at hl 3 rfl) ?_
  refine lv_iload hx hb dX9_digest_30 (lv_at hl 0 rfl) ?_
  refine rdV (As := [.int 0]) (ci := 9) S (c_X9_manyNow_1 l D cI cZ cJ o q) mi_X9_manyNow kw_9_28 ⟨rfl, rfl⟩ ⟨Nat.le_of_ble_eq_true rfl, Nat.le_of_ble_eq_true rfl⟩ hP hK mW_0 rfl rfl hl.1 (Nat.le_of_ble_eq_true rfl) ⟨Nat.le_of_ble_eq_true rfl, Nat.le_of_ble_eq_true rfl⟩ dX9_digest_32 ?_
  refine lv_i2l (v := 1) hx hb dX9_digest_35 (by decide) ?_
  refine xladd (v := 1801907) S dX9_digest_36 (by decide) ?_
  refine lv_lstore_n (lv' := [(1, .long 1801907), (4, .int 0), (3, .int 1), (0, .ref o)]) hx hb dX9_digest_37 rfl hl (by decide) rfl (fun ls hl => ?_)
  refine lv_iinc (v := 1) (lv' := [(4, .int 1), (1, .long 1801907), (3, .int 1), (0, .ref o)]) hx hb dX9_digest_38 hl (k := 1) rfl (by decide) (by decide) rfl (fun ls hl => ?_)
  refine lv_goto (tgt := 17) hx hb dX9_digest_41 (by decide) ?_
  refine lv_iload hx hb dX9_digest_17 (lv_at hl 0 rfl) ?_
  refine lv_bipush (v := 11) hx hb dX9_digest_19 (by decide) ?_
  refine lv_icmp_ge (tgt := 44) hx hb dX9_digest_21 (by decide) (fun c => absurd c (by decide)) (fun _ => ?_)
  refine lv_lload_n hx hb dX9_digest_24 rfl (lv_at hl 1 rfl) ?_
  refine lv_ldc2 hx hb S.2.2.2.1 (S.2.2.2.2 _ kw_9_57) dX9_digest_25 ?_
  refine xlmul (v := 55859117) S dX9_digest_28 (by decide) ?_
  refine lv_aload_n hx hb dX9_digest_29 rfl (lv_at hl 3 rfl) ?_
  refine lv_iload hx hb dX9_digest_30 (lv_at hl 0 rfl) ?_
  refine rdV (As := [.int 1]) (ci := 9) S (c_X9_manyNow_2 l D cI cZ cJ o q) mi_X9_manyNow kw_9_28 ⟨rfl, rfl⟩ ⟨Nat.le_of_ble_eq_true rfl, Nat.le_of_ble_eq_true rfl⟩ hP hK mW_0 rfl rfl hl.1 (Nat.le_of_ble_eq_true rfl) ⟨Nat.le_of_ble_eq_true rfl, Nat.le_of_ble_eq_true rfl⟩ dX9_digest_32 ?_
  refine lv_i2l (v := 0) hx hb dX9_digest_35 (by decide) ?_
  refine xladd (v := 55859117) S dX9_digest_36 (by decide) ?_
  refine lv_lstore_n (lv' := [(1, .long 55859117), (4, .int 1), (3, .int 1), (0, .ref o)]) hx hb dX9_digest_37 rfl hl (by decide) rfl (fun ls hl => ?_)
  refine lv_iinc (v := 2) (lv' := [(4, .int 2), (1, .long 55859117), (3, .int 1), (0, .ref o)]) hx hb dX9_digest_38 hl (k := 1) rfl (by decide) (by decide) rfl (fun ls hl => ?_)
  refine lv_goto (tgt := 17) hx hb dX9_digest_41 (by decide) ?_
  refine lv_iload hx hb dX9_digest_17 (lv_at hl 0 rfl) ?_
  refine lv_bipush (v := 11) hx hb dX9_digest_19 (by decide) ?_
  refine lv_icmp_ge (tgt := 44) hx hb dX9_digest_21 (by decide) (fun c => absurd c (by decide)) (fun _ => ?_)
  refine lv_lload_n hx hb dX9_digest_24 rfl (lv_at hl 1 rfl) ?_
  refine lv_ldc2 hx hb S.2.2.2.1 (S.2.2.2.2 _ kw_9_57) dX9_digest_25 ?_
  refine xlmul (v := 1731632627) S dX9_digest_28 (by decide) ?_
  refine lv_aload_n hx hb dX9_digest_29 rfl (lv_at hl 3 rfl) ?_
  refine lv_iload hx hb dX9_digest_30 (lv_at hl 0 rfl) ?_
  refine rdV (As := [.int 2]) (ci := 9) S (c_X9_manyNow_3 l D cI cZ cJ o q) mi_X9_manyNow kw_9_28 ⟨rfl, rfl⟩ ⟨Nat.le_of_ble_eq_true rfl, Nat.le_of_ble_eq_true rfl⟩ hP hK mW_0 rfl rfl hl.1 (Nat.le_of_ble_eq_true rfl) ⟨Nat.le_of_ble_eq_true rfl, Nat.le_of_ble_eq_true rfl⟩ dX9_digest_32 ?_
  refine lv_i2l (v := 0) hx hb dX9_digest_35 (by decide) ?_
  refine xladd (v := 1731632627) S dX9_digest_36 (by decide) ?_
  refine lv_lstore_n (lv' := [(1, .long 1731632627), (4, .int 2), (3, .int 1), (0, .ref o)]) hx hb dX9_digest_37 rfl hl (by decide) rfl (fun ls hl => ?_)
  refine lv_iinc (v := 3) (lv' := [(4, .int 3), (1, .long 1731632627), (3, .int 1), (0, .ref o)]) hx hb dX9_digest_38 hl (k := 1) rfl (by decide) (by decide) rfl (fun ls hl => ?_)
  refine lv_goto (tgt := 17) hx hb dX9_digest_41 (by decide) ?_
  refine lv_iload hx hb dX9_digest_17 (lv_at hl 0 rfl) ?_
  refine lv_bipush (v := 11) hx hb dX9_digest_19 (by decide) ?_
  refine lv_icmp_ge (tgt := 44) hx hb dX9_digest_21 (by decide) (fun c => absurd c (by decide)) (fun _ => ?_)
  refine lv_lload_n hx hb dX9_digest_24 rfl (lv_at hl 1 rfl) ?_
  refine lv_ldc2 hx hb S.2.2.2.1 (S.2.2.2.2 _ kw_9_57) dX9_digest_25 ?_
  refine xlmul (v := 53680611437) S dX9_digest_28 (by decide) ?_
  refine lv_aload_n hx hb dX9_digest_29 rfl (lv_at hl 3 rfl) ?_
  refine lv_iload hx hb dX9_digest_30 (lv_at hl 0 rfl) ?_
  refine wrV (As := [.int 3]) (ci := 9) S (c_X9_manyNow_4 l D cI cZ cJ o q H.size) mi_X9_manyNow kw_9_28 rfl rfl ⟨Nat.le_of_ble_eq_true rfl, Nat.le_of_ble_eq_true rfl⟩ hP hD hK hS hA mW_0 rfl rfl hl.1 (Nat.le_of_ble_eq_true rfl) ⟨Nat.le_of_ble_eq_true rfl, Nat.le_of_ble_eq_true rfl⟩ dX9_digest_32 (fun H locs hz hP hD hS => ?_)
  refine lv_i2l (v := 1) hx hb dX9_digest_35 (by decide) ?_
  refine xladd (v := 53680611438) S dX9_digest_36 (by decide) ?_
  refine lv_lstore_n (lv' := [(1, .long 53680611438), (4, .int 3), (3, .int 1), (0, .ref o)]) hx hb dX9_digest_37 rfl hl (by decide) rfl (fun ls hl => ?_)
  refine lv_iinc (v := 4) (lv' := [(4, .int 4), (1, .long 53680611438), (3, .int 1), (0, .ref o)]) hx hb dX9_digest_38 hl (k := 1) rfl (by decide) (by decide) rfl (fun ls hl => ?_)
  refine lv_goto (tgt := 17) hx hb dX9_digest_41 (by decide) ?_
  refine lv_iload hx hb dX9_digest_17 (lv_at hl 0 rfl) ?_
  refine lv_bipush (v := 11) hx hb dX9_digest_19 (by decide) ?_
  refine lv_icmp_ge (tgt := 44) hx hb dX9_digest_21 (by decide) (fun c => absurd c (by decide)) (fun _ => ?_)
  refine lv_lload_n hx hb dX9_digest_24 rfl (lv_at hl 1 rfl) ?_
  refine lv_ldc2 hx hb S.2.2.2.1 (S.2.2.2.2 _ kw_9_57) dX9_digest_25 ?_
  refine xlmul (v := 1664098954578) S dX9_digest_28 (by decide) ?_
  refine lv_aload_n hx hb dX9_digest_29 rfl (lv_at hl 3 rfl) ?_
  refine lv_iload hx hb dX9_digest_30 (lv_at hl 0 rfl) ?_
  refine rdV (As := [.int 4]) (ci := 9) S (c_X9_manyNow_5 l D cI cZ cJ o q) mi_X9_manyNow kw_9_28 ⟨rfl, rfl⟩ ⟨Nat.le_of_ble_eq_true rfl, Nat.le_of_ble_eq_true rfl⟩ hP hK mW_0 rfl rfl hl.1 (Nat.le_of_ble_eq_true rfl) ⟨Nat.le_of_ble_eq_true rfl, Nat.le_of_ble_eq_true rfl⟩ dX9_digest_32 ?_
  refine lv_i2l (v := 0) hx hb dX9_digest_35 (by decide) ?_
  refine xladd (v := 1664098954578) S dX9_digest_36 (by decide) ?_
  refine lv_lstore_n (lv' := [(1, .long 1664098954578), (4, .int 4), (3, .int 1), (0, .ref o)]) hx hb dX9_digest_37 rfl hl (by decide) rfl (fun ls hl => ?_)
  refine lv_iinc (v := 5) (lv' := [(4, .int 5), (1, .long 1664098954578), (3, .int 1), (0, .ref o)]) hx hb dX9_digest_38 hl (k := 1) rfl (by decide) (by decide) rfl (fun ls hl => ?_)
  refine lv_goto (tgt := 17) hx hb dX9_digest_41 (by decide) ?_
  refine lv_iload hx hb dX9_digest_17 (lv_at hl 0 rfl) ?_
  refine lv_bipush (v := 11) hx hb dX9_digest_19 (by decide) ?_
  refine lv_icmp_ge (tgt := 44) hx hb dX9_digest_21 (by decide) (fun c => absurd c (by decide)) (fun _ => ?_)
  refine lv_lload_n hx hb dX9_digest_24 rfl (lv_at hl 1 rfl) ?_
  refine lv_ldc2 hx hb S.2.2.2.1 (S.2.2.2.2 _ kw_9_57) dX9_digest_25 ?_
  refine xlmul (v := 51587067591918) S dX9_digest_28 (by decide) ?_
  refine lv_aload_n hx hb dX9_digest_29 rfl (lv_at hl 3 rfl) ?_
  refine lv_iload hx hb dX9_digest_30 (lv_at hl 0 rfl) ?_
  refine rdV (As := [.int 5]) (ci := 9) S (c_X9_manyNow_6 l D cI cZ cJ o q) mi_X9_manyNow kw_9_28 ⟨rfl, rfl⟩ ⟨Nat.le_of_ble_eq_true rfl, Nat.le_of_ble_eq_true rfl⟩ hP hK mW_0 rfl rfl hl.1 (Nat.le_of_ble_eq_true rfl) ⟨Nat.le_of_ble_eq_true rfl, Nat.le_of_ble_eq_true rfl⟩ dX9_digest_32 ?_
  refine lv_i2l (v := 0) hx hb dX9_digest_35 (by decide) ?_
  refine xladd (v := 51587067591918) S dX9_digest_36 (by decide) ?_
  refine lv_lstore_n (lv' := [(1, .long 51587067591918), (4, .int 5), (3, .int 1), (0, .ref o)]) hx hb dX9_digest_37 rfl hl (by decide) rfl (fun ls hl => ?_)
  refine lv_iinc (v := 6) (lv' := [(4, .int 6), (1, .long 51587067591918), (3, .int 1), (0, .ref o)]) hx hb dX9_digest_38 hl (k := 1) rfl (by decide) (by decide) rfl (fun ls hl => ?_)
  refine lv_goto (tgt := 17) hx hb dX9_digest_41 (by decide) ?_
  refine lv_iload hx hb dX9_digest_17 (lv_at hl 0 rfl) ?_
  refine lv_bipush (v := 11) hx hb dX9_digest_19 (by decide) ?_
  refine lv_icmp_ge (tgt := 44) hx hb dX9_digest_21 (by decide) (fun c => absurd c (by decide)) (fun _ => ?_)
  refine lv_lload_n hx hb dX9_digest_24 rfl (lv_at hl 1 rfl) ?_
  refine lv_ldc2 hx hb S.2.2.2.1 (S.2.2.2.2 _ kw_9_57) dX9_digest_25 ?_
  refine xlmul (v := 1599199095349458) S dX9_digest_28 (by decide) ?_
  refine lv_aload_n hx hb dX9_digest_29 rfl (lv_at hl 3 rfl) ?_
  refine lv_iload hx hb dX9_digest_30 (lv_at hl 0 rfl) ?_
  refine rdV (As := [.int 6]) (ci := 9) S (c_X9_manyNow_7 l D cI cZ cJ o q) mi_X9_manyNow kw_9_28 ⟨rfl, rfl⟩ ⟨Nat.le_of_ble_eq_true rfl, Nat.le_of_ble_eq_true rfl⟩ hP hK mW_0 rfl rfl hl.1 (Nat.le_of_ble_eq_true rfl) ⟨Nat.le_of_ble_eq_true rfl, Nat.le_of_ble_eq_true rfl⟩ dX9_digest_32 ?_
  refine lv_i2l (v := 0) hx hb dX9_digest_35 (by decide) ?_
  refine xladd (v := 1599199095349458) S dX9_digest_36 (by decide) ?_
  refine lv_lstore_n (lv' := [(1, .long 1599199095349458), (4, .int 6), (3, .int 1), (0, .ref o)]) hx hb dX9_digest_37 rfl hl (by decide) rfl (fun ls hl => ?_)
  refine lv_iinc (v := 7) (lv' := [(4, .int 7), (1, .long 1599199095349458), (3, .int 1), (0, .ref o)]) hx hb dX9_digest_38 hl (k := 1) rfl (by decide) (by decide) rfl (fun ls hl => ?_)
  refine lv_goto (tgt := 17) hx hb dX9_digest_41 (by decide) ?_
  refine lv_iload hx hb dX9_digest_17 (lv_at hl 0 rfl) ?_
  refine lv_bipush (v := 11) hx hb dX9_digest_19 (by decide) ?_
  refine lv_icmp_ge (tgt := 44) hx hb dX9_digest_21 (by decide) (fun c => absurd c (by decide)) (fun _ => ?_)
  refine lv_lload_n hx hb dX9_digest_24 rfl (lv_at hl 1 rfl) ?_
  refine lv_ldc2 hx hb S.2.2.2.1 (S.2.2.2.2 _ kw_9_57) dX9_digest_25 ?_
  refine xlmul (v := 49575171955833198) S dX9_digest_28 (by decide) ?_
  refine lv_aload_n hx hb dX9_digest_29 rfl (lv_at hl 3 rfl) ?_
  refine lv_iload hx hb dX9_digest_30 (lv_at hl 0 rfl) ?_
  refine rdV (As := [.int 7]) (ci := 9) S (c_X9_manyNow_8 l D cI cZ cJ o q) mi_X9_manyNow kw_9_28 ⟨rfl, rfl⟩ ⟨Nat.le_of_ble_eq_true rfl, Nat.le_of_ble_eq_true rfl⟩ hP hK mW_0 rfl rfl hl.1 (Nat.le_of_ble_eq_true rfl) ⟨Nat.le_of_ble_eq_true rfl, Nat.le_of_ble_eq_true rfl⟩ dX9_digest_32 ?_
  refine lv_i2l (v := 7) hx hb dX9_digest_35 (by decide) ?_
  refine xladd (v := 49575171955833205) S dX9_digest_36 (by decide) ?_
  refine lv_lstore_n (lv' := [(1, .long 49575171955833205), (4, .int 7), (3, .int 1), (0, .ref o)]) hx hb dX9_digest_37 rfl hl (by decide) rfl (fun ls hl => ?_)
  refine lv_iinc (v := 8) (lv' := [(4, .int 8), (1, .long 49575171955833205), (3, .int 1), (0, .ref o)]) hx hb dX9_digest_38 hl (k := 1) rfl (by decide) (by decide) rfl (fun ls hl => ?_)
  refine lv_goto (tgt := 17) hx hb dX9_digest_41 (by decide) ?_
  refine lv_iload hx hb dX9_digest_17 (lv_at hl 0 rfl) ?_
  refine lv_bipush (v := 11) hx hb dX9_digest_19 (by decide) ?_
  refine lv_icmp_ge (tgt := 44) hx hb dX9_digest_21 (by decide) (fun c => absurd c (by decide)) (fun _ => ?_)
  refine lv_lload_n hx hb dX9_digest_24 rfl (lv_at hl 1 rfl) ?_
  refine lv_ldc2 hx hb S.2.2.2.1 (S.2.2.2.2 _ kw_9_57) dX9_digest_25 ?_
  refine xlmul (v := 1536830330630829355) S dX9_digest_28 (by decide) ?_
  refine lv_aload_n hx hb dX9_digest_29 rfl (lv_at hl 3 rfl) ?_
  refine lv_iload hx hb dX9_digest_30 (lv_at hl 0 rfl) ?_
  refine rdV (As := [.int 8]) (ci := 9) S (c_X9_manyNow_9 l D cI cZ cJ o q) mi_X9_manyNow kw_9_28 ⟨rfl, rfl⟩ ⟨Nat.le_of_ble_eq_true rfl, Nat.le_of_ble_eq_true rfl⟩ hP hK mW_0 rfl rfl hl.1 (Nat.le_of_ble_eq_true rfl) ⟨Nat.le_of_ble_eq_true rfl, Nat.le_of_ble_eq_true rfl⟩ dX9_digest_32 ?_
  refine lv_i2l (v := 1000) hx hb dX9_digest_35 (by decide) ?_
  refine xladd (v := 1536830330630830355) S dX9_digest_36 (by decide) ?_
  refine lv_lstore_n (lv' := [(1, .long 1536830330630830355), (4, .int 8), (3, .int 1), (0, .ref o)]) hx hb dX9_digest_37 rfl hl (by decide) rfl (fun ls hl => ?_)
  refine lv_iinc (v := 9) (lv' := [(4, .int 9), (1, .long 1536830330630830355), (3, .int 1), (0, .ref o)]) hx hb dX9_digest_38 hl (k := 1) rfl (by decide) (by decide) rfl (fun ls hl => ?_)
  refine lv_goto (tgt := 17) hx hb dX9_digest_41 (by decide) ?_
  refine lv_iload hx hb dX9_digest_17 (lv_at hl 0 rfl) ?_
  refine lv_bipush (v := 11) hx hb dX9_digest_19 (by decide) ?_
  refine lv_icmp_ge (tgt := 44) hx hb dX9_digest_21 (by decide) (fun c => absurd c (by decide)) (fun _ => ?_)
  refine lv_lload_n hx hb dX9_digest_24 rfl (lv_at hl 1 rfl) ?_
  refine lv_ldc2 hx hb S.2.2.2.1 (S.2.2.2.2 _ kw_9_57) dX9_digest_25 ?_
  refine xlmul (v := (-7698491971572913843)) S dX9_digest_28 (by decide) ?_
  refine lv_aload_n hx hb dX9_digest_29 rfl (lv_at hl 3 rfl) ?_
  refine lv_iload hx hb dX9_digest_30 (lv_at hl 0 rfl) ?_
  refine rdV (As := [.int 9]) (ci := 9) S (c_X9_manyNow_10 l D cI cZ cJ o q) mi_X9_manyNow kw_9_28 ⟨rfl, rfl⟩ ⟨Nat.le_of_ble_eq_true rfl, Nat.le_of_ble_eq_true rfl⟩ hP hK mW_0 rfl rfl hl.1 (Nat.le_of_ble_eq_true rfl) ⟨Nat.le_of_ble_eq_true rfl, Nat.le_of_ble_eq_true rfl⟩ dX9_digest_32 ?_
  refine lv_i2l (v := 20) hx hb dX9_digest_35 (by decide) ?_
  refine xladd (v := (-7698491971572913823)) S dX9_digest_36 (by decide) ?_
  refine lv_lstore_n (lv' := [(1, .long (-7698491971572913823)), (4, .int 9), (3, .int 1), (0, .ref o)]) hx hb dX9_digest_37 rfl hl (by decide) rfl (fun ls hl => ?_)
  refine lv_iinc (v := 10) (lv' := [(4, .int 10), (1, .long (-7698491971572913823)), (3, .int 1), (0, .ref o)]) hx hb dX9_digest_38 hl (k := 1) rfl (by decide) (by decide) rfl (fun ls hl => ?_)
  refine lv_goto (tgt := 17) hx hb dX9_digest_41 (by decide) ?_
  refine lv_iload hx hb dX9_digest_17 (lv_at hl 0 rfl) ?_
  refine lv_bipush (v := 11) hx hb dX9_digest_19 (by decide) ?_
  refine lv_icmp_ge (tgt := 44) hx hb dX9_digest_21 (by decide) (fun c => absurd c (by decide)) (fun _ => ?_)
  refine lv_lload_n hx hb dX9_digest_24 rfl (lv_at hl 1 rfl) ?_
  refine lv_ldc2 hx hb S.2.2.2.1 (S.2.2.2.2 _ kw_9_57) dX9_digest_25 ?_
  refine xlmul (v := 1154421839463842495) S dX9_digest_28 (by decide) ?_
  refine lv_aload_n hx hb dX9_digest_29 rfl (lv_at hl 3 rfl) ?_
  refine lv_iload hx hb dX9_digest_30 (lv_at hl 0 rfl) ?_
  refine wrV (As := [.int 10]) (ci := 9) S (c_X9_manyNow_0 l D cI cZ cJ o q H.size) mi_X9_manyNow kw_9_28 rfl rfl ⟨Nat.le_of_ble_eq_true rfl, Nat.le_of_ble_eq_true rfl⟩ hP hD hK hS hA mW_0 rfl rfl hl.1 (Nat.le_of_ble_eq_true rfl) ⟨Nat.le_of_ble_eq_true rfl, Nat.le_of_ble_eq_true rfl⟩ dX9_digest_32 (fun H locs hz hP hD hS => ?_)
  refine lv_i2l (v := 0) hx hb dX9_digest_35 (by decide) ?_
  refine xladd (v := 1154421839463842495) S dX9_digest_36 (by decide) ?_
  refine lv_lstore_n (lv' := [(1, .long 1154421839463842495), (4, .int 10), (3, .int 1), (0, .ref o)]) hx hb dX9_digest_37 rfl hl (by decide) rfl (fun ls hl => ?_)
  refine lv_iinc (v := 11) (lv' := [(4, .int 11), (1, .long 1154421839463842495), (3, .int 1), (0, .ref o)]) hx hb dX9_digest_38 hl (k := 1) rfl (by decide) (by decide) rfl (fun ls hl => ?_)
  refine lv_goto (tgt := 17) hx hb dX9_digest_41 (by decide) ?_
  refine lv_iload hx hb dX9_digest_17 (lv_at hl 0 rfl) ?_
  refine lv_bipush (v := 11) hx hb dX9_digest_19 (by decide) ?_
  refine lv_icmp_ge (tgt := 44) hx hb dX9_digest_21 (by decide) (fun _ => ?_) (fun c => absurd c (by decide))
  refine lv_iconst (v := 0) hx hb dX9_digest_44 (by decide) ?_
  refine lv_istore (lv' := [(4, .int 0), (1, .long 1154421839463842495), (3, .int 1), (0, .ref o)]) hx hb dX9_digest_45 hl (by decide) rfl (fun ls hl => ?_)
  refine lv_iload hx hb dX9_digest_47 (lv_at hl 0 rfl) ?_
  refine lv_aload_n hx hb dX9_digest_49 rfl (lv_at hl 3 rfl) ?_
  refine xg (ci := 9) S inX9 rfl hK hP mW_0 1 (by decide) mF_1 kw_6_149 rfl dX9_digest_50 ?_
  refine lv_icmp_ge (tgt := 192) hx hb dX9_digest_53 (by decide) (fun c => absurd c (by decide)) (fun _ => ?_)
  refine lv_iconst (v := 0) hx hb dX9_digest_56 (by decide) ?_
  refine lv_istore (lv' := [(5, .int 0), (4, .int 0), (1, .long 1154421839463842495), (3, .int 1), (0, .ref o)]) hx hb dX9_digest_57 hl (by decide) rfl (fun ls hl => ?_)
  refine lv_iload hx hb dX9_digest_59 (lv_at hl 0 rfl) ?_
  refine lv_bipush (v := 8) hx hb dX9_digest_61 (by decide) ?_
  refine lv_icmp_ge (tgt := 88) hx hb dX9_digest_63 (by decide) (fun c => absurd c (by decide)) (fun _ => ?_)
  refine lv_lload_n hx hb dX9_digest_66 rfl (lv_at hl 2 rfl) ?_
  refine lv_ldc2 hx hb S.2.2.2.1 (S.2.2.2.2 _ kw_9_57) dX9_digest_67 ?_
  refine xlmul (v := (-1106411124039985887)) S dX9_digest_70 (by decide) ?_
  refine lv_aload_n hx hb dX9_digest_71 rfl (lv_at hl 4 rfl) ?_
  refine lv_iload hx hb dX9_digest_72 (lv_at hl 1 rfl) ?_
  refine lv_iload hx hb dX9_digest_74 (lv_at hl 0 rfl) ?_
  refine rdV (As := [.int 0, .int 0]) (ci := 9) S (c_X9_ofProcedureNow_1 l D cI cZ cJ o q) mi_X9_ofProcedureNow kw_7_203 ⟨rfl, rfl⟩ ⟨Nat.le_of_ble_eq_true rfl, Nat.le_of_ble_eq_true rfl⟩ hP hK mW_0 rfl rfl hl.1 (Nat.le_of_ble_eq_true rfl) ⟨Nat.le_of_ble_eq_true rfl, Nat.le_of_ble_eq_true rfl⟩ dX9_digest_76 ?_
  refine lv_i2l (v := (-1)) hx hb dX9_digest_79 (by decide) ?_
  refine xladd (v := (-1106411124039985888)) S dX9_digest_80 (by decide) ?_
  refine lv_lstore_n (lv' := [(1, .long (-1106411124039985888)), (5, .int 0), (4, .int 0), (3, .int 1), (0, .ref o)]) hx hb dX9_digest_81 rfl hl (by decide) rfl (fun ls hl => ?_)
  refine lv_iinc (v := 1) (lv' := [(5, .int 1), (1, .long (-1106411124039985888)), (4, .int 0), (3, .int 1), (0, .ref o)]) hx hb dX9_digest_82 hl (k := 1) rfl (by decide) (by decide) rfl (fun ls hl => ?_)
  refine lv_goto (tgt := 59) hx hb dX9_digest_85 (by decide) ?_
  refine lv_iload hx hb dX9_digest_59 (lv_at hl 0 rfl) ?_
  refine lv_bipush (v := 8) hx hb dX9_digest_61 (by decide) ?_
  refine lv_icmp_ge (tgt := 88) hx hb dX9_digest_63 (by decide) (fun c => absurd c (by decide)) (fun _ => ?_)
  refine lv_lload_n hx hb dX9_digest_66 rfl (lv_at hl 1 rfl) ?_
  refine lv_ldc2 hx hb S.2.2.2.1 (S.2.2.2.2 _ kw_9_57) dX9_digest_67 ?_
  refine xlmul (v := 2594743302179540704) S dX9_digest_70 (by decide) ?_
  refine lv_aload_n hx hb dX9_digest_71 rfl (lv_at hl 4 rfl) ?_
  refine lv_iload hx hb dX9_digest_72 (lv_at hl 2 rfl) ?_
  refine lv_iload hx hb dX9_digest_74 (lv_at hl 0 rfl) ?_
  refine rdV (As := [.int 0, .int 1]) (ci := 9) S (c_X9_ofProcedureNow_2 l D cI cZ cJ o q) mi_X9_ofProcedureNow kw_7_203 ⟨rfl, rfl⟩ ⟨Nat.le_of_ble_eq_true rfl, Nat.le_of_ble_eq_true rfl⟩ hP hK mW_0 rfl rfl hl.1 (Nat.le_of_ble_eq_true rfl) ⟨Nat.le_of_ble_eq_true rfl, Nat.le_of_ble_eq_true rfl⟩ dX9_digest_76 ?_
  refine lv_i2l (v := (-1)) hx hb dX9_digest_79 (by decide) ?_
  refine xladd (v := 2594743302179540703) S dX9_digest_80 (by decide) ?_
  refine lv_lstore_n (lv' := [(1, .long 2594743302179540703), (5, .int 1), (4, .int 0), (3, .int 1), (0, .ref o)]) hx hb dX9_digest_81 rfl hl (by decide) rfl (fun ls hl => ?_)
  refine lv_iinc (v := 2) (lv' := [(5, .int 2), (1, .long 2594743302179540703), (4, .int 0), (3, .int 1), (0, .ref o)]) hx hb dX9_digest_82 hl (k := 1) rfl (by decide) (by decide) rfl (fun ls hl => ?_)
  refine lv_goto (tgt := 59) hx hb dX9_digest_85 (by decide) ?_
  refine lv_iload hx hb dX9_digest_59 (lv_at hl 0 rfl) ?_
  refine lv_bipush (v := 8) hx hb dX9_digest_61 (by decide) ?_
  refine lv_icmp_ge (tgt := 88) hx hb dX9_digest_63 (by decide) (fun c => absurd c (by decide)) (fun _ => ?_)
  refine lv_lload_n hx hb dX9_digest_66 rfl (lv_at hl 1 rfl) ?_
  refine lv_ldc2 hx hb S.2.2.2.1 (S.2.2.2.2 _ kw_9_57) dX9_digest_67 ?_
  refine xlmul (v := 6650066072727555329) S dX9_digest_70 (by decide) ?_
  refine lv_aload_n hx hb dX9_digest_71 rfl (lv_at hl 4 rfl) ?_
  refine lv_iload hx hb dX9_digest_72 (lv_at hl 2 rfl) ?_
  refine lv_iload hx hb dX9_digest_74 (lv_at hl 0 rfl) ?_
  refine rdV (As := [.int 0, .int 2]) (ci := 9) S (c_X9_ofProcedureNow_3 l D cI cZ cJ o q) mi_X9_ofProcedureNow kw_7_203 ⟨rfl, rfl⟩ ⟨Nat.le_of_ble_eq_true rfl, Nat.le_of_ble_eq_true rfl⟩ hP hK mW_0 rfl rfl hl.1 (Nat.le_of_ble_eq_true rfl) ⟨Nat.le_of_ble_eq_true rfl, Nat.le_of_ble_eq_true rfl⟩ dX9_digest_76 ?_
  refine lv_i2l (v := 0) hx hb dX9_digest_79 (by decide) ?_
  refine xladd (v := 6650066072727555329) S dX9_digest_80 (by decide) ?_
  refine lv_lstore_n (lv' := [(1, .long 6650066072727555329), (5, .int 2), (4, .int 0), (3, .int 1), (0, .ref o)]) hx hb dX9_digest_81 rfl hl (by decide) rfl (fun ls hl => ?_)
  refine lv_iinc (v := 3) (lv' := [(5, .int 3), (1, .long 6650066072727555329), (4, .int 0), (3, .int 1), (0, .ref o)]) hx hb dX9_digest_82 hl (k := 1) rfl (by decide) (by decide) rfl (fun ls hl => ?_)
  refine lv_goto (tgt := 59) hx hb dX9_digest_85 (by decide) ?_
  refine lv_iload hx hb dX9_digest_59 (lv_at hl 0 rfl) ?_
  refine lv_bipush (v := 8) hx hb dX9_digest_61 (by decide) ?_
  refine lv_icmp_ge (tgt := 88) hx hb dX9_digest_63 (by decide) (fun c => absurd c (by decide)) (fun _ => ?_)
  refine lv_lload_n hx hb dX9_digest_66 rfl (lv_at hl 1 rfl) ?_
  refine lv_ldc2 hx hb S.2.2.2.1 (S.2.2.2.2 _ kw_9_57) dX9_digest_67 ?_
  refine xlmul (v := 3237863443749147423) S dX9_digest_70 (by decide) ?_
  refine lv_aload_n hx hb dX9_digest_71 rfl (lv_at hl 4 rfl) ?_
  refine lv_iload hx hb dX9_digest_72 (lv_at hl 2 rfl) ?_
  refine lv_iload hx hb dX9_digest_74 (lv_at hl 0 rfl) ?_
  refine rdV (As := [.int 0, .int 3]) (ci := 9) S (c_X9_ofProcedureNow_4 l D cI cZ cJ o q) mi_X9_ofProcedureNow kw_7_203 ⟨rfl, rfl⟩ ⟨Nat.le_of_ble_eq_true rfl, Nat.le_of_ble_eq_true rfl⟩ hP hK mW_0 rfl rfl hl.1 (Nat.le_of_ble_eq_true rfl) ⟨Nat.le_of_ble_eq_true rfl, Nat.le_of_ble_eq_true rfl⟩ dX9_digest_76 ?_
  refine lv_i2l (v := 0) hx hb dX9_digest_79 (by decide) ?_
  refine xladd (v := 3237863443749147423) S dX9_digest_80 (by decide) ?_
  refine lv_lstore_n (lv' := [(1, .long 3237863443749147423), (5, .int 3), (4, .int 0), (3, .int 1), (0, .ref o)]) hx hb dX9_digest_81 rfl hl (by decide) rfl (fun ls hl => ?_)
  refine lv_iinc (v := 4) (lv' := [(5, .int 4), (1, .long 3237863443749147423), (4, .int 0), (3, .int 1), (0, .ref o)]) hx hb dX9_digest_82 hl (k := 1) rfl (by decide) (by decide) rfl (fun ls hl => ?_)
  refine lv_goto (tgt := 59) hx hb dX9_digest_85 (by decide) ?_
  refine lv_iload hx hb dX9_digest_59 (lv_at hl 0 rfl) ?_
  refine lv_bipush (v := 8) hx hb dX9_digest_61 (by decide) ?_
  refine lv_icmp_ge (tgt := 88) hx hb dX9_digest_63 (by decide) (fun c => absurd c (by decide)) (fun _ => ?_)
  refine lv_lload_n hx hb dX9_digest_66 rfl (lv_at hl 1 rfl) ?_
  refine lv_ldc2 hx hb S.2.2.2.1 (S.2.2.2.2 _ kw_9_57) dX9_digest_67 ?_
  refine xlmul (v := 8140046387675812033) S dX9_digest_70 (by decide) ?_
  refine lv_aload_n hx hb dX9_digest_71 rfl (lv_at hl 4 rfl) ?_
  refine lv_iload hx hb dX9_digest_72 (lv_at hl 2 rfl) ?_
  refine lv_iload hx hb dX9_digest_74 (lv_at hl 0 rfl) ?_
  refine rdV (As := [.int 0, .int 4]) (ci := 9) S (c_X9_ofProcedureNow_5 l D cI cZ cJ o q) mi_X9_ofProcedureNow kw_7_203 ⟨rfl, rfl⟩ ⟨Nat.le_of_ble_eq_true rfl, Nat.le_of_ble_eq_true rfl⟩ hP hK mW_0 rfl rfl hl.1 (Nat.le_of_ble_eq_true rfl) ⟨Nat.le_of_ble_eq_true rfl, Nat.le_of_ble_eq_true rfl⟩ dX9_digest_76 ?_
  refine lv_i2l (v := 0) hx hb dX9_digest_79 (by decide) ?_
  refine xladd (v := 8140046387675812033) S dX9_digest_80 (by decide) ?_
  refine lv_lstore_n (lv' := [(1, .long 8140046387675812033), (5, .int 4), (4, .int 0), (3, .int 1), (0, .ref o)]) hx hb dX9_digest_81 rfl hl (by decide) rfl (fun ls hl => ?_)
  refine lv_iinc (v := 5) (lv' := [(5, .int 5), (1, .long 8140046387675812033), (4, .int 0), (3, .int 1), (0, .ref o)]) hx hb dX9_digest_82 hl (k := 1) rfl (by decide) (by decide) rfl (fun ls hl => ?_)
  refine lv_goto (tgt := 59) hx hb dX9_digest_85 (by decide) ?_
  refine lv_iload hx hb dX9_digest_59 (lv_at hl 0 rfl) ?_
  refine lv_bipush (v := 8) hx hb dX9_digest_61 (by decide) ?_
  refine lv_icmp_ge (tgt := 88) hx hb dX9_digest_63 (by decide) (fun c => absurd c (by decide)) (fun _ => ?_)
  refine lv_lload_n hx hb dX9_digest_66 rfl (lv_at hl 1 rfl) ?_
  refine lv_ldc2 hx hb S.2.2.2.1 (S.2.2.2.2 _ kw_9_57) dX9_digest_67 ?_
  refine xlmul (v := (-5912979013983549601)) S dX9_digest_70 (by decide) ?_
  refine lv_aload_n hx hb dX9_digest_71 rfl (lv_at hl 4 rfl) ?_
  refine lv_iload hx hb dX9_digest_72 (lv_at hl 2 rfl) ?_
  refine lv_iload hx hb dX9_digest_74 (lv_at hl 0 rfl) ?_
  refine rdV (As := [.int 0, .int 5]) (ci := 9) S (c_X9_ofProcedureNow_6 l D cI cZ cJ o q) mi_X9_ofProcedureNow kw_7_203 ⟨rfl, rfl⟩ ⟨Nat.le_of_ble_eq_true rfl, Nat.le_of_ble_eq_true rfl⟩ hP hK mW_0 rfl rfl hl.1 (Nat.le_of_ble_eq_true rfl) ⟨Nat.le_of_ble_eq_true rfl, Nat.le_of_ble_eq_true rfl⟩ dX9_digest_76 ?_
  refine lv_i2l (v := 0) hx hb dX9_digest_79 (by decide) ?_
  refine xladd (v := (-5912979013983549601)) S dX9_digest_80 (by decide) ?_
  refine lv_lstore_n (lv' := [(1, .long (-5912979013983549601)), (5, .int 5), (4, .int 0), (3, .int 1), (0, .ref o)]) hx hb dX9_digest_81 rfl hl (by decide) rfl (fun ls hl => ?_)
  refine lv_iinc (v := 6) (lv' := [(5, .int 6), (1, .long (-5912979013983549601)), (4, .int 0), (3, .int 1), (0, .ref o)]) hx hb dX9_digest_82 hl (k := 1) rfl (by decide) (by decide) rfl (fun ls hl => ?_)
  refine lv_goto (tgt := 59) hx hb dX9_digest_85 (by decide) ?_
  refine lv_iload hx hb dX9_digest_59 (lv_at hl 0 rfl) ?_
  refine lv_bipush (v := 8) hx hb dX9_digest_61 (by decide) ?_
  refine lv_icmp_ge (tgt := 88) hx hb dX9_digest_63 (by decide) (fun c => absurd c (by decide)) (fun _ => ?_)
  refine lv_lload_n hx hb dX9_digest_66 rfl (lv_at hl 1 rfl) ?_
  refine lv_ldc2 hx hb S.2.2.2.1 (S.2.2.2.2 _ kw_9_57) dX9_digest_67 ?_
  refine xlmul (v := 1165091303605478529) S dX9_digest_70 (by decide) ?_
  refine lv_aload_n hx hb dX9_digest_71 rfl (lv_at hl 4 rfl) ?_
  refine lv_iload hx hb dX9_digest_72 (lv_at hl 2 rfl) ?_
  refine lv_iload hx hb dX9_digest_74 (lv_at hl 0 rfl) ?_
  refine rdV (As := [.int 0, .int 6]) (ci := 9) S (c_X9_ofProcedureNow_7 l D cI cZ cJ o q) mi_X9_ofProcedureNow kw_7_203 ⟨rfl, rfl⟩ ⟨Nat.le_of_ble_eq_true rfl, Nat.le_of_ble_eq_true rfl⟩ hP hK mW_0 rfl rfl hl.1 (Nat.le_of_ble_eq_true rfl) ⟨Nat.le_of_ble_eq_true rfl, Nat.le_of_ble_eq_true rfl⟩ dX9_digest_76 ?_
  refine lv_i2l (v := (-1)) hx hb dX9_digest_79 (by decide) ?_
  refine xladd (v := 1165091303605478528) S dX9_digest_80 (by decide) ?_
  refine lv_lstore_n (lv' := [(1, .long 1165091303605478528), (5, .int 6), (4, .int 0), (3, .int 1), (0, .ref o)]) hx hb dX9_digest_81 rfl hl (by decide) rfl (fun ls hl => ?_)
  refine lv_iinc (v := 7) (lv' := [(5, .int 7), (1, .long 1165091303605478528), (4, .int 0), (3, .int 1), (0, .ref o)]) hx hb dX9_digest_82 hl (k := 1) rfl (by decide) (by decide) rfl (fun ls hl => ?_)
  refine lv_goto (tgt := 59) hx hb dX9_digest_85 (by decide) ?_
  refine lv_iload hx hb dX9_digest_59 (lv_at hl 0 rfl) ?_
  refine lv_bipush (v := 8) hx hb dX9_digest_61 (by decide) ?_
  refine lv_icmp_ge (tgt := 88) hx hb dX9_digest_63 (by decide) (fun c => absurd c (by decide)) (fun _ => ?_)
  refine lv_lload_n hx hb dX9_digest_66 rfl (lv_at hl 1 rfl) ?_
  refine lv_ldc2 hx hb S.2.2.2.1 (S.2.2.2.2 _ kw_9_57) dX9_digest_67 ?_
  refine xlmul (v := (-775657735649268864)) S dX9_digest_70 (by decide) ?_
  refine lv_aload_n hx hb dX9_digest_71 rfl (lv_at hl 4 rfl) ?_
  refine lv_iload hx hb dX9_digest_72 (lv_at hl 2 rfl) ?_
  refine lv_iload hx hb dX9_digest_74 (lv_at hl 0 rfl) ?_
  refine wrV (As := [.int 0, .int 7]) (ci := 9) S (c_X9_ofProcedureNow_0 l D cI cZ cJ o q H.size) mi_X9_ofProcedureNow kw_7_203 rfl rfl ⟨Nat.le_of_ble_eq_true rfl, Nat.le_of_ble_eq_true rfl⟩ hP hD hK hS hA mW_0 rfl rfl hl.1 (Nat.le_of_ble_eq_true rfl) ⟨Nat.le_of_ble_eq_true rfl, Nat.le_of_ble_eq_true rfl⟩ dX9_digest_76 (fun H locs hz hP hD hS => ?_)
  refine lv_i2l (v := 0) hx hb dX9_digest_79 (by decide) ?_
  refine xladd (v := (-775657735649268864)) S dX9_digest_80 (by decide) ?_
  refine lv_lstore_n (lv' := [(1, .long (-775657735649268864)), (5, .int 7), (4, .int 0), (3, .int 1), (0, .ref o)]) hx hb dX9_digest_81 rfl hl (by decide) rfl (fun ls hl => ?_)
  refine lv_iinc (v := 8) (lv' := [(5, .int 8), (1, .long (-775657735649268864)), (4, .int 0), (3, .int 1), (0, .ref o)]) hx hb dX9_digest_82 hl (k := 1) rfl (by decide) (by decide) rfl (fun ls hl => ?_)
  refine lv_goto (tgt := 59) hx hb dX9_digest_85 (by decide) ?_
  refine lv_iload hx hb dX9_digest_59 (lv_at hl 0 rfl) ?_
  refine lv_bipush (v := 8) hx hb dX9_digest_61 (by decide) ?_
  refine lv_icmp_ge (tgt := 88) hx hb dX9_digest_63 (by decide) (fun _ => ?_) (fun c => absurd c (by decide))
  refine lv_iconst (v := 0) hx hb dX9_digest_88 (by decide) ?_
  refine lv_istore (lv' := [(5, .int 0), (1, .long (-775657735649268864)), (4, .int 0), (3, .int 1), (0, .ref o)]) hx hb dX9_digest_89 hl (by decide) rfl (fun ls hl => ?_)
  refine lv_iload hx hb dX9_digest_91 (lv_at hl 0 rfl) ?_
  refine lv_bipush (v := 8) hx hb dX9_digest_93 (by decide) ?_
  refine lv_icmp_ge (tgt := 120) hx hb dX9_digest_95 (by decide) (fun c => absurd c (by decide)) (fun _ => ?_)
  refine lv_lload_n hx hb dX9_digest_98 rfl (lv_at hl 1 rfl) ?_
  refine lv_ldc2 hx hb S.2.2.2.1 (S.2.2.2.2 _ kw_9_57) dX9_digest_99 ?_
  refine xlmul (v := (-5598645731417783168)) S dX9_digest_102 (by decide) ?_
  refine lv_aload_n hx hb dX9_digest_103 rfl (lv_at hl 4 rfl) ?_
  refine lv_iload hx hb dX9_digest_104 (lv_at hl 2 rfl) ?_
  refine lv_iload hx hb dX9_digest_106 (lv_at hl 0 rfl) ?_
  refine rdV (As := [.int 0, .int 0]) (ci := 9) S (c_X9_hiddenNow_1 l D cI cZ cJ o q) mi_X9_hiddenNow kw_9_48 ⟨rfl, rfl⟩ ⟨Nat.le_of_ble_eq_true rfl, Nat.le_of_ble_eq_true rfl⟩ hP hK mW_0 rfl rfl hl.1 (Nat.le_of_ble_eq_true rfl) ⟨Nat.le_of_ble_eq_true rfl, Nat.le_of_ble_eq_true rfl⟩ dX9_digest_108 ?_
  refine lv_i2l (v := 0) hx hb dX9_digest_111 (by decide) ?_
  refine xladd (v := (-5598645731417783168)) S dX9_digest_112 (by decide) ?_
  refine lv_lstore_n (lv' := [(1, .long (-5598645731417783168)), (5, .int 0), (4, .int 0), (3, .int 1), (0, .ref o)]) hx hb dX9_digest_113 rfl hl (by decide) rfl (fun ls hl => ?_)
  refine lv_iinc (v := 1) (lv' := [(5, .int 1), (1, .long (-5598645731417783168)), (4, .int 0), (3, .int 1), (0, .ref o)]) hx hb dX9_digest_114 hl (k := 1) rfl (by decide) (by decide) rfl (fun ls hl => ?_)
  refine lv_goto (tgt := 91) hx hb dX9_digest_117 (by decide) ?_
  refine lv_iload hx hb dX9_digest_91 (lv_at hl 0 rfl) ?_
  refine lv_bipush (v := 8) hx hb dX9_digest_93 (by decide) ?_
  refine lv_icmp_ge (tgt := 120) hx hb dX9_digest_95 (by decide) (fun c => absurd c (by decide)) (fun _ => ?_)
  refine lv_lload_n hx hb dX9_digest_98 rfl (lv_at hl 1 rfl) ?_
  refine lv_ldc2 hx hb S.2.2.2.1 (S.2.2.2.2 _ kw_9_57) dX9_digest_99 ?_
  refine xlmul (v := (-7537321010565313664)) S dX9_digest_102 (by decide) ?_
  refine lv_aload_n hx hb dX9_digest_103 rfl (lv_at hl 4 rfl) ?_
  refine lv_iload hx hb dX9_digest_104 (lv_at hl 2 rfl) ?_
  refine lv_iload hx hb dX9_digest_106 (lv_at hl 0 rfl) ?_
  refine rdV (As := [.int 0, .int 1]) (ci := 9) S (c_X9_hiddenNow_2 l D cI cZ cJ o q) mi_X9_hiddenNow kw_9_48 ⟨rfl, rfl⟩ ⟨Nat.le_of_ble_eq_true rfl, Nat.le_of_ble_eq_true rfl⟩ hP hK mW_0 rfl rfl hl.1 (Nat.le_of_ble_eq_true rfl) ⟨Nat.le_of_ble_eq_true rfl, Nat.le_of_ble_eq_true rfl⟩ dX9_digest_108 ?_
  refine lv_i2l (v := 0) hx hb dX9_digest_111 (by decide) ?_
  refine xladd (v := (-7537321010565313664)) S dX9_digest_112 (by decide) ?_
  refine lv_lstore_n (lv' := [(1, .long (-7537321010565313664)), (5, .int 1), (4, .int 0), (3, .int 1), (0, .ref o)]) hx hb dX9_digest_113 rfl hl (by decide) rfl (fun ls hl => ?_)
  refine lv_iinc (v := 2) (lv' := [(5, .int 2), (1, .long (-7537321010565313664)), (4, .int 0), (3, .int 1), (0, .ref o)]) hx hb dX9_digest_114 hl (k := 1) rfl (by decide) (by decide) rfl (fun ls hl => ?_)
  refine lv_goto (tgt := 91) hx hb dX9_digest_117 (by decide) ?_
  refine lv_iload hx hb dX9_digest_91 (lv_at hl 0 rfl) ?_
  refine lv_bipush (v := 8) hx hb dX9_digest_93 (by decide) ?_
  refine lv_icmp_ge (tgt := 120) hx hb dX9_digest_95 (by decide) (fun c => absurd c (by decide)) (fun _ => ?_)
  refine lv_lload_n hx hb dX9_digest_98 rfl (lv_at hl 1 rfl) ?_
  refine lv_ldc2 hx hb S.2.2.2.1 (S.2.2.2.2 _ kw_9_57) dX9_digest_99 ?_
  refine xlmul (v := 6150721630699447424) S dX9_digest_102 (by decide) ?_
  refine lv_aload_n hx hb dX9_digest_103 rfl (lv_at hl 4 rfl) ?_
  refine lv_iload hx hb dX9_digest_104 (lv_at hl 2 rfl) ?_
  refine lv_iload hx hb dX9_digest_106 (lv_at hl 0 rfl) ?_
  refine rdV (As := [.int 0, .int 2]) (ci := 9) S (c_X9_hiddenNow_3 l D cI cZ cJ o q) mi_X9_hiddenNow kw_9_48 ⟨rfl, rfl⟩ ⟨Nat.le_of_ble_eq_true rfl, Nat.le_of_ble_eq_true rfl⟩ hP hK mW_0 rfl rfl hl.1 (Nat.le_of_ble_eq_true rfl) ⟨Nat.le_of_ble_eq_true rfl, Nat.le_of_ble_eq_true rfl⟩ dX9_digest_108 ?_
  refine lv_i2l (v := 0) hx hb dX9_digest_111 (by decide) ?_
  refine xladd (v := 6150721630699447424) S dX9_digest_112 (by decide) ?_
  refine lv_lstore_n (lv' := [(1, .long 6150721630699447424), (5, .int 2), (4, .int 0), (3, .int 1), (0, .ref o)]) hx hb dX9_digest_113 rfl hl (by decide) rfl (fun ls hl => ?_)
  refine lv_iinc (v := 3) (lv' := [(5, .int 3), (1, .long 6150721630699447424), (4, .int 0), (3, .int 1), (0, .ref o)]) hx hb dX9_digest_114 hl (k := 1) rfl (by decide) (by decide) rfl (fun ls hl => ?_)
  refine lv_goto (tgt := 91) hx hb dX9_digest_117 (by decide) ?_
  refine lv_iload hx hb dX9_digest_91 (lv_at hl 0 rfl) ?_
  refine lv_bipush (v := 8) hx hb dX9_digest_93 (by decide) ?_
  refine lv_icmp_ge (tgt := 120) hx hb dX9_digest_95 (by decide) (fun c => absurd c (by decide)) (fun _ => ?_)
  refine lv_lload_n hx hb dX9_digest_98 rfl (lv_at hl 1 rfl) ?_
  refine lv_ldc2 hx hb S.2.2.2.1 (S.2.2.2.2 _ kw_9_57) dX9_digest_99 ?_
  refine xlmul (v := 6204929814587353984) S dX9_digest_102 (by decide) ?_
  refine lv_aload_n hx hb dX9_digest_103 rfl (lv_at hl 4 rfl) ?_
  refine lv_iload hx hb dX9_digest_104 (lv_at hl 2 rfl) ?_
  refine lv_iload hx hb dX9_digest_106 (lv_at hl 0 rfl) ?_
  refine rdV (As := [.int 0, .int 3]) (ci := 9) S (c_X9_hiddenNow_4 l D cI cZ cJ o q) mi_X9_hiddenNow kw_9_48 ⟨rfl, rfl⟩ ⟨Nat.le_of_ble_eq_true rfl, Nat.le_of_ble_eq_true rfl⟩ hP hK mW_0 rfl rfl hl.1 (Nat.le_of_ble_eq_true rfl) ⟨Nat.le_of_ble_eq_true rfl, Nat.le_of_ble_eq_true rfl⟩ dX9_digest_108 ?_
  refine lv_i2l (v := 0) hx hb dX9_digest_111 (by decide) ?_
  refine xladd (v := 6204929814587353984) S dX9_digest_112 (by decide) ?_
  refine lv_lstore_n (lv' := [(1, .long 6204929814587353984), (5, .int 3), (4, .int 0), (3, .int 1), (0, .ref o)]) hx hb dX9_digest_113 rfl hl (by decide) rfl (fun ls hl => ?_)
  refine lv_iinc (v := 4) (lv' := [(5, .int 4), (1, .long 6204929814587353984), (4, .int 0), (3, .int 1), (0, .ref o)]) hx hb dX9_digest_114 hl (k := 1) rfl (by decide) (by decide) rfl (fun ls hl => ?_)
  refine lv_goto (tgt := 91) hx hb dX9_digest_117 (by decide) ?_
  refine lv_iload hx hb dX9_digest_91 (lv_at hl 0 rfl) ?_
  refine lv_bipush (v := 8) hx hb dX9_digest_93 (by decide) ?_
  refine lv_icmp_ge (tgt := 120) hx hb dX9_digest_95 (by decide) (fun c => absurd c (by decide)) (fun _ => ?_)
  refine lv_lload_n hx hb dX9_digest_98 rfl (lv_at hl 1 rfl) ?_
  refine lv_ldc2 hx hb S.2.2.2.1 (S.2.2.2.2 _ kw_9_57) dX9_digest_99 ?_
  refine xlmul (v := 7885383515112457344) S dX9_digest_102 (by decide) ?_
  refine lv_aload_n hx hb dX9_digest_103 rfl (lv_at hl 4 rfl) ?_
  refine lv_iload hx hb dX9_digest_104 (lv_at hl 2 rfl) ?_
  refine lv_iload hx hb dX9_digest_106 (lv_at hl 0 rfl) ?_
  refine rdV (As := [.int 0, .int 4]) (ci := 9) S (c_X9_hiddenNow_5 l D cI cZ cJ o q) mi_X9_hiddenNow kw_9_48 ⟨rfl, rfl⟩ ⟨Nat.le_of_ble_eq_true rfl, Nat.le_of_ble_eq_true rfl⟩ hP hK mW_0 rfl rfl hl.1 (Nat.le_of_ble_eq_true rfl) ⟨Nat.le_of_ble_eq_true rfl, Nat.le_of_ble_eq_true rfl⟩ dX9_digest_108 ?_
  refine lv_i2l (v := 0) hx hb dX9_digest_111 (by decide) ?_
  refine xladd (v := 7885383515112457344) S dX9_digest_112 (by decide) ?_
  refine lv_lstore_n (lv' := [(1, .long 7885383515112457344), (5, .int 4), (4, .int 0), (3, .int 1), (0, .ref o)]) hx hb dX9_digest_113 rfl hl (by decide) rfl (fun ls hl => ?_)
  refine lv_iinc (v := 5) (lv' := [(5, .int 5), (1, .long 7885383515112457344), (4, .int 0), (3, .int 1), (0, .ref o)]) hx hb dX9_digest_114 hl (k := 1) rfl (by decide) (by decide) rfl (fun ls hl => ?_)
  refine lv_goto (tgt := 91) hx hb dX9_digest_117 (by decide) ?_
  refine lv_iload hx hb dX9_digest_91 (lv_at hl 0 rfl) ?_
  refine lv_bipush (v := 8) hx hb dX9_digest_93 (by decide) ?_
  refine lv_icmp_ge (tgt := 120) hx hb dX9_digest_95 (by decide) (fun c => absurd c (by decide)) (fun _ => ?_)
  refine lv_lload_n hx hb dX9_digest_98 rfl (lv_at hl 1 rfl) ?_
  refine lv_ldc2 hx hb S.2.2.2.1 (S.2.2.2.2 _ kw_9_57) dX9_digest_99 ?_
  refine xlmul (v := 4639216010262006656) S dX9_digest_102 (by decide) ?_
  refine lv_aload_n hx hb dX9_digest_103 rfl (lv_at hl 4 rfl) ?_
  refine lv_iload hx hb dX9_digest_104 (lv_at hl 2 rfl) ?_
  refine lv_iload hx hb dX9_digest_106 (lv_at hl 0 rfl) ?_
  refine rdV (As := [.int 0, .int 5]) (ci := 9) S (c_X9_hiddenNow_6 l D cI cZ cJ o q) mi_X9_hiddenNow kw_9_48 ⟨rfl, rfl⟩ ⟨Nat.le_of_ble_eq_true rfl, Nat.le_of_ble_eq_true rfl⟩ hP hK mW_0 rfl rfl hl.1 (Nat.le_of_ble_eq_true rfl) ⟨Nat.le_of_ble_eq_true rfl, Nat.le_of_ble_eq_true rfl⟩ dX9_digest_108 ?_
  refine lv_i2l (v := 0) hx hb dX9_digest_111 (by decide) ?_
  refine xladd (v := 4639216010262006656) S dX9_digest_112 (by decide) ?_
  refine lv_lstore_n (lv' := [(1, .long 4639216010262006656), (5, .int 5), (4, .int 0), (3, .int 1), (0, .ref o)]) hx hb dX9_digest_113 rfl hl (by decide) rfl (fun ls hl => ?_)
  refine lv_iinc (v := 6) (lv' := [(5, .int 6), (1, .long 4639216010262006656), (4, .int 0), (3, .int 1), (0, .ref o)]) hx hb dX9_digest_114 hl (k := 1) rfl (by decide) (by decide) rfl (fun ls hl => ?_)
  refine lv_goto (tgt := 91) hx hb dX9_digest_117 (by decide) ?_
  refine lv_iload hx hb dX9_digest_91 (lv_at hl 0 rfl) ?_
  refine lv_bipush (v := 8) hx hb dX9_digest_93 (by decide) ?_
  refine lv_icmp_ge (tgt := 120) hx hb dX9_digest_95 (by decide) (fun c => absurd c (by decide)) (fun _ => ?_)
  refine lv_lload_n hx hb dX9_digest_98 rfl (lv_at hl 1 rfl) ?_
  refine lv_ldc2 hx hb S.2.2.2.1 (S.2.2.2.2 _ kw_9_57) dX9_digest_99 ?_
  refine xlmul (v := (-3758256271554206592)) S dX9_digest_102 (by decide) ?_
  refine lv_aload_n hx hb dX9_digest_103 rfl (lv_at hl 4 rfl) ?_
  refine lv_iload hx hb dX9_digest_104 (lv_at hl 2 rfl) ?_
  refine lv_iload hx hb dX9_digest_106 (lv_at hl 0 rfl) ?_
  refine rdV (As := [.int 0, .int 6]) (ci := 9) S (c_X9_hiddenNow_7 l D cI cZ cJ o q) mi_X9_hiddenNow kw_9_48 ⟨rfl, rfl⟩ ⟨Nat.le_of_ble_eq_true rfl, Nat.le_of_ble_eq_true rfl⟩ hP hK mW_0 rfl rfl hl.1 (Nat.le_of_ble_eq_true rfl) ⟨Nat.le_of_ble_eq_true rfl, Nat.le_of_ble_eq_true rfl⟩ dX9_digest_108 ?_
  refine lv_i2l (v := 0) hx hb dX9_digest_111 (by decide) ?_
  refine xladd (v := (-3758256271554206592)) S dX9_digest_112 (by decide) ?_
  refine lv_lstore_n (lv' := [(1, .long (-3758256271554206592)), (5, .int 6), (4, .int 0), (3, .int 1), (0, .ref o)]) hx hb dX9_digest_113 rfl hl (by decide) rfl (fun ls hl => ?_)
  refine lv_iinc (v := 7) (lv' := [(5, .int 7), (1, .long (-3758256271554206592)), (4, .int 0), (3, .int 1), (0, .ref o)]) hx hb dX9_digest_114 hl (k := 1) rfl (by decide) (by decide) rfl (fun ls hl => ?_)
  refine lv_goto (tgt := 91) hx hb dX9_digest_117 (by decide) ?_
  refine lv_iload hx hb dX9_digest_91 (lv_at hl 0 rfl) ?_
  refine lv_bipush (v := 8) hx hb dX9_digest_93 (by decide) ?_
  refine lv_icmp_ge (tgt := 120) hx hb dX9_digest_95 (by decide) (fun c => absurd c (by decide)) (fun _ => ?_)
  refine lv_lload_n hx hb dX9_digest_98 rfl (lv_at hl 1 rfl) ?_
  refine lv_ldc2 hx hb S.2.2.2.1 (S.2.2.2.2 _ kw_9_57) dX9_digest_99 ?_
  refine xlmul (v := (-5825479975923094656)) S dX9_digest_102 (by decide) ?_
  refine lv_aload_n hx hb dX9_digest_103 rfl (lv_at hl 4 rfl) ?_
  refine lv_iload hx hb dX9_digest_104 (lv_at hl 2 rfl) ?_
  refine lv_iload hx hb dX9_digest_106 (lv_at hl 0 rfl) ?_
  refine rdV (As := [.int 0, .int 7]) (ci := 9) S (c_X9_hiddenNow_8 l D cI cZ cJ o q) mi_X9_hiddenNow kw_9_48 ⟨rfl, rfl⟩ ⟨Nat.le_of_ble_eq_true rfl, Nat.le_of_ble_eq_true rfl⟩ hP hK mW_0 rfl rfl hl.1 (Nat.le_of_ble_eq_true rfl) ⟨Nat.le_of_ble_eq_true rfl, Nat.le_of_ble_eq_true rfl⟩ dX9_digest_108 ?_
  refine lv_i2l (v := 0) hx hb dX9_digest_111 (by decide) ?_
  refine xladd (v := (-5825479975923094656)) S dX9_digest_112 (by decide) ?_
  refine lv_lstore_n (lv' := [(1, .long (-5825479975923094656)), (5, .int 7), (4, .int 0), (3, .int 1), (0, .ref o)]) hx hb dX9_digest_113 rfl hl (by decide) rfl (fun ls hl => ?_)
  refine lv_iinc (v := 8) (lv' := [(5, .int 8), (1, .long (-5825479975923094656)), (4, .int 0), (3, .int 1), (0, .ref o)]) hx hb dX9_digest_114 hl (k := 1) rfl (by decide) (by decide) rfl (fun ls hl => ?_)
  refine lv_goto (tgt := 91) hx hb dX9_digest_117 (by decide) ?_
  refine lv_iload hx hb dX9_digest_91 (lv_at hl 0 rfl) ?_
  refine lv_bipush (v := 8) hx hb dX9_digest_93 (by decide) ?_
  refine lv_icmp_ge (tgt := 120) hx hb dX9_digest_95 (by decide) (fun _ => ?_) (fun c => absurd c (by decide))
  refine lv_iload_n hx hb dX9_digest_120 rfl (lv_at hl 3 rfl) ?_
  refine lv_if_le (tgt := 127) hx hb dX9_digest_121 (by decide) (fun c => absurd c (by decide)) (fun _ => ?_)
  refine lv_goto (tgt := 186) hx hb dX9_digest_124 (by decide) ?_
  refine lv_iinc (v := 1) (lv' := [(4, .int 1), (5, .int 8), (1, .long (-5825479975923094656)), (3, .int 1), (0, .ref o)]) hx hb dX9_digest_186 hl (k := 2) rfl (by decide) (by decide) rfl (fun ls hl => ?_)
  refine lv_goto (tgt := 47) hx hb dX9_digest_189 (by decide) ?_
  refine lv_iload hx hb dX9_digest_47 (lv_at hl 0 rfl) ?_
  refine lv_aload_n hx hb dX9_digest_49 rfl (lv_at hl 4 rfl) ?_
  refine xg (ci := 9) S inX9 rfl hK hP mW_0 1 (by decide) mF_1 kw_6_149 rfl dX9_digest_50 ?_
  refine lv_icmp_ge (tgt := 192) hx hb dX9_digest_53 (by decide) (fun _ => ?_) (fun c => absurd c (by decide))
  refine lv_iconst (v := 0) hx hb dX9_digest_192 (by decide) ?_
  refine lv_istore (lv' := [(4, .int 0), (5, .int 8), (1, .long (-5825479975923094656)), (3, .int 1), (0, .ref o)]) hx hb dX9_digest_193 hl (by decide) rfl (fun ls hl => ?_)
  refine lv_iload hx hb dX9_digest_195 (lv_at hl 0 rfl) ?_
  refine lv_aload_n hx hb dX9_digest_197 rfl (lv_at hl 4 rfl) ?_
  refine xg (ci := 9) S inX9 rfl hK hP mW_0 13 (by decide) mF_13 kw_6_161 rfl dX9_digest_198 ?_
  refine lv_icmp_ge (tgt := 242) hx hb dX9_digest_201 (by decide) (fun _ => ?_) (fun c => absurd c (by decide))
  refine lv_iconst (v := 0) hx hb dX9_digest_242 (by decide) ?_
  refine lv_istore (lv' := [(4, .int 0), (5, .int 8), (1, .long (-5825479975923094656)), (3, .int 1), (0, .ref o)]) hx hb dX9_digest_243 hl (by decide) rfl (fun ls hl => ?_)
  refine lv_iload hx hb dX9_digest_245 (lv_at hl 0 rfl) ?_
  refine lv_iload_n hx hb dX9_digest_247 rfl (lv_at hl 3 rfl) ?_
  refine lv_icmp_ge (tgt := 288) hx hb dX9_digest_248 (by decide) (fun c => absurd c (by decide)) (fun _ => ?_)
  refine lv_iconst (v := 0) hx hb dX9_digest_251 (by decide) ?_
  refine lv_istore (lv' := [(5, .int 0), (4, .int 0), (1, .long (-5825479975923094656)), (3, .int 1), (0, .ref o)]) hx hb dX9_digest_252 hl (by decide) rfl (fun ls hl => ?_)
  refine lv_iload hx hb dX9_digest_254 (lv_at hl 0 rfl) ?_
  refine lv_iconst (v := 3) hx hb dX9_digest_256 (by decide) ?_
  refine lv_icmp_ge (tgt := 282) hx hb dX9_digest_257 (by decide) (fun c => absurd c (by decide)) (fun _ => ?_)
  refine lv_lload_n hx hb dX9_digest_260 rfl (lv_at hl 2 rfl) ?_
  refine lv_ldc2 hx hb S.2.2.2.1 (S.2.2.2.2 _ kw_9_57) dX9_digest_261 ?_
  refine xlmul (v := 3877561483479581824) S dX9_digest_264 (by decide) ?_
  refine lv_aload_n hx hb dX9_digest_265 rfl (lv_at hl 4 rfl) ?_
  refine lv_iload hx hb dX9_digest_266 (lv_at hl 1 rfl) ?_
  refine lv_iload hx hb dX9_digest_268 (lv_at hl 0 rfl) ?_
  refine wrV (As := [.int 0, .int 0]) (ci := 9) S (c_X9_lookFor_1 l D cI cZ cJ o q H.size) mi_X9_lookFor kw_7_234 rfl rfl ⟨Nat.le_of_ble_eq_true rfl, Nat.le_of_ble_eq_true rfl⟩ hP hD hK hS hA mW_0 rfl rfl hl.1 (Nat.le_of_ble_eq_true rfl) ⟨Nat.le_of_ble_eq_true rfl, Nat.le_of_ble_eq_true rfl⟩ dX9_digest_270 (fun H locs hz hP hD hS => ?_)
  refine lv_i2l (v := 10) hx hb dX9_digest_273 (by decide) ?_
  refine xladd (v := 3877561483479581834) S dX9_digest_274 (by decide) ?_
  refine lv_lstore_n (lv' := [(1, .long 3877561483479581834), (5, .int 0), (4, .int 0), (3, .int 1), (0, .ref o)]) hx hb dX9_digest_275 rfl hl (by decide) rfl (fun ls hl => ?_)
  refine lv_iinc (v := 1) (lv' := [(5, .int 1), (1, .long 3877561483479581834), (4, .int 0), (3, .int 1), (0, .ref o)]) hx hb dX9_digest_276 hl (k := 1) rfl (by decide) (by decide) rfl (fun ls hl => ?_)
  refine lv_goto (tgt := 254) hx hb dX9_digest_279 (by decide) ?_
  refine lv_iload hx hb dX9_digest_254 (lv_at hl 0 rfl) ?_
  refine lv_iconst (v := 3) hx hb dX9_digest_256 (by decide) ?_
  refine lv_icmp_ge (tgt := 282) hx hb dX9_digest_257 (by decide) (fun c => absurd c (by decide)) (fun _ => ?_)
  refine lv_lload_n hx hb dX9_digest_260 rfl (lv_at hl 1 rfl) ?_
  refine lv_ldc2 hx hb S.2.2.2.1 (S.2.2.2.2 _ kw_9_57) dX9_digest_261 ?_
  refine xlmul (v := (-8922802528099824458)) S dX9_digest_264 (by decide) ?_
  refine lv_aload_n hx hb dX9_digest_265 rfl (lv_at hl 4 rfl) ?_
  refine lv_iload hx hb dX9_digest_266 (lv_at hl 2 rfl) ?_
  refine lv_iload hx hb dX9_digest_268 (lv_at hl 0 rfl) ?_
  refine wrV (As := [.int 0, .int 1]) (ci := 9) S (c_X9_lookFor_2 l D cI cZ cJ o q H.size) mi_X9_lookFor kw_7_234 rfl rfl ⟨Nat.le_of_ble_eq_true rfl, Nat.le_of_ble_eq_true rfl⟩ hP hD hK hS hA mW_0 rfl rfl hl.1 (Nat.le_of_ble_eq_true rfl) ⟨Nat.le_of_ble_eq_true rfl, Nat.le_of_ble_eq_true rfl⟩ dX9_digest_270 (fun H locs hz hP hD hS => ?_)
  refine lv_i2l (v := 0) hx hb dX9_digest_273 (by decide) ?_
  refine xladd (v := (-8922802528099824458)) S dX9_digest_274 (by decide) ?_
  refine lv_lstore_n (lv' := [(1, .long (-8922802528099824458)), (5, .int 1), (4, .int 0), (3, .int 1), (0, .ref o)]) hx hb dX9_digest_275 rfl hl (by decide) rfl (fun ls hl => ?_)
  refine lv_iinc (v := 2) (lv' := [(5, .int 2), (1, .long (-8922802528099824458)), (4, .int 0), (3, .int 1), (0, .ref o)]) hx hb dX9_digest_276 hl (k := 1) rfl (by decide) (by decide) rfl (fun ls hl => ?_)
  refine lv_goto (tgt := 254) hx hb dX9_digest_279 (by decide) ?_
  refine lv_iload hx hb dX9_digest_254 (lv_at hl 0 rfl) ?_
  refine lv_iconst (v := 3) hx hb dX9_digest_256 (by decide) ?_
  refine lv_icmp_ge (tgt := 282) hx hb dX9_digest_257 (by decide) (fun c => absurd c (by decide)) (fun _ => ?_)
  refine lv_lload_n hx hb dX9_digest_260 rfl (lv_at hl 1 rfl) ?_
  refine lv_ldc2 hx hb S.2.2.2.1 (S.2.2.2.2 _ kw_9_57) dX9_digest_261 ?_
  refine xlmul (v := 94282734548716042) S dX9_digest_264 (by decide) ?_
  refine lv_aload_n hx hb dX9_digest_265 rfl (lv_at hl 4 rfl) ?_
  refine lv_iload hx hb dX9_digest_266 (lv_at hl 2 rfl) ?_
  refine lv_iload hx hb dX9_digest_268 (lv_at hl 0 rfl) ?_
  refine wrV (As := [.int 0, .int 2]) (ci := 9) S (c_X9_lookFor_3 l D cI cZ cJ o q H.size) mi_X9_lookFor kw_7_234 rfl rfl ⟨Nat.le_of_ble_eq_true rfl, Nat.le_of_ble_eq_true rfl⟩ hP hD hK hS hA mW_0 rfl rfl hl.1 (Nat.le_of_ble_eq_true rfl) ⟨Nat.le_of_ble_eq_true rfl, Nat.le_of_ble_eq_true rfl⟩ dX9_digest_270 (fun H locs hz hP hD hS => ?_)
  refine lv_i2l (v := (-1)) hx hb dX9_digest_273 (by decide) ?_
  refine xladd (v := 94282734548716041) S dX9_digest_274 (by decide) ?_
  refine lv_lstore_n (lv' := [(1, .long 94282734548716041), (5, .int 2), (4, .int 0), (3, .int 1), (0, .ref o)]) hx hb dX9_digest_275 rfl hl (by decide) rfl (fun ls hl => ?_)
  refine lv_iinc (v := 3) (lv' := [(5, .int 3), (1, .long 94282734548716041), (4, .int 0), (3, .int 1), (0, .ref o)]) hx hb dX9_digest_276 hl (k := 1) rfl (by decide) (by decide) rfl (fun ls hl => ?_)
  refine lv_goto (tgt := 254) hx hb dX9_digest_279 (by decide) ?_
  refine lv_iload hx hb dX9_digest_254 (lv_at hl 0 rfl) ?_
  refine lv_iconst (v := 3) hx hb dX9_digest_256 (by decide) ?_
  refine lv_icmp_ge (tgt := 282) hx hb dX9_digest_257 (by decide) (fun _ => ?_) (fun c => absurd c (by decide))
  refine lv_iinc (v := 1) (lv' := [(4, .int 1), (5, .int 3), (1, .long 94282734548716041), (3, .int 1), (0, .ref o)]) hx hb dX9_digest_282 hl (k := 2) rfl (by decide) (by decide) rfl (fun ls hl => ?_)
  refine lv_goto (tgt := 245) hx hb dX9_digest_285 (by decide) ?_
  refine lv_iload hx hb dX9_digest_245 (lv_at hl 0 rfl) ?_
  refine lv_iload_n hx hb dX9_digest_247 rfl (lv_at hl 3 rfl) ?_
  refine lv_icmp_ge (tgt := 288) hx hb dX9_digest_248 (by decide) (fun _ => ?_) (fun c => absurd c (by decide))
  refine lv_iconst (v := 0) hx hb dX9_digest_288 (by decide) ?_
  refine lv_istore (lv' := [(4, .int 0), (5, .int 3), (1, .long 94282734548716041), (3, .int 1), (0, .ref o)]) hx hb dX9_digest_289 hl (by decide) rfl (fun ls hl => ?_)
  refine lv_iload hx hb dX9_digest_291 (lv_at hl 0 rfl) ?_
  refine lv_bipush (v := 10) hx hb dX9_digest_293 (by decide) ?_
  refine lv_icmp_ge (tgt := 319) hx hb dX9_digest_295 (by decide) (fun c => absurd c (by decide)) (fun _ => ?_)
  refine lv_lload_n hx hb dX9_digest_298 rfl (lv_at hl 2 rfl) ?_
  refine lv_ldc2 hx hb S.2.2.2.1 (S.2.2.2.2 _ kw_9_57) dX9_digest_299 ?_
  refine xlmul (v := 2922764771010197271) S dX9_digest_302 (by decide) ?_
  refine lv_aload_n hx hb dX9_digest_303 rfl (lv_at hl 4 rfl) ?_
  refine xg (ci := 9) S inX9 rfl hK hP mW_0 24 (by decide) mF_24 kw_6_172 rfl dX9_digest_304 ?_
  refine lv_iload hx hb dX9_digest_307 (lv_at hl 0 rfl) ?_
  refine xiald (t0 := 0) (v := 0) S hK hP mW_18 rfl (vin rfl) rfl dX9_digest_309 ?_
  refine lv_i2l (v := 0) hx hb dX9_digest_310 (by decide) ?_
  refine xladd (v := 2922764771010197271) S dX9_digest_311 (by decide) ?_
  refine lv_lstore_n (lv' := [(1, .long 2922764771010197271), (4, .int 0), (5, .int 3), (3, .int 1), (0, .ref o)]) hx hb dX9_digest_312 rfl hl (by decide) rfl (fun ls hl => ?_)
  refine lv_iinc (v := 1) (lv' := [(4, .int 1), (1, .long 2922764771010197271), (5, .int 3), (3, .int 1), (0, .ref o)]) hx hb dX9_digest_313 hl (k := 1) rfl (by decide) (by decide) rfl (fun ls hl => ?_)
  refine lv_goto (tgt := 291) hx hb dX9_digest_316 (by decide) ?_
  refine lv_iload hx hb dX9_digest_291 (lv_at hl 0 rfl) ?_
  refine lv_bipush (v := 10) hx hb dX9_digest_293 (by decide) ?_
  refine lv_icmp_ge (tgt := 319) hx hb dX9_digest_295 (by decide) (fun c => absurd c (by decide)) (fun _ => ?_)
  refine lv_lload_n hx hb dX9_digest_298 rfl (lv_at hl 1 rfl) ?_
  refine lv_ldc2 hx hb S.2.2.2.1 (S.2.2.2.2 _ kw_9_57) dX9_digest_299 ?_
  refine xlmul (v := (-1628012467231642679)) S dX9_digest_302 (by decide) ?_
  refine lv_aload_n hx hb dX9_digest_303 rfl (lv_at hl 4 rfl) ?_
  refine xg (ci := 9) S inX9 rfl hK hP mW_0 24 (by decide) mF_24 kw_6_172 rfl dX9_digest_304 ?_
  refine lv_iload hx hb dX9_digest_307 (lv_at hl 0 rfl) ?_
  refine xiald (t0 := 0) (v := 0) S hK hP mW_18 rfl (vin rfl) rfl dX9_digest_309 ?_
  refine lv_i2l (v := 0) hx hb dX9_digest_310 (by decide) ?_
  refine xladd (v := (-1628012467231642679)) S dX9_digest_311 (by decide) ?_
  refine lv_lstore_n (lv' := [(1, .long (-1628012467231642679)), (4, .int 1), (5, .int 3), (3, .int 1), (0, .ref o)]) hx hb dX9_digest_312 rfl hl (by decide) rfl (fun ls hl => ?_)
  refine lv_iinc (v := 2) (lv' := [(4, .int 2), (1, .long (-1628012467231642679)), (5, .int 3), (3, .int 1), (0, .ref o)]) hx hb dX9_digest_313 hl (k := 1) rfl (by decide) (by decide) rfl (fun ls hl => ?_)
  refine lv_goto (tgt := 291) hx hb dX9_digest_316 (by decide) ?_
  refine lv_iload hx hb dX9_digest_291 (lv_at hl 0 rfl) ?_
  refine lv_bipush (v := 10) hx hb dX9_digest_293 (by decide) ?_
  refine lv_icmp_ge (tgt := 319) hx hb dX9_digest_295 (by decide) (fun c => absurd c (by decide)) (fun _ => ?_)
  refine lv_lload_n hx hb dX9_digest_298 rfl (lv_at hl 1 rfl) ?_
  refine lv_ldc2 hx hb S.2.2.2.1 (S.2.2.2.2 _ kw_9_57) dX9_digest_299 ?_
  refine xlmul (v := 4871845736947731799) S dX9_digest_302 (by decide) ?_
  refine lv_aload_n hx hb dX9_digest_303 rfl (lv_at hl 4 rfl) ?_
  refine xg (ci := 9) S inX9 rfl hK hP mW_0 24 (by decide) mF_24 kw_6_172 rfl dX9_digest_304 ?_
  refine lv_iload hx hb dX9_digest_307 (lv_at hl 0 rfl) ?_
  refine xiald (t0 := 0) (v := 0) S hK hP mW_18 rfl (vin rfl) rfl dX9_digest_309 ?_
  refine lv_i2l (v := 0) hx hb dX9_digest_310 (by decide) ?_
  refine xladd (v := 4871845736947731799) S dX9_digest_311 (by decide) ?_
  refine lv_lstore_n (lv' := [(1, .long 4871845736947731799), (4, .int 2), (5, .int 3), (3, .int 1), (0, .ref o)]) hx hb dX9_digest_312 rfl hl (by decide) rfl (fun ls hl => ?_)
  refine lv_iinc (v := 3) (lv' := [(4, .int 3), (1, .long 4871845736947731799), (5, .int 3), (3, .int 1), (0, .ref o)]) hx hb dX9_digest_313 hl (k := 1) rfl (by decide) (by decide) rfl (fun ls hl => ?_)
  refine lv_goto (tgt := 291) hx hb dX9_digest_316 (by decide) ?_
  refine lv_iload hx hb dX9_digest_291 (lv_at hl 0 rfl) ?_
  refine lv_bipush (v := 10) hx hb dX9_digest_293 (by decide) ?_
  refine lv_icmp_ge (tgt := 319) hx hb dX9_digest_295 (by decide) (fun c => absurd c (by decide)) (fun _ => ?_)
  refine lv_lload_n hx hb dX9_digest_298 rfl (lv_at hl 1 rfl) ?_
  refine lv_ldc2 hx hb S.2.2.2.1 (S.2.2.2.2 _ kw_9_57) dX9_digest_299 ?_
  refine xlmul (v := 3453265255703272841) S dX9_digest_302 (by decide) ?_
  refine lv_aload_n hx hb dX9_digest_303 rfl (lv_at hl 4 rfl) ?_
  refine xg (ci := 9) S inX9 rfl hK hP mW_0 24 (by decide) mF_24 kw_6_172 rfl dX9_digest_304 ?_
  refine lv_iload hx hb dX9_digest_307 (lv_at hl 0 rfl) ?_
  refine xiald (t0 := 0) (v := 0) S hK hP mW_18 rfl (vin rfl) rfl dX9_digest_309 ?_
  refine lv_i2l (v := 0) hx hb dX9_digest_310 (by decide) ?_
  refine xladd (v := 3453265255703272841) S dX9_digest_311 (by decide) ?_
  refine lv_lstore_n (lv' := [(1, .long 3453265255703272841), (4, .int 3), (5, .int 3), (3, .int 1), (0, .ref o)]) hx hb dX9_digest_312 rfl hl (by decide) rfl (fun ls hl => ?_)
  refine lv_iinc (v := 4) (lv' := [(4, .int 4), (1, .long 3453265255703272841), (5, .int 3), (3, .int 1), (0, .ref o)]) hx hb dX9_digest_313 hl (k := 1) rfl (by decide) (by decide) rfl (fun ls hl => ?_)
  refine lv_goto (tgt := 291) hx hb dX9_digest_316 (by decide) ?_
  refine lv_iload hx hb dX9_digest_291 (lv_at hl 0 rfl) ?_
  refine lv_bipush (v := 10) hx hb dX9_digest_293 (by decide) ?_
  refine lv_icmp_ge (tgt := 319) hx hb dX9_digest_295 (by decide) (fun c => absurd c (by decide)) (fun _ => ?_)
  refine lv_lload_n hx hb dX9_digest_298 rfl (lv_at hl 1 rfl) ?_
  refine lv_ldc2 hx hb S.2.2.2.1 (S.2.2.2.2 _ kw_9_57) dX9_digest_299 ?_
  refine xlmul (v := (-3629241515455851625)) S dX9_digest_302 (by decide) ?_
  refine lv_aload_n hx hb dX9_digest_303 rfl (lv_at hl 4 rfl) ?_
  refine xg (ci := 9) S inX9 rfl hK hP mW_0 24 (by decide) mF_24 kw_6_172 rfl dX9_digest_304 ?_
  refine lv_iload hx hb dX9_digest_307 (lv_at hl 0 rfl) ?_
  refine xiald (t0 := 0) (v := 0) S hK hP mW_18 rfl (vin rfl) rfl dX9_digest_309 ?_
  refine lv_i2l (v := 0) hx hb dX9_digest_310 (by decide) ?_
  refine xladd (v := (-3629241515455851625)) S dX9_digest_311 (by decide) ?_
  refine lv_lstore_n (lv' := [(1, .long (-3629241515455851625)), (4, .int 4), (5, .int 3), (3, .int 1), (0, .ref o)]) hx hb dX9_digest_312 rfl hl (by decide) rfl (fun ls hl => ?_)
  refine lv_iinc (v := 5) (lv' := [(4, .int 5), (1, .long (-3629241515455851625)), (5, .int 3), (3, .int 1), (0, .ref o)]) hx hb dX9_digest_313 hl (k := 1) rfl (by decide) (by decide) rfl (fun ls hl => ?_)
  refine lv_goto (tgt := 291) hx hb dX9_digest_316 (by decide) ?_
  refine lv_iload hx hb dX9_digest_291 (lv_at hl 0 rfl) ?_
  refine lv_bipush (v := 10) hx hb dX9_digest_293 (by decide) ?_
  refine lv_icmp_ge (tgt := 319) hx hb dX9_digest_295 (by decide) (fun c => absurd c (by decide)) (fun _ => ?_)
  refine lv_lload_n hx hb dX9_digest_298 rfl (lv_at hl 1 rfl) ?_
  refine lv_ldc2 hx hb S.2.2.2.1 (S.2.2.2.2 _ kw_9_57) dX9_digest_299 ?_
  refine xlmul (v := (-1826022536874090679)) S dX9_digest_302 (by decide) ?_
  refine lv_aload_n hx hb dX9_digest_303 rfl (lv_at hl 4 rfl) ?_
  refine xg (ci := 9) S inX9 rfl hK hP mW_0 24 (by decide) mF_24 kw_6_172 rfl dX9_digest_304 ?_
  refine lv_iload hx hb dX9_digest_307 (lv_at hl 0 rfl) ?_
  refine xiald (t0 := 0) (v := 0) S hK hP mW_18 rfl (vin rfl) rfl dX9_digest_309 ?_
  refine lv_i2l (v := 0) hx hb dX9_digest_310 (by decide) ?_
  refine xladd (v := (-1826022536874090679)) S dX9_digest_311 (by decide) ?_
  refine lv_lstore_n (lv' := [(1, .long (-1826022536874090679)), (4, .int 5), (5, .int 3), (3, .int 1), (0, .ref o)]) hx hb dX9_digest_312 rfl hl (by decide) rfl (fun ls hl => ?_)
  refine lv_iinc (v := 6) (lv' := [(4, .int 6), (1, .long (-1826022536874090679)), (5, .int 3), (3, .int 1), (0, .ref o)]) hx hb dX9_digest_313 hl (k := 1) rfl (by decide) (by decide) rfl (fun ls hl => ?_)
  refine lv_goto (tgt := 291) hx hb dX9_digest_316 (by decide) ?_
  refine lv_iload hx hb dX9_digest_291 (lv_at hl 0 rfl) ?_
  refine lv_bipush (v := 10) hx hb dX9_digest_293 (by decide) ?_
  refine lv_icmp_ge (tgt := 319) hx hb dX9_digest_295 (by decide) (fun c => absurd c (by decide)) (fun _ => ?_)
  refine lv_lload_n hx hb dX9_digest_298 rfl (lv_at hl 1 rfl) ?_
  refine lv_ldc2 hx hb S.2.2.2.1 (S.2.2.2.2 _ kw_9_57) dX9_digest_299 ?_
  refine xlmul (v := (-1266466421968156201)) S dX9_digest_302 (by decide) ?_
  refine lv_aload_n hx hb dX9_digest_303 rfl (lv_at hl 4 rfl) ?_
  refine xg (ci := 9) S inX9 rfl hK hP mW_0 24 (by decide) mF_24 kw_6_172 rfl dX9_digest_304 ?_
  refine lv_iload hx hb dX9_digest_307 (lv_at hl 0 rfl) ?_
  refine xiald (t0 := 0) (v := 0) S hK hP mW_18 rfl (vin rfl) rfl dX9_digest_309 ?_
  refine lv_i2l (v := 0) hx hb dX9_digest_310 (by decide) ?_
  refine xladd (v := (-1266466421968156201)) S dX9_digest_311 (by decide) ?_
  refine lv_lstore_n (lv' := [(1, .long (-1266466421968156201)), (4, .int 6), (5, .int 3), (3, .int 1), (0, .ref o)]) hx hb dX9_digest_312 rfl hl (by decide) rfl (fun ls hl => ?_)
  refine lv_iinc (v := 7) (lv' := [(4, .int 7), (1, .long (-1266466421968156201)), (5, .int 3), (3, .int 1), (0, .ref o)]) hx hb dX9_digest_313 hl (k := 1) rfl (by decide) (by decide) rfl (fun ls hl => ?_)
  refine lv_goto (tgt := 291) hx hb dX9_digest_316 (by decide) ?_
  refine lv_iload hx hb dX9_digest_291 (lv_at hl 0 rfl) ?_
  refine lv_bipush (v := 10) hx hb dX9_digest_293 (by decide) ?_
  refine lv_icmp_ge (tgt := 319) hx hb dX9_digest_295 (by decide) (fun c => absurd c (by decide)) (fun _ => ?_)
  refine lv_lload_n hx hb dX9_digest_298 rfl (lv_at hl 1 rfl) ?_
  refine lv_ldc2 hx hb S.2.2.2.1 (S.2.2.2.2 _ kw_9_57) dX9_digest_299 ?_
  refine xlmul (v := (-2366970933593738999)) S dX9_digest_302 (by decide) ?_
  refine lv_aload_n hx hb dX9_digest_303 rfl (lv_at hl 4 rfl) ?_
  refine xg (ci := 9) S inX9 rfl hK hP mW_0 24 (by decide) mF_24 kw_6_172 rfl dX9_digest_304 ?_
  refine lv_iload hx hb dX9_digest_307 (lv_at hl 0 rfl) ?_
  refine xiald (t0 := 0) (v := 0) S hK hP mW_18 rfl (vin rfl) rfl dX9_digest_309 ?_
  refine lv_i2l (v := 0) hx hb dX9_digest_310 (by decide) ?_
  refine xladd (v := (-2366970933593738999)) S dX9_digest_311 (by decide) ?_
  refine lv_lstore_n (lv' := [(1, .long (-2366970933593738999)), (4, .int 7), (5, .int 3), (3, .int 1), (0, .ref o)]) hx hb dX9_digest_312 rfl hl (by decide) rfl (fun ls hl => ?_)
  refine lv_iinc (v := 8) (lv' := [(4, .int 8), (1, .long (-2366970933593738999)), (5, .int 3), (3, .int 1), (0, .ref o)]) hx hb dX9_digest_313 hl (k := 1) rfl (by decide) (by decide) rfl (fun ls hl => ?_)
  refine lv_goto (tgt := 291) hx hb dX9_digest_316 (by decide) ?_
  refine lv_iload hx hb dX9_digest_291 (lv_at hl 0 rfl) ?_
  refine lv_bipush (v := 10) hx hb dX9_digest_293 (by decide) ?_
  refine lv_icmp_ge (tgt := 319) hx hb dX9_digest_295 (by decide) (fun c => absurd c (by decide)) (fun _ => ?_)
  refine lv_lload_n hx hb dX9_digest_298 rfl (lv_at hl 1 rfl) ?_
  refine lv_ldc2 hx hb S.2.2.2.1 (S.2.2.2.2 _ kw_9_57) dX9_digest_299 ?_
  refine xlmul (v := 410877353432297495) S dX9_digest_302 (by decide) ?_
  refine lv_aload_n hx hb dX9_digest_303 rfl (lv_at hl 4 rfl) ?_
  refine xg (ci := 9) S inX9 rfl hK hP mW_0 24 (by decide) mF_24 kw_6_172 rfl dX9_digest_304 ?_
  refine lv_iload hx hb dX9_digest_307 (lv_at hl 0 rfl) ?_
  refine xiald (t0 := 0) (v := 0) S hK hP mW_18 rfl (vin rfl) rfl dX9_digest_309 ?_
  refine lv_i2l (v := 0) hx hb dX9_digest_310 (by decide) ?_
  refine xladd (v := 410877353432297495) S dX9_digest_311 (by decide) ?_
  refine lv_lstore_n (lv' := [(1, .long 410877353432297495), (4, .int 8), (5, .int 3), (3, .int 1), (0, .ref o)]) hx hb dX9_digest_312 rfl hl (by decide) rfl (fun ls hl => ?_)
  refine lv_iinc (v := 9) (lv' := [(4, .int 9), (1, .long 410877353432297495), (5, .int 3), (3, .int 1), (0, .ref o)]) hx hb dX9_digest_313 hl (k := 1) rfl (by decide) (by decide) rfl (fun ls hl => ?_)
  refine lv_goto (tgt := 291) hx hb dX9_digest_316 (by decide) ?_
  refine lv_iload hx hb dX9_digest_291 (lv_at hl 0 rfl) ?_
  refine lv_bipush (v := 10) hx hb dX9_digest_293 (by decide) ?_
  refine lv_icmp_ge (tgt := 319) hx hb dX9_digest_295 (by decide) (fun c => absurd c (by decide)) (fun _ => ?_)
  refine lv_lload_n hx hb dX9_digest_298 rfl (lv_at hl 1 rfl) ?_
  refine lv_ldc2 hx hb S.2.2.2.1 (S.2.2.2.2 _ kw_9_57) dX9_digest_299 ?_
  refine xlmul (v := (-5709546117308329271)) S dX9_digest_302 (by decide) ?_
  refine lv_aload_n hx hb dX9_digest_303 rfl (lv_at hl 4 rfl) ?_
  refine xg (ci := 9) S inX9 rfl hK hP mW_0 24 (by decide) mF_24 kw_6_172 rfl dX9_digest_304 ?_
  refine lv_iload hx hb dX9_digest_307 (lv_at hl 0 rfl) ?_
  refine xiald (t0 := 0) (v := 0) S hK hP mW_18 rfl (vin rfl) rfl dX9_digest_309 ?_
  refine lv_i2l (v := 0) hx hb dX9_digest_310 (by decide) ?_
  refine xladd (v := (-5709546117308329271)) S dX9_digest_311 (by decide) ?_
  refine lv_lstore_n (lv' := [(1, .long (-5709546117308329271)), (4, .int 9), (5, .int 3), (3, .int 1), (0, .ref o)]) hx hb dX9_digest_312 rfl hl (by decide) rfl (fun ls hl => ?_)
  refine lv_iinc (v := 10) (lv' := [(4, .int 10), (1, .long (-5709546117308329271)), (5, .int 3), (3, .int 1), (0, .ref o)]) hx hb dX9_digest_313 hl (k := 1) rfl (by decide) (by decide) rfl (fun ls hl => ?_)
  refine lv_goto (tgt := 291) hx hb dX9_digest_316 (by decide) ?_
  refine lv_iload hx hb dX9_digest_291 (lv_at hl 0 rfl) ?_
  refine lv_bipush (v := 10) hx hb dX9_digest_293 (by decide) ?_
  refine lv_icmp_ge (tgt := 319) hx hb dX9_digest_295 (by decide) (fun _ => ?_) (fun c => absurd c (by decide))
  refine lv_lload_n hx hb dX9_digest_319 rfl (lv_at hl 1 rfl) ?_
  refine lv_ldc2 hx hb S.2.2.2.1 (S.2.2.2.2 _ kw_9_57) dX9_digest_320 ?_
  refine xlmul (v := 7471511100537308759) S dX9_digest_323 (by decide) ?_
  refine lv_aload_n hx hb dX9_digest_324 rfl (lv_at hl 4 rfl) ?_
  refine xg (ci := 9) S inX9 rfl hK hP mW_0 23 (by decide) mF_23 kw_6_171 rfl dX9_digest_325 ?_
  refine lv_i2l (v := 0) hx hb dX9_digest_328 (by decide) ?_
  refine xladd (v := 7471511100537308759) S dX9_digest_329 (by decide) ?_
  refine lv_lstore_n (lv' := [(1, .long 7471511100537308759), (4, .int 10), (5, .int 3), (3, .int 1), (0, .ref o)]) hx hb dX9_digest_330 rfl hl (by decide) rfl (fun ls hl => ?_)
  refine lv_aload_n hx hb dX9_digest_331 rfl (lv_at hl 4 rfl) ?_
  refine xg (ci := 9) S inX9 rfl hK hP mW_0 25 (by decide) mF_25 kw_6_173 rfl dX9_digest_332 ?_
  refine lv_astore (lv' := [(4, .ref (q 18)), (1, .long 7471511100537308759), (5, .int 3), (3, .int 1), (0, .ref o)]) hx hb dX9_digest_335 hl (by decide) rfl (fun ls hl => ?_)
  refine lv_aload hx hb dX9_digest_337 (lv_at hl 0 rfl) ?_
  refine xalen (t0 := 0) (v := 0) S hK hP mW_19 rfl (by decide) dX9_digest_339 ?_
  refine lv_istore (lv' := [(5, .int 0), (4, .ref (q 18)), (1, .long 7471511100537308759), (3, .int 1), (0, .ref o)]) hx hb dX9_digest_340 hl (by decide) rfl (fun ls hl => ?_)
  refine lv_iconst (v := 0) hx hb dX9_digest_342 (by decide) ?_
  refine lv_istore (lv' := [(6, .int 0), (5, .int 0), (4, .ref (q 18)), (1, .long 7471511100537308759), (3, .int 1), (0, .ref o)]) hx hb dX9_digest_343 hl (by decide) rfl (fun ls hl => ?_)
  refine lv_iload hx hb dX9_digest_345 (lv_at hl 0 rfl) ?_
  refine lv_iload hx hb dX9_digest_347 (lv_at hl 1 rfl) ?_
  refine lv_icmp_ge (tgt := 375) hx hb dX9_digest_349 (by decide) (fun _ => ?_) (fun c => absurd c (by decide))
  refine lv_iload_n hx hb dX9_digest_375 rfl (lv_at hl 4 rfl) ?_
  refine lv_if_le (tgt := 381) hx hb dX9_digest_376 (by decide) (fun c => absurd c (by decide)) (fun _ => ?_)
  refine lv_lload_n hx hb dX9_digest_379 rfl (lv_at hl 3 rfl) ?_
  exact wEndl S hr hlocks hP hD hS (Nat.le_of_ble_eq_true rfl) (Nat.le_of_ble_eq_true rfl) dX9_digest_380 rfl
