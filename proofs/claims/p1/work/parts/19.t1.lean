set_option maxHeartbeats 8000000 in
set_option maxRecDepth 100000 in
theorem c_X1_has_0 (l : Launch) (D : va_G) (cI cZ cJ : ClassId) (o : Nat) (u : Nat → Nat) (x1 : Int32) (hi_x1 : x1 ≤ (-1)) : Met l yX1_has (uW yX1_has cX1_has 2 (some .boolean)) ({ frames := 0, cells := 0, slots := 0, locals := 0 }) (va_Pc [.ref (u 0), .int x1] (pS D (tyL cI cZ cJ) (xW o u cI cZ cJ))) (QcRead (0)) 0 0 (fun _ => False) := by
  refine rdStart (lv := [(0, .ref (u 0)), (1, .int x1)]) (by decide) (Nat.le_of_ble_eq_true rfl) rfl ?_
  intro p e s m args below meth c ls S hr hlocks hl hP hK
  have hx := S.1
  have hb := S.2.1
  refine lv_iload_n hx hb dX1_has_0 rfl (lv_at hl 1 rfl) ?_
  refine lv_if_lt (tgt := 16) hx hb dX1_has_1 (by decide) (fun _ => ?_) (fun c => absurd (b_lt hi_x1 (by decide)) c)
  refine lv_iconst (v := 0) hx hb dX1_has_16 (by decide) ?_
  exact rdEndZ S hr hlocks dX1_has_17 rfl rfl

set_option maxHeartbeats 8000000 in
set_option maxRecDepth 100000 in
theorem c_X1_has_1 (l : Launch) (D : va_G) (cI cZ cJ : ClassId) (o : Nat) (u : Nat → Nat) (x1 : Int32) (lo_x1 : 1 ≤ x1) : Met l yX1_has (uW yX1_has cX1_has 2 (some .boolean)) ({ frames := 0, cells := 0, slots := 0, locals := 0 }) (va_Pc [.ref (u 0), .int x1] (pS D (tyL cI cZ cJ) (xW o u cI cZ cJ))) (QcRead (0)) 0 0 (fun _ => False) := by
  refine rdStart (lv := [(0, .ref (u 0)), (1, .int x1)]) (by decide) (Nat.le_of_ble_eq_true rfl) rfl ?_
  intro p e s m args below meth c ls S hr hlocks hl hP hK
  have hx := S.1
  have hb := S.2.1
  refine lv_iload_n hx hb dX1_has_0 rfl (lv_at hl 1 rfl) ?_
  refine lv_if_lt (tgt := 16) hx hb dX1_has_1 (by decide) (fun c => absurd c (b_nlt lo_x1 (by decide))) (fun _ => ?_)
  refine lv_iload_n hx hb dX1_has_4 rfl (lv_at hl 1 rfl) ?_
  refine lv_aload_n hx hb dX1_has_5 rfl (lv_at hl 0 rfl) ?_
  refine xg (ci := 1) S inX1 rfl hK hP xW_1 0 (by decide) rfl kw_1_38 rfl dX1_has_6 ?_
  refine lv_icmp_ge (tgt := 16) hx hb dX1_has_9 (by decide) (fun _ => ?_) (fun c => absurd (b_ge lo_x1 (by decide)) c)
  refine lv_iconst (v := 0) hx hb dX1_has_16 (by decide) ?_
  exact rdEndZ S hr hlocks dX1_has_17 rfl rfl

set_option maxHeartbeats 8000000 in
set_option maxRecDepth 100000 in
theorem c_X1_has_2 (l : Launch) (D : va_G) (cI cZ cJ : ClassId) (o : Nat) (u : Nat → Nat) : Met l yX1_has (uW yX1_has cX1_has 2 (some .boolean)) ({ frames := 0, cells := 0, slots := 0, locals := 0 }) (va_Pc [.ref (u 0), .int 0] (pS D (tyL cI cZ cJ) (xW o u cI cZ cJ))) (QcRead (1)) 0 0 (fun _ => False) := by
  refine rdStart (lv := [(0, .ref (u 0)), (1, .int 0)]) (by decide) (Nat.le_of_ble_eq_true rfl) rfl ?_
  intro p e s m args below meth c ls S hr hlocks hl hP hK
  have hx := S.1
  have hb := S.2.1
  refine lv_iload_n hx hb dX1_has_0 rfl (lv_at hl 1 rfl) ?_
  refine lv_if_lt (tgt := 16) hx hb dX1_has_1 (by decide) (fun c => absurd c (by decide)) (fun _ => ?_)
  refine lv_iload_n hx hb dX1_has_4 rfl (lv_at hl 1 rfl) ?_
  refine lv_aload_n hx hb dX1_has_5 rfl (lv_at hl 0 rfl) ?_
  refine xg (ci := 1) S inX1 rfl hK hP xW_1 0 (by decide) rfl kw_1_38 rfl dX1_has_6 ?_
  refine lv_icmp_ge (tgt := 16) hx hb dX1_has_9 (by decide) (fun c => absurd c (by decide)) (fun _ => ?_)
  refine lv_iconst (v := 1) hx hb dX1_has_12 (by decide) ?_
  refine lv_goto (tgt := 17) hx hb dX1_has_13 (by decide) ?_
  exact rdEndZ S hr hlocks dX1_has_17 rfl rfl

set_option maxHeartbeats 8000000 in
set_option maxRecDepth 100000 in
theorem c_X8_needProcedure_0 (l : Launch) (D : va_G) (cI cZ cJ : ClassId) (o : Nat) (u : Nat → Nat) (hst : l.stackTraces = false) (ra ga : Nat → Nat) (sz : Nat) (x1 : Int32) (hi_x1 : x1 ≤ (-1)) : vx_Met l yX8_needProcedure (uW yX8_needProcedure cX8_needProcedure 2 none) ({ frames := 6, cells := 1, slots := 6, locals := 82 }) (va_Pc [.ref o, .int x1] (aS ra ga D (tyL cI cZ cJ) (xW o u cI cZ cJ) sz)) (nQv (va_A (xW o u cI cZ cJ) sz)) (wX "java/lang/IndexOutOfBoundsException" D (xW o u cI cZ cJ) (va_A (xW o u cI cZ cJ) sz)) 1 6 (va_A (xW o u cI cZ cJ) sz) := by
  refine xStart (lv := [(0, .ref o), (1, .int x1)]) (Qc := fun A => nQv A) (XC := fun A => wX "java/lang/IndexOutOfBoundsException" D (xW o u cI cZ cJ) A) (by decide) (Nat.le_of_ble_eq_true rfl) rfl ?_
  intro p e s m args below meth c ls A H S hr hlocks hnm hl hK hP hD hS hA hB hnt
  have hx := S.1
  have hb := S.2.1
  refine lv_aload_n hx hb dX8_needProcedure_0 rfl (lv_at hl 0 rfl) ?_
  refine xg (ci := 8) S inX8 rfl hK hP xW_0 0 (by decide) rfl kw_3_20 rfl dX8_needProcedure_1 ?_
  refine lv_iload_n hx hb dX8_needProcedure_4 rfl (lv_at hl 1 rfl) ?_
  refine rdV (As := [.int x1]) (ci := 1) S (c_X1_has_0 l D cI cZ cJ o u x1 hi_x1) mi_X1_has kw_4_170 ⟨rfl, rfl⟩ ⟨Nat.le_of_ble_eq_true rfl, Nat.le_of_ble_eq_true rfl⟩ hP hK xW_1 rfl rfl hl.1 (Nat.le_of_ble_eq_true rfl) ⟨Nat.le_of_ble_eq_true rfl, Nat.le_of_ble_eq_true rfl⟩ dX8_needProcedure_5 ?_
  refine lv_if_ne (tgt := 22) hx hb dX8_needProcedure_8 (by decide) (fun c => absurd c (by decide)) (fun _ => ?_)
  exact vx_throwSW (names := ["java/lang/RuntimeException", "java/lang/Exception"]) hx hb hst S.2.2.2.1 rfl (by decide) (S.2.2.2.2 _ kw_4_174) (S.2.2.2.2 _ kw_1_15) hB.k1 (vx_hat (fun w h => S.2.2.2.2 _ (atS_0 w h)) atB_0 (vx_c (va_Nw.use rfl hB.c0) (vx_c (va_Nw.use rfl hB.d0) (vx_c (va_Nw.use rfl hB.d1) (vx_c (va_Nw.use rfl hB.d2) vx_n))))) atO_0 hB.xU hB.xN hS (hl.1.trans S.2.2.1.symm) dX8_needProcedure_11 dX8_needProcedure_14 dX8_needProcedure_15 dX8_needProcedure_18 dX8_needProcedure_21 (fun x hx => (hnt x hx).elim) (Nat.le_of_ble_eq_true rfl) (Nat.le_of_ble_eq_true rfl) (Nat.le_of_ble_eq_true rfl) (Nat.le_of_ble_eq_true rfl) hlocks (fun t _ hz hq => xThrown hP hD hS hz hq) hS.2.2 (Nat.le_of_ble_eq_true rfl) (Nat.le_of_ble_eq_true rfl)

set_option maxHeartbeats 8000000 in
set_option maxRecDepth 100000 in
theorem c_X8_needProcedure_1 (l : Launch) (D : va_G) (cI cZ cJ : ClassId) (o : Nat) (u : Nat → Nat) (hst : l.stackTraces = false) (ra ga : Nat → Nat) (sz : Nat) (x1 : Int32) (lo_x1 : 1 ≤ x1) : vx_Met l yX8_needProcedure (uW yX8_needProcedure cX8_needProcedure 2 none) ({ frames := 6, cells := 1, slots := 6, locals := 82 }) (va_Pc [.ref o, .int x1] (aS ra ga D (tyL cI cZ cJ) (xW o u cI cZ cJ) sz)) (nQv (va_A (xW o u cI cZ cJ) sz)) (wX "java/lang/IndexOutOfBoundsException" D (xW o u cI cZ cJ) (va_A (xW o u cI cZ cJ) sz)) 1 6 (va_A (xW o u cI cZ cJ) sz) := by
  refine xStart (lv := [(0, .ref o), (1, .int x1)]) (Qc := fun A => nQv A) (XC := fun A => wX "java/lang/IndexOutOfBoundsException" D (xW o u cI cZ cJ) A) (by decide) (Nat.le_of_ble_eq_true rfl) rfl ?_
  intro p e s m args below meth c ls A H S hr hlocks hnm hl hK hP hD hS hA hB hnt
  have hx := S.1
  have hb := S.2.1
  refine lv_aload_n hx hb dX8_needProcedure_0 rfl (lv_at hl 0 rfl) ?_
  refine xg (ci := 8) S inX8 rfl hK hP xW_0 0 (by decide) rfl kw_3_20 rfl dX8_needProcedure_1 ?_
  refine lv_iload_n hx hb dX8_needProcedure_4 rfl (lv_at hl 1 rfl) ?_
  refine rdV (As := [.int x1]) (ci := 1) S (c_X1_has_1 l D cI cZ cJ o u x1 lo_x1) mi_X1_has kw_4_170 ⟨rfl, rfl⟩ ⟨Nat.le_of_ble_eq_true rfl, Nat.le_of_ble_eq_true rfl⟩ hP hK xW_1 rfl rfl hl.1 (Nat.le_of_ble_eq_true rfl) ⟨Nat.le_of_ble_eq_true rfl, Nat.le_of_ble_eq_true rfl⟩ dX8_needProcedure_5 ?_
  refine lv_if_ne (tgt := 22) hx hb dX8_needProcedure_8 (by decide) (fun c => absurd c (by decide)) (fun _ => ?_)
  exact vx_throwSW (names := ["java/lang/RuntimeException", "java/lang/Exception"]) hx hb hst S.2.2.2.1 rfl (by decide) (S.2.2.2.2 _ kw_4_174) (S.2.2.2.2 _ kw_1_15) hB.k1 (vx_hat (fun w h => S.2.2.2.2 _ (atS_0 w h)) atB_0 (vx_c (va_Nw.use rfl hB.c0) (vx_c (va_Nw.use rfl hB.d0) (vx_c (va_Nw.use rfl hB.d1) (vx_c (va_Nw.use rfl hB.d2) vx_n))))) atO_0 hB.xU hB.xN hS (hl.1.trans S.2.2.1.symm) dX8_needProcedure_11 dX8_needProcedure_14 dX8_needProcedure_15 dX8_needProcedure_18 dX8_needProcedure_21 (fun x hx => (hnt x hx).elim) (Nat.le_of_ble_eq_true rfl) (Nat.le_of_ble_eq_true rfl) (Nat.le_of_ble_eq_true rfl) (Nat.le_of_ble_eq_true rfl) hlocks (fun t _ hz hq => xThrown hP hD hS hz hq) hS.2.2 (Nat.le_of_ble_eq_true rfl) (Nat.le_of_ble_eq_true rfl)

set_option maxHeartbeats 8000000 in
set_option maxRecDepth 100000 in
theorem c_X8_needProcedure_2 (l : Launch) (D : va_G) (cI cZ cJ : ClassId) (o : Nat) (u : Nat → Nat) (ra ga : Nat → Nat) (sz : Nat) : Met l yX8_needProcedure (uW yX8_needProcedure cX8_needProcedure 2 none) ({ frames := 1, cells := 0, slots := 0, locals := 21 }) (va_Pc [.ref o, .int 0] (aS ra ga D (tyL cI cZ cJ) (xW o u cI cZ cJ) sz)) (wQv D (xW o u cI cZ cJ) (va_A (xW o u cI cZ cJ) sz)) 0 0 (va_A (xW o u cI cZ cJ) sz) := by
  refine aStart (lv := [(0, .ref o), (1, .int 0)]) (Qc := fun A => wQv D (xW o u cI cZ cJ) A) (by decide) (Nat.le_of_ble_eq_true rfl) rfl ?_
  intro p e s m args below meth c ls A H S hr hlocks hnm hl hK hP hD hS hA hB
  have hx := S.1
  have hb := S.2.1
  refine lv_aload_n hx hb dX8_needProcedure_0 rfl (lv_at hl 0 rfl) ?_
  refine xg (ci := 8) S inX8 rfl hK hP xW_0 0 (by decide) rfl kw_3_20 rfl dX8_needProcedure_1 ?_
  refine lv_iload_n hx hb dX8_needProcedure_4 rfl (lv_at hl 1 rfl) ?_
  refine rdV (As := [.int 0]) (ci := 1) S (c_X1_has_2 l D cI cZ cJ o u) mi_X1_has kw_4_170 ⟨rfl, rfl⟩ ⟨Nat.le_of_ble_eq_true rfl, Nat.le_of_ble_eq_true rfl⟩ hP hK xW_1 rfl rfl hl.1 (Nat.le_of_ble_eq_true rfl) ⟨Nat.le_of_ble_eq_true rfl, Nat.le_of_ble_eq_true rfl⟩ dX8_needProcedure_5 ?_
  refine lv_if_ne (tgt := 22) hx hb dX8_needProcedure_8 (by decide) (fun _ => ?_) (fun c => absurd c (by decide))
  exact wEndv S hr hlocks hP hD hS (Nat.le_of_ble_eq_true rfl) (Nat.le_of_ble_eq_true rfl) dX8_needProcedure_22

set_option maxHeartbeats 8000000 in
set_option maxRecDepth 100000 in
theorem c_X8_isName_0 (l : Launch) (D : va_G) (cI cZ cJ : ClassId) (o : Nat) (u : Nat → Nat) (x2 : Int32) (hi_x2 : x2 ≤ (-1)) : Met l yX8_isName (uW yX8_isName cX8_isName 1 (some .boolean)) ({ frames := 0, cells := 0, slots := 0, locals := 0 }) (va_Pc [.int x2] (pS D (tyL cI cZ cJ) (xW o u cI cZ cJ))) (QcRead (0)) 0 0 (fun _ => False) := by
  refine rdStart (lv := [(0, .int x2)]) (by decide) (Nat.le_of_ble_eq_true rfl) rfl ?_
  intro p e s m args below meth c ls S hr hlocks hl hP hK
  have hx := S.1
  have hb := S.2.1
  refine lv_iload_n hx hb dX8_isName_0 rfl (lv_at hl 0 rfl) ?_
  refine lv_if_lt (tgt := 14) hx hb dX8_isName_1 (by decide) (fun _ => ?_) (fun c => absurd (b_lt hi_x2 (by decide)) c)
  refine lv_iconst (v := 0) hx hb dX8_isName_14 (by decide) ?_
  exact rdEndZ S hr hlocks dX8_isName_15 rfl rfl

set_option maxHeartbeats 8000000 in
set_option maxRecDepth 100000 in
theorem c_X8_needArgument_0 (l : Launch) (D : va_G) (cI cZ cJ : ClassId) (o : Nat) (u : Nat → Nat) (hst : l.stackTraces = false) (ra ga : Nat → Nat) (sz : Nat) : vx_Met l yX8_needArgument (uW yX8_needArgument cX8_needArgument 1 none) ({ frames := 6, cells := 1, slots := 6, locals := 82 }) (va_Pc [.int 0] (aS ra ga D (tyL cI cZ cJ) (xW o u cI cZ cJ) sz)) (nQv (va_A (xW o u cI cZ cJ) sz)) (wX "java/lang/IllegalArgumentException" D (xW o u cI cZ cJ) (va_A (xW o u cI cZ cJ) sz)) 1 6 (va_A (xW o u cI cZ cJ) sz) := by
  refine xStart (lv := [(0, .int 0)]) (Qc := fun A => nQv A) (XC := fun A => wX "java/lang/IllegalArgumentException" D (xW o u cI cZ cJ) A) (by decide) (Nat.le_of_ble_eq_true rfl) rfl ?_
  intro p e s m args below meth c ls A H S hr hlocks hnm hl hK hP hD hS hA hB hnt
  have hx := S.1
  have hb := S.2.1
  refine lv_iload_n hx hb dX8_needArgument_0 rfl (lv_at hl 0 rfl) ?_
  refine lv_if_ne (tgt := 15) hx hb dX8_needArgument_1 (by decide) (fun c => absurd c (by decide)) (fun _ => ?_)
  exact vx_throwSW (names := ["java/lang/RuntimeException", "java/lang/Exception"]) hx hb hst S.2.2.2.1 rfl (by decide) (S.2.2.2.2 _ kw_4_7) (S.2.2.2.2 _ kw_1_16) hB.k0 (vx_hat (fun w h => S.2.2.2.2 _ (atS_1 w h)) atB_1 (vx_c (va_Nw.use rfl hB.c1) (vx_c (va_Nw.use rfl hB.d0) (vx_c (va_Nw.use rfl hB.d1) (vx_c (va_Nw.use rfl hB.d2) vx_n))))) atO_1 hB.xU hB.xN hS (hl.1.trans S.2.2.1.symm) dX8_needArgument_4 dX8_needArgument_7 dX8_needArgument_8 dX8_needArgument_11 dX8_needArgument_14 (fun x hx => (hnt x hx).elim) (Nat.le_of_ble_eq_true rfl) (Nat.le_of_ble_eq_true rfl) (Nat.le_of_ble_eq_true rfl) (Nat.le_of_ble_eq_true rfl) hlocks (fun t _ hz hq => xThrown hP hD hS hz hq) hS.2.2 (Nat.le_of_ble_eq_true rfl) (Nat.le_of_ble_eq_true rfl)

set_option maxHeartbeats 8000000 in
set_option maxRecDepth 100000 in
theorem c_X8_isName_1 (l : Launch) (D : va_G) (cI cZ cJ : ClassId) (o : Nat) (u : Nat → Nat) (x2 : Int32) (lo_x2 : 16 ≤ x2) : Met l yX8_isName (uW yX8_isName cX8_isName 1 (some .boolean)) ({ frames := 0, cells := 0, slots := 0, locals := 0 }) (va_Pc [.int x2] (pS D (tyL cI cZ cJ) (xW o u cI cZ cJ))) (QcRead (0)) 0 0 (fun _ => False) := by
  refine rdStart (lv := [(0, .int x2)]) (by decide) (Nat.le_of_ble_eq_true rfl) rfl ?_
  intro p e s m args below meth c ls S hr hlocks hl hP hK
  have hx := S.1
  have hb := S.2.1
  refine lv_iload_n hx hb dX8_isName_0 rfl (lv_at hl 0 rfl) ?_
  refine lv_if_lt (tgt := 14) hx hb dX8_isName_1 (by decide) (fun c => absurd c (b_nlt lo_x2 (by decide))) (fun _ => ?_)
  refine lv_iload_n hx hb dX8_isName_4 rfl (lv_at hl 0 rfl) ?_
  refine lv_bipush (v := 16) hx hb dX8_isName_5 (by decide) ?_
  refine lv_icmp_ge (tgt := 14) hx hb dX8_isName_7 (by decide) (fun _ => ?_) (fun c => absurd (b_ge lo_x2 (by decide)) c)
  refine lv_iconst (v := 0) hx hb dX8_isName_14 (by decide) ?_
  exact rdEndZ S hr hlocks dX8_isName_15 rfl rfl

set_option maxHeartbeats 8000000 in
set_option maxRecDepth 100000 in
theorem c_X8_isName_2 (l : Launch) (D : va_G) (cI cZ cJ : ClassId) (o : Nat) (u : Nat → Nat) (x2 : Int32) (lo_x2 : 0 ≤ x2) (hi_x2 : x2 ≤ 15) : Met l yX8_isName (uW yX8_isName cX8_isName 1 (some .boolean)) ({ frames := 0, cells := 0, slots := 0, locals := 0 }) (va_Pc [.int x2] (pS D (tyL cI cZ cJ) (xW o u cI cZ cJ))) (QcRead (1)) 0 0 (fun _ => False) := by
  refine rdStart (lv := [(0, .int x2)]) (by decide) (Nat.le_of_ble_eq_true rfl) rfl ?_
  intro p e s m args below meth c ls S hr hlocks hl hP hK
  have hx := S.1
  have hb := S.2.1
  refine lv_iload_n hx hb dX8_isName_0 rfl (lv_at hl 0 rfl) ?_
  refine lv_if_lt (tgt := 14) hx hb dX8_isName_1 (by decide) (fun c => absurd c (b_nlt lo_x2 (by decide))) (fun _ => ?_)
  refine lv_iload_n hx hb dX8_isName_4 rfl (lv_at hl 0 rfl) ?_
  refine lv_bipush (v := 16) hx hb dX8_isName_5 (by decide) ?_
  refine lv_icmp_ge (tgt := 14) hx hb dX8_isName_7 (by decide) (fun c => absurd c (b_nge hi_x2 (by decide))) (fun _ => ?_)
  refine lv_iconst (v := 1) hx hb dX8_isName_10 (by decide) ?_
  refine lv_goto (tgt := 15) hx hb dX8_isName_11 (by decide) ?_
  exact rdEndZ S hr hlocks dX8_isName_15 rfl rfl

set_option maxHeartbeats 8000000 in
set_option maxRecDepth 100000 in
theorem c_X8_needArgument_1 (l : Launch) (D : va_G) (cI cZ cJ : ClassId) (o : Nat) (u : Nat → Nat) (ra ga : Nat → Nat) (sz : Nat) : Met l yX8_needArgument (uW yX8_needArgument cX8_needArgument 1 none) ({ frames := 0, cells := 0, slots := 0, locals := 0 }) (va_Pc [.int 1] (aS ra ga D (tyL cI cZ cJ) (xW o u cI cZ cJ) sz)) (wQv D (xW o u cI cZ cJ) (va_A (xW o u cI cZ cJ) sz)) 0 0 (va_A (xW o u cI cZ cJ) sz) := by
  refine aStart (lv := [(0, .int 1)]) (Qc := fun A => wQv D (xW o u cI cZ cJ) A) (by decide) (Nat.le_of_ble_eq_true rfl) rfl ?_
  intro p e s m args below meth c ls A H S hr hlocks hnm hl hK hP hD hS hA hB
  have hx := S.1
  have hb := S.2.1
  refine lv_iload_n hx hb dX8_needArgument_0 rfl (lv_at hl 0 rfl) ?_
  refine lv_if_ne (tgt := 15) hx hb dX8_needArgument_1 (by decide) (fun _ => ?_) (fun c => absurd c (by decide))
  exact wEndv S hr hlocks hP hD hS (Nat.le_of_ble_eq_true rfl) (Nat.le_of_ble_eq_true rfl) dX8_needArgument_15

set_option maxHeartbeats 8000000 in
set_option maxRecDepth 100000 in
theorem c_X1_declares_0 (l : Launch) (D : va_G) (cI cZ cJ : ClassId) (o : Nat) (u : Nat → Nat) (x2 : Int32) (lo_x2 : 0 ≤ x2) (hi_x2 : x2 ≤ 15) : Met l yX1_declares (uW yX1_declares cX1_declares 3 (some .boolean)) ({ frames := 0, cells := 0, slots := 0, locals := 0 }) (va_Pc [.ref (u 0), .int 0, .int x2] (pS D (tyL cI cZ cJ) (xW o u cI cZ cJ))) (QcRead (0)) 0 0 (fun _ => False) := by
  refine rdStart (lv := [(0, .ref (u 0)), (1, .int 0), (2, .int x2)]) (by decide) (Nat.le_of_ble_eq_true rfl) rfl ?_
  intro p e s m args below meth c ls S hr hlocks hl hP hK
  have hx := S.1
  have hb := S.2.1
  refine lv_aload_n hx hb dX1_declares_0 rfl (lv_at hl 0 rfl) ?_
  refine xg (ci := 1) S inX1 rfl hK hP xW_1 7 (by decide) rfl kw_1_61 rfl dX1_declares_1 ?_
  refine lv_iload_n hx hb dX1_declares_4 rfl (lv_at hl 1 rfl) ?_
  refine lv_bipush (v := 16) hx hb dX1_declares_5 (by decide) ?_
  refine ximul (v := 0) S dX1_declares_7 (by decide) ?_
  refine lv_iload_n hx hb dX1_declares_8 rfl (lv_at hl 2 rfl) ?_
  refine xiadd (v := x2) S dX1_declares_9 (Int32.zero_add _) ?_
  refine xiald (t0 := 0) (v := (-1)) S hK hP xW_8 rfl (b_in lo_x2 hi_x2 (by decide) (by decide)) rfl dX1_declares_10 ?_
  refine lv_iconst (v := (-1)) hx hb dX1_declares_11 (by decide) ?_
  refine lv_icmp_eq (tgt := 19) hx hb dX1_declares_12 (by decide) (fun _ => ?_) (fun c => absurd c (by decide))
  refine lv_iconst (v := 0) hx hb dX1_declares_19 (by decide) ?_
  exact rdEndZ S hr hlocks dX1_declares_20 rfl rfl

set_option maxHeartbeats 8000000 in
set_option maxRecDepth 100000 in
theorem c_X8_needState_0 (l : Launch) (D : va_G) (cI cZ cJ : ClassId) (o : Nat) (u : Nat → Nat) (ra ga : Nat → Nat) (sz : Nat) : Met l yX8_needState (uW yX8_needState cX8_needState 1 none) ({ frames := 0, cells := 0, slots := 0, locals := 0 }) (va_Pc [.int 1] (aS ra ga D (tyL cI cZ cJ) (xW o u cI cZ cJ) sz)) (wQv D (xW o u cI cZ cJ) (va_A (xW o u cI cZ cJ) sz)) 0 0 (va_A (xW o u cI cZ cJ) sz) := by
  refine aStart (lv := [(0, .int 1)]) (Qc := fun A => wQv D (xW o u cI cZ cJ) A) (by decide) (Nat.le_of_ble_eq_true rfl) rfl ?_
  intro p e s m args below meth c ls A H S hr hlocks hnm hl hK hP hD hS hA hB
  have hx := S.1
  have hb := S.2.1
  refine lv_iload_n hx hb dX8_needState_0 rfl (lv_at hl 0 rfl) ?_
  refine lv_if_ne (tgt := 15) hx hb dX8_needState_1 (by decide) (fun _ => ?_) (fun c => absurd c (by decide))
  exact wEndv S hr hlocks hP hD hS (Nat.le_of_ble_eq_true rfl) (Nat.le_of_ble_eq_true rfl) dX8_needState_15

set_option maxHeartbeats 8000000 in
set_option maxRecDepth 100000 in
theorem c_X1_declare_0 (l : Launch) (D : va_G) (cI cZ cJ : ClassId) (o : Nat) (u : Nat → Nat) (ra ga : Nat → Nat) (sz : Nat) (x2 : Int32) (lo_x2 : 0 ≤ x2) (hi_x2 : x2 ≤ 15) : Met l yX1_declare (uW yX1_declare cX1_declare 6 none) ({ frames := 0, cells := 0, slots := 0, locals := 0 }) (va_Pc [.ref (u 0), .int 0, .int x2, .int 10, .int 1] (aS ra ga D (tyL cI cZ cJ) ((((xW o u cI cZ cJ).set 1 ((u 0), .inr (1, ([.int 1, .ref (u 1), .ref (u 2), .ref (u 3), .ref (u 4), .ref (u 5), .ref (u 6), .ref (u 7), .ref (u 8), .ref (u 9), .ref (u 10), .ref (u 11)].set 0 (.int 2))))).set 2 ((u 1), .inl (cI, 10, .inl (upd (upd (fun _ => 0) (0 : Int32).toNatClampNeg (-1)) (1 : Int32).toNatClampNeg 0)))).set 3 ((u 2), .inl (cI, 10, .inl (upd (upd (fun _ => 0) (0 : Int32).toNatClampNeg (-1)) (1 : Int32).toNatClampNeg x2)))) sz)) (wQv D (((((((xW o u cI cZ cJ).set 1 ((u 0), .inr (1, ([.int 1, .ref (u 1), .ref (u 2), .ref (u 3), .ref (u 4), .ref (u 5), .ref (u 6), .ref (u 7), .ref (u 8), .ref (u 9), .ref (u 10), .ref (u 11)].set 0 (.int 2))))).set 2 ((u 1), .inl (cI, 10, .inl (upd (upd (fun _ => 0) (0 : Int32).toNatClampNeg (-1)) (1 : Int32).toNatClampNeg 0)))).set 3 ((u 2), .inl (cI, 10, .inl (upd (upd (fun _ => 0) (0 : Int32).toNatClampNeg (-1)) (1 : Int32).toNatClampNeg x2)))).set 8 ((u 7), .inl (cI, 160, .inl (upd (fun _ => (-1)) (x2 : Int32).toNatClampNeg 10)))).set 9 ((u 8), .inl (cI, 160, .inl (upd (fun _ => 0) (x2 : Int32).toNatClampNeg (-1))))).set 10 ((u 9), .inl (cI, 160, .inl (upd (fun _ => 0) (x2 : Int32).toNatClampNeg 1)))) (va_A ((((xW o u cI cZ cJ).set 1 ((u 0), .inr (1, ([.int 1, .ref (u 1), .ref (u 2), .ref (u 3), .ref (u 4), .ref (u 5), .ref (u 6), .ref (u 7), .ref (u 8), .ref (u 9), .ref (u 10), .ref (u 11)].set 0 (.int 2))))).set 2 ((u 1), .inl (cI, 10, .inl (upd (upd (fun _ => 0) (0 : Int32).toNatClampNeg (-1)) (1 : Int32).toNatClampNeg 0)))).set 3 ((u 2), .inl (cI, 10, .inl (upd (upd (fun _ => 0) (0 : Int32).toNatClampNeg (-1)) (1 : Int32).toNatClampNeg x2)))) sz)) 0 0 (va_A ((((xW o u cI cZ cJ).set 1 ((u 0), .inr (1, ([.int 1, .ref (u 1), .ref (u 2), .ref (u 3), .ref (u 4), .ref (u 5), .ref (u 6), .ref (u 7), .ref (u 8), .ref (u 9), .ref (u 10), .ref (u 11)].set 0 (.int 2))))).set 2 ((u 1), .inl (cI, 10, .inl (upd (upd (fun _ => 0) (0 : Int32).toNatClampNeg (-1)) (1 : Int32).toNatClampNeg 0)))).set 3 ((u 2), .inl (cI, 10, .inl (upd (upd (fun _ => 0) (0 : Int32).toNatClampNeg (-1)) (1 : Int32).toNatClampNeg x2)))) sz) := by
  refine aStart (lv := [(0, .ref (u 0)), (1, .int 0), (2, .int x2), (3, .int 10), (4, .int 1)]) (Qc := fun A => wQv D (((((((xW o u cI cZ cJ).set 1 ((u 0), .inr (1, ([.int 1, .ref (u 1), .ref (u 2), .ref (u 3), .ref (u 4), .ref (u 5), .ref (u 6), .ref (u 7), .ref (u 8), .ref (u 9), .ref (u 10), .ref (u 11)].set 0 (.int 2))))).set 2 ((u 1), .inl (cI, 10, .inl (upd (upd (fun _ => 0) (0 : Int32).toNatClampNeg (-1)) (1 : Int32).toNatClampNeg 0)))).set 3 ((u 2), .inl (cI, 10, .inl (upd (upd (fun _ => 0) (0 : Int32).toNatClampNeg (-1)) (1 : Int32).toNatClampNeg x2)))).set 8 ((u 7), .inl (cI, 160, .inl (upd (fun _ => (-1)) (x2 : Int32).toNatClampNeg 10)))).set 9 ((u 8), .inl (cI, 160, .inl (upd (fun _ => 0) (x2 : Int32).toNatClampNeg (-1))))).set 10 ((u 9), .inl (cI, 160, .inl (upd (fun _ => 0) (x2 : Int32).toNatClampNeg 1)))) A) (by decide) (Nat.le_of_ble_eq_true rfl) rfl ?_
  intro p e s m args below meth c ls A H S hr hlocks hnm hl hK hP hD hS hA hB
  have hx := S.1
  have hb := S.2.1
  refine lv_iload_n hx hb dX1_declare_0 rfl (lv_at hl 1 rfl) ?_
  refine lv_bipush (v := 16) hx hb dX1_declare_1 (by decide) ?_
  refine ximul (v := 0) S dX1_declare_3 (by decide) ?_
  refine lv_iload_n hx hb dX1_declare_4 rfl (lv_at hl 2 rfl) ?_
  refine xiadd (v := x2) S dX1_declare_5 (Int32.zero_add _) ?_
  refine lv_istore (lv' := [(5, .int x2), (0, .ref (u 0)), (1, .int 0), (2, .int x2), (3, .int 10), (4, .int 1)]) hx hb dX1_declare_6 hl (by decide) rfl (fun ls hl => ?_)
  refine lv_aload_n hx hb dX1_declare_8 rfl (lv_at hl 1 rfl) ?_
  refine xg (ci := 1) S inX1 rfl hK hP (q0 := 1) rfl 7 (by decide) rfl kw_1_61 rfl dX1_declare_9 ?_
  refine lv_iload hx hb dX1_declare_12 (lv_at hl 0 rfl) ?_
  refine lv_iload_n hx hb dX1_declare_14 rfl (lv_at hl 4 rfl) ?_
  refine xiast (t0 := 0) S hK hP hD hS (q0 := 8) rfl rfl (b_in lo_x2 hi_x2 (by decide) (by decide)) dX1_declare_15 (fun H locs hP hD hS => ?_)
  have hP : va_P D vwCl (((((xW o u cI cZ cJ).set 1 ((u 0), .inr (1, ([.int 1, .ref (u 1), .ref (u 2), .ref (u 3), .ref (u 4), .ref (u 5), .ref (u 6), .ref (u 7), .ref (u 8), .ref (u 9), .ref (u 10), .ref (u 11)].set 0 (.int 2))))).set 2 ((u 1), .inl (cI, 10, .inl (upd (upd (fun _ => 0) (0 : Int32).toNatClampNeg (-1)) (1 : Int32).toNatClampNeg 0)))).set 3 ((u 2), .inl (cI, 10, .inl (upd (upd (fun _ => 0) (0 : Int32).toNatClampNeg (-1)) (1 : Int32).toNatClampNeg x2)))).set 8 ((u 7), .inl (cI, 160, .inl (upd (fun _ => (-1)) (x2 : Int32).toNatClampNeg 10)))) H := hP
  have hD : va_D A (((((xW o u cI cZ cJ).set 1 ((u 0), .inr (1, ([.int 1, .ref (u 1), .ref (u 2), .ref (u 3), .ref (u 4), .ref (u 5), .ref (u 6), .ref (u 7), .ref (u 8), .ref (u 9), .ref (u 10), .ref (u 11)].set 0 (.int 2))))).set 2 ((u 1), .inl (cI, 10, .inl (upd (upd (fun _ => 0) (0 : Int32).toNatClampNeg (-1)) (1 : Int32).toNatClampNeg 0)))).set 3 ((u 2), .inl (cI, 10, .inl (upd (upd (fun _ => 0) (0 : Int32).toNatClampNeg (-1)) (1 : Int32).toNatClampNeg x2)))).set 8 ((u 7), .inl (cI, 160, .inl (upd (fun _ => (-1)) (x2 : Int32).toNatClampNeg 10)))) := hD
  refine lv_aload_n hx hb dX1_declare_16 rfl (lv_at hl 1 rfl) ?_
  refine xg (ci := 1) S inX1 rfl hK hP (q0 := 1) rfl 8 (by decide) rfl kw_1_64 rfl dX1_declare_17 ?_
  refine lv_iload hx hb dX1_declare_20 (lv_at hl 0 rfl) ?_
  refine lv_iconst (v := (-1)) hx hb dX1_declare_22 (by decide) ?_
  refine xiast (t0 := 0) S hK hP hD hS (q0 := 9) rfl rfl (b_in lo_x2 hi_x2 (by decide) (by decide)) dX1_declare_23 (fun H locs hP hD hS => ?_)
  have hP : va_P D vwCl ((((((xW o u cI cZ cJ).set 1 ((u 0), .inr (1, ([.int 1, .ref (u 1), .ref (u 2), .ref (u 3), .ref (u 4), .ref (u 5), .ref (u 6), .ref (u 7), .ref (u 8), .ref (u 9), .ref (u 10), .ref (u 11)].set 0 (.int 2))))).set 2 ((u 1), .inl (cI, 10, .inl (upd (upd (fun _ => 0) (0 : Int32).toNatClampNeg (-1)) (1 : Int32).toNatClampNeg 0)))).set 3 ((u 2), .inl (cI, 10, .inl (upd (upd (fun _ => 0) (0 : Int32).toNatClampNeg (-1)) (1 : Int32).toNatClampNeg x2)))).set 8 ((u 7), .inl (cI, 160, .inl (upd (fun _ => (-1)) (x2 : Int32).toNatClampNeg 10)))).set 9 ((u 8), .inl (cI, 160, .inl (upd (fun _ => 0) (x2 : Int32).toNatClampNeg (-1))))) H := hP
  have hD : va_D A ((((((xW o u cI cZ cJ).set 1 ((u 0), .inr (1, ([.int 1, .ref (u 1), .ref (u 2), .ref (u 3), .ref (u 4), .ref (u 5), .ref (u 6), .ref (u 7), .ref (u 8), .ref (u 9), .ref (u 10), .ref (u 11)].set 0 (.int 2))))).set 2 ((u 1), .inl (cI, 10, .inl (upd (upd (fun _ => 0) (0 : Int32).toNatClampNeg (-1)) (1 : Int32).toNatClampNeg 0)))).set 3 ((u 2), .inl (cI, 10, .inl (upd (upd (fun _ => 0) (0 : Int32).toNatClampNeg (-1)) (1 : Int32).toNatClampNeg x2)))).set 8 ((u 7), .inl (cI, 160, .inl (upd (fun _ => (-1)) (x2 : Int32).toNatClampNeg 10)))).set 9 ((u 8), .inl (cI, 160, .inl (upd (fun _ => 0) (x2 : Int32).toNatClampNeg (-1))))) := hD
  refine lv_aload_n hx hb dX1_declare_24 rfl (lv_at hl 1 rfl) ?_
  refine xg (ci := 1) S inX1 rfl hK hP (q0 := 1) rfl 9 (by decide) rfl kw_1_67 rfl dX1_declare_25 ?_
  refine lv_iload hx hb dX1_declare_28 (lv_at hl 0 rfl) ?_
  refine lv_iload hx hb dX1_declare_30 (lv_at hl 5 rfl) ?_
  refine xiast (t0 := 0) S hK hP hD hS (q0 := 10) rfl rfl (b_in lo_x2 hi_x2 (by decide) (by decide)) dX1_declare_32 (fun H locs hP hD hS => ?_)
  have hP : va_P D vwCl (((((((xW o u cI cZ cJ).set 1 ((u 0), .inr (1, ([.int 1, .ref (u 1), .ref (u 2), .ref (u 3), .ref (u 4), .ref (u 5), .ref (u 6), .ref (u 7), .ref (u 8), .ref (u 9), .ref (u 10), .ref (u 11)].set 0 (.int 2))))).set 2 ((u 1), .inl (cI, 10, .inl (upd (upd (fun _ => 0) (0 : Int32).toNatClampNeg (-1)) (1 : Int32).toNatClampNeg 0)))).set 3 ((u 2), .inl (cI, 10, .inl (upd (upd (fun _ => 0) (0 : Int32).toNatClampNeg (-1)) (1 : Int32).toNatClampNeg x2)))).set 8 ((u 7), .inl (cI, 160, .inl (upd (fun _ => (-1)) (x2 : Int32).toNatClampNeg 10)))).set 9 ((u 8), .inl (cI, 160, .inl (upd (fun _ => 0) (x2 : Int32).toNatClampNeg (-1))))).set 10 ((u 9), .inl (cI, 160, .inl (upd (fun _ => 0) (x2 : Int32).toNatClampNeg 1)))) H := hP
  have hD : va_D A (((((((xW o u cI cZ cJ).set 1 ((u 0), .inr (1, ([.int 1, .ref (u 1), .ref (u 2), .ref (u 3), .ref (u 4), .ref (u 5), .ref (u 6), .ref (u 7), .ref (u 8), .ref (u 9), .ref (u 10), .ref (u 11)].set 0 (.int 2))))).set 2 ((u 1), .inl (cI, 10, .inl (upd (upd (fun _ => 0) (0 : Int32).toNatClampNeg (-1)) (1 : Int32).toNatClampNeg 0)))).set 3 ((u 2), .inl (cI, 10, .inl (upd (upd (fun _ => 0) (0 : Int32).toNatClampNeg (-1)) (1 : Int32).toNatClampNeg x2)))).set 8 ((u 7), .inl (cI, 160, .inl (upd (fun _ => (-1)) (x2 : Int32).toNatClampNeg 10)))).set 9 ((u 8), .inl (cI, 160, .inl (upd (fun _ => 0) (x2 : Int32).toNatClampNeg (-1))))).set 10 ((u 9), .inl (cI, 160, .inl (upd (fun _ => 0) (x2 : Int32).toNatClampNeg 1)))) := hD
  exact wEndv S hr hlocks hP hD hS (Nat.le_of_ble_eq_true rfl) (Nat.le_of_ble_eq_true rfl) dX1_declare_33

set_option maxHeartbeats 8000000 in
set_option maxRecDepth 100000 in
theorem c_X1_addProcedure_0 (l : Launch) (D : va_G) (cI cZ cJ : ClassId) (o : Nat) (u : Nat → Nat) (ra ga : Nat → Nat) (sz : Nat) (x2 : Int32) (lo_x2 : 0 ≤ x2) (hi_x2 : x2 ≤ 15) : Met l yX1_addProcedure (uW yX1_addProcedure cX1_addProcedure 4 (some .int)) ({ frames := 1, cells := 0, slots := 0, locals := 25 }) (va_Pc [.ref (u 0), .int 0, .int x2] (aS ra ga D (tyL cI cZ cJ) (xW o u cI cZ cJ) sz)) (wQi (1) D (((((((xW o u cI cZ cJ).set 1 ((u 0), .inr (1, ([.int 1, .ref (u 1), .ref (u 2), .ref (u 3), .ref (u 4), .ref (u 5), .ref (u 6), .ref (u 7), .ref (u 8), .ref (u 9), .ref (u 10), .ref (u 11)].set 0 (.int 2))))).set 2 ((u 1), .inl (cI, 10, .inl (upd (upd (fun _ => 0) (0 : Int32).toNatClampNeg (-1)) (1 : Int32).toNatClampNeg 0)))).set 3 ((u 2), .inl (cI, 10, .inl (upd (upd (fun _ => 0) (0 : Int32).toNatClampNeg (-1)) (1 : Int32).toNatClampNeg x2)))).set 8 ((u 7), .inl (cI, 160, .inl (upd (fun _ => (-1)) (x2 : Int32).toNatClampNeg 10)))).set 9 ((u 8), .inl (cI, 160, .inl (upd (fun _ => 0) (x2 : Int32).toNatClampNeg (-1))))).set 10 ((u 9), .inl (cI, 160, .inl (upd (fun _ => 0) (x2 : Int32).toNatClampNeg 1)))) (va_A (xW o u cI cZ cJ) sz)) 0 0 (va_A (xW o u cI cZ cJ) sz) := by
  refine aStart (lv := [(0, .ref (u 0)), (1, .int 0), (2, .int x2)]) (Qc := fun A => wQi (1) D (((((((xW o u cI cZ cJ).set 1 ((u 0), .inr (1, ([.int 1, .ref (u 1), .ref (u 2), .ref (u 3), .ref (u 4), .ref (u 5), .ref (u 6), .ref (u 7), .ref (u 8), .ref (u 9), .ref (u 10), .ref (u 11)].set 0 (.int 2))))).set 2 ((u 1), .inl (cI, 10, .inl (upd (upd (fun _ => 0) (0 : Int32).toNatClampNeg (-1)) (1 : Int32).toNatClampNeg 0)))).set 3 ((u 2), .inl (cI, 10, .inl (upd (upd (fun _ => 0) (0 : Int32).toNatClampNeg (-1)) (1 : Int32).toNatClampNeg x2)))).set 8 ((u 7), .inl (cI, 160, .inl (upd (fun _ => (-1)) (x2 : Int32).toNatClampNeg 10)))).set 9 ((u 8), .inl (cI, 160, .inl (upd (fun _ => 0) (x2 : Int32).toNatClampNeg (-1))))).set 10 ((u 9), .inl (cI, 160, .inl (upd (fun _ => 0) (x2 : Int32).toNatClampNeg 1)))) A) (by decide) (Nat.le_of_ble_eq_true rfl) rfl ?_
  intro p e s m args below meth c ls A H S hr hlocks hnm hl hK hP hD hS hA hB
  have hx := S.1
  have hb := S.2.1
  refine lv_aload_n hx hb dX1_addProcedure_0 rfl (lv_at hl 0 rfl) ?_
  refine xg (ci := 1) S inX1 rfl hK hP xW_1 0 (by decide) rfl kw_1_38 rfl dX1_addProcedure_1 ?_
  refine lv_istore_n (lv' := [(3, .int 1), (0, .ref (u 0)), (1, .int 0), (2, .int x2)]) hx hb dX1_addProcedure_4 rfl hl (by decide) rfl (fun ls hl => ?_)
  refine lv_aload_n hx hb dX1_addProcedure_5 rfl (lv_at hl 1 rfl) ?_
  refine lv_dup hx hb dX1_addProcedure_6 rfl ?_
  refine xg (ci := 1) S inX1 rfl hK hP xW_1 0 (by decide) rfl kw_1_38 rfl dX1_addProcedure_7 ?_
  refine lv_iconst (v := 1) hx hb dX1_addProcedure_10 (by decide) ?_
  refine xiadd (v := 2) S dX1_addProcedure_11 (by decide) ?_
  refine xp (ci := 1) (v := .int 2) S inX1 tyX1 tyX1_ok nmX1 rfl hK hP hD hS xW_1 0 (by decide) kw_1_38 rfl rfl rfl rfl (Nat.le_of_ble_eq_true rfl) dX1_addProcedure_12 (fun H locs hP hD hS => ?_)
  have hP : va_P D vwCl ((xW o u cI cZ cJ).set 1 ((u 0), .inr (1, ([.int 1, .ref (u 1), .ref (u 2), .ref (u 3), .ref (u 4), .ref (u 5), .ref (u 6), .ref (u 7), .ref (u 8), .ref (u 9), .ref (u 10), .ref (u 11)].set 0 (.int 2))))) H := hP
  have hD : va_D A ((xW o u cI cZ cJ).set 1 ((u 0), .inr (1, ([.int 1, .ref (u 1), .ref (u 2), .ref (u 3), .ref (u 4), .ref (u 5), .ref (u 6), .ref (u 7), .ref (u 8), .ref (u 9), .ref (u 10), .ref (u 11)].set 0 (.int 2))))) := hD
  refine lv_aload_n hx hb dX1_addProcedure_15 rfl (lv_at hl 1 rfl) ?_
  refine xg (ci := 1) S inX1 rfl hK hP (q0 := 1) rfl 1 (by decide) rfl kw_1_43 rfl dX1_addProcedure_16 ?_
  refine lv_iload_n hx hb dX1_addProcedure_19 rfl (lv_at hl 0 rfl) ?_
  refine lv_iload_n hx hb dX1_addProcedure_20 rfl (lv_at hl 2 rfl) ?_
  refine xiast (t0 := 0) S hK hP hD hS (q0 := 2) rfl rfl (vin rfl) dX1_addProcedure_21 (fun H locs hP hD hS => ?_)
  have hP : va_P D vwCl (((xW o u cI cZ cJ).set 1 ((u 0), .inr (1, ([.int 1, .ref (u 1), .ref (u 2), .ref (u 3), .ref (u 4), .ref (u 5), .ref (u 6), .ref (u 7), .ref (u 8), .ref (u 9), .ref (u 10), .ref (u 11)].set 0 (.int 2))))).set 2 ((u 1), .inl (cI, 10, .inl (upd (upd (fun _ => 0) (0 : Int32).toNatClampNeg (-1)) (1 : Int32).toNatClampNeg 0)))) H := hP
  have hD : va_D A (((xW o u cI cZ cJ).set 1 ((u 0), .inr (1, ([.int 1, .ref (u 1), .ref (u 2), .ref (u 3), .ref (u 4), .ref (u 5), .ref (u 6), .ref (u 7), .ref (u 8), .ref (u 9), .ref (u 10), .ref (u 11)].set 0 (.int 2))))).set 2 ((u 1), .inl (cI, 10, .inl (upd (upd (fun _ => 0) (0 : Int32).toNatClampNeg (-1)) (1 : Int32).toNatClampNeg 0)))) := hD
  refine lv_aload_n hx hb dX1_addProcedure_22 rfl (lv_at hl 1 rfl) ?_
  refine xg (ci := 1) S inX1 rfl hK hP (q0 := 1) rfl 2 (by decide) rfl kw_1_46 rfl dX1_addProcedure_23 ?_
  refine lv_iload_n hx hb dX1_addProcedure_26 rfl (lv_at hl 0 rfl) ?_
  refine lv_iload_n hx hb dX1_addProcedure_27 rfl (lv_at hl 3 rfl) ?_
  refine xiast (t0 := 0) S hK hP hD hS (q0 := 3) rfl rfl (vin rfl) dX1_addProcedure_28 (fun H locs hP hD hS => ?_)
  have hP : va_P D vwCl ((((xW o u cI cZ cJ).set 1 ((u 0), .inr (1, ([.int 1, .ref (u 1), .ref (u 2), .ref (u 3), .ref (u 4), .ref (u 5), .ref (u 6), .ref (u 7), .ref (u 8), .ref (u 9), .ref (u 10), .ref (u 11)].set 0 (.int 2))))).set 2 ((u 1), .inl (cI, 10, .inl (upd (upd (fun _ => 0) (0 : Int32).toNatClampNeg (-1)) (1 : Int32).toNatClampNeg 0)))).set 3 ((u 2), .inl (cI, 10, .inl (upd (upd (fun _ => 0) (0 : Int32).toNatClampNeg (-1)) (1 : Int32).toNatClampNeg x2)))) H := hP
  have hD : va_D A ((((xW o u cI cZ cJ).set 1 ((u 0), .inr (1, ([.int 1, .ref (u 1), .ref (u 2), .ref (u 3), .ref (u 4), .ref (u 5), .ref (u 6), .ref (u 7), .ref (u 8), .ref (u 9), .ref (u 10), .ref (u 11)].set 0 (.int 2))))).set 2 ((u 1), .inl (cI, 10, .inl (upd (upd (fun _ => 0) (0 : Int32).toNatClampNeg (-1)) (1 : Int32).toNatClampNeg 0)))).set 3 ((u 2), .inl (cI, 10, .inl (upd (upd (fun _ => 0) (0 : Int32).toNatClampNeg (-1)) (1 : Int32).toNatClampNeg x2)))) := hD
  refine lv_aload_n hx hb dX1_addProcedure_29 rfl (lv_at hl 1 rfl) ?_
  refine lv_iload_n hx hb dX1_addProcedure_30 rfl (lv_at hl 2 rfl) ?_
  refine lv_iload_n hx hb dX1_addProcedure_31 rfl (lv_at hl 3 rfl) ?_
  refine lv_bipush (v := 10) hx hb dX1_addProcedure_32 (by decide) ?_
  refine lv_iload_n hx hb dX1_addProcedure_34 rfl (lv_at hl 0 rfl) ?_
  refine aVv (As := [.int 0, .int x2, .int 10, .int 1]) (ci := 1) S (c_X1_declare_0 l D cI cZ cJ o u ra ga H.size x2 lo_x2 hi_x2) mi_X1_declare kw_5_206 rfl rfl ⟨Nat.le_of_ble_eq_true rfl, Nat.le_of_ble_eq_true rfl⟩ hP hD hK hS hA hB (k := 1) rfl rfl rfl hl.1 (Nat.le_of_ble_eq_true rfl) ⟨Nat.le_of_ble_eq_true rfl, Nat.le_of_ble_eq_true rfl⟩ dX1_addProcedure_35 (fun H locs hz hP hD hS => ?_)
  refine lv_iload_n hx hb dX1_addProcedure_38 rfl (lv_at hl 0 rfl) ?_
  exact wEnd S hr hlocks hP hD hS (Nat.le_of_ble_eq_true rfl) (Nat.le_of_ble_eq_true rfl) dX1_addProcedure_39 rfl

set_option maxHeartbeats 8000000 in
set_option maxRecDepth 100000 in
theorem c_X8_procedure_0 (l : Launch) (D : va_G) (cI cZ cJ : ClassId) (o : Nat) (u : Nat → Nat) (hst : l.stackTraces = false) (ra ga : Nat → Nat) (sz : Nat) (x1 : Int32) (x2 : Int32) (hi_x1 : x1 ≤ (-1)) : vx_Met l yX8_procedure (uW yX8_procedure cX8_procedure 3 (some .int)) ({ frames := 7, cells := 1, slots := 6, locals := 103 }) (va_Pc [.ref o, .int x1, .int x2] (aS ra ga D (tyL cI cZ cJ) (xW o u cI cZ cJ) sz)) (nQi (va_A (xW o u cI cZ cJ) sz)) (wX "java/lang/IndexOutOfBoundsException" D (xW o u cI cZ cJ) (va_A (xW o u cI cZ cJ) sz)) 1 6 (va_A (xW o u cI cZ cJ) sz) := by
  refine xStart (lv := [(0, .ref o), (1, .int x1), (2, .int x2)]) (Qc := fun A => nQi A) (XC := fun A => wX "java/lang/IndexOutOfBoundsException" D (xW o u cI cZ cJ) A) (by decide) (Nat.le_of_ble_eq_true rfl) rfl ?_
  intro p e s m args below meth c ls A H S hr hlocks hnm hl hK hP hD hS hA hB hnt
  have hx := S.1
  have hb := S.2.1
  refine lv_aload_n hx hb dX8_procedure_0 rfl (lv_at hl 0 rfl) ?_
  refine lv_iload_n hx hb dX8_procedure_1 rfl (lv_at hl 1 rfl) ?_
  exact tVv (As := [.int x1]) (ci := 8) S (c_X8_needProcedure_0 l D cI cZ cJ o u hst ra ga H.size x1 hi_x1) mi_X8_needProcedure kw_4_166 rfl rfl ⟨Nat.le_of_ble_eq_true rfl, Nat.le_of_ble_eq_true rfl⟩ hP hD hK hS hA hB xW_0 rfl rfl hl.1 (Nat.le_of_ble_eq_true rfl) ⟨Nat.le_of_ble_eq_true rfl, Nat.le_of_ble_eq_true rfl⟩ dX8_procedure_2 hnt hlocks (Nat.le_of_ble_eq_true rfl) (Nat.le_of_ble_eq_true rfl)

set_option maxHeartbeats 8000000 in
set_option maxRecDepth 100000 in
theorem c_X8_procedure_1 (l : Launch) (D : va_G) (cI cZ cJ : ClassId) (o : Nat) (u : Nat → Nat) (hst : l.stackTraces = false) (ra ga : Nat → Nat) (sz : Nat) (x1 : Int32) (x2 : Int32) (lo_x1 : 1 ≤ x1) : vx_Met l yX8_procedure (uW yX8_procedure cX8_procedure 3 (some .int)) ({ frames := 7, cells := 1, slots := 6, locals := 103 }) (va_Pc [.ref o, .int x1, .int x2] (aS ra ga D (tyL cI cZ cJ) (xW o u cI cZ cJ) sz)) (nQi (va_A (xW o u cI cZ cJ) sz)) (wX "java/lang/IndexOutOfBoundsException" D (xW o u cI cZ cJ) (va_A (xW o u cI cZ cJ) sz)) 1 6 (va_A (xW o u cI cZ cJ) sz) := by
  refine xStart (lv := [(0, .ref o), (1, .int x1), (2, .int x2)]) (Qc := fun A => nQi A) (XC := fun A => wX "java/lang/IndexOutOfBoundsException" D (xW o u cI cZ cJ) A) (by decide) (Nat.le_of_ble_eq_true rfl) rfl ?_
  intro p e s m args below meth c ls A H S hr hlocks hnm hl hK hP hD hS hA hB hnt
  have hx := S.1
  have hb := S.2.1
  refine lv_aload_n hx hb dX8_procedure_0 rfl (lv_at hl 0 rfl) ?_
  refine lv_iload_n hx hb dX8_procedure_1 rfl (lv_at hl 1 rfl) ?_
  exact tVv (As := [.int x1]) (ci := 8) S (c_X8_needProcedure_1 l D cI cZ cJ o u hst ra ga H.size x1 lo_x1) mi_X8_needProcedure kw_4_166 rfl rfl ⟨Nat.le_of_ble_eq_true rfl, Nat.le_of_ble_eq_true rfl⟩ hP hD hK hS hA hB xW_0 rfl rfl hl.1 (Nat.le_of_ble_eq_true rfl) ⟨Nat.le_of_ble_eq_true rfl, Nat.le_of_ble_eq_true rfl⟩ dX8_procedure_2 hnt hlocks (Nat.le_of_ble_eq_true rfl) (Nat.le_of_ble_eq_true rfl)

set_option maxHeartbeats 8000000 in
set_option maxRecDepth 100000 in
theorem c_X8_procedure_2 (l : Launch) (D : va_G) (cI cZ cJ : ClassId) (o : Nat) (u : Nat → Nat) (hst : l.stackTraces = false) (ra ga : Nat → Nat) (sz : Nat) (x2 : Int32) (hi_x2 : x2 ≤ (-1)) : vx_Met l yX8_procedure (uW yX8_procedure cX8_procedure 3 (some .int)) ({ frames := 7, cells := 1, slots := 6, locals := 102 }) (va_Pc [.ref o, .int 0, .int x2] (aS ra ga D (tyL cI cZ cJ) (xW o u cI cZ cJ) sz)) (nQi (va_A (xW o u cI cZ cJ) sz)) (wX "java/lang/IllegalArgumentException" D (xW o u cI cZ cJ) (va_A (xW o u cI cZ cJ) sz)) 1 6 (va_A (xW o u cI cZ cJ) sz) := by
  refine xStart (lv := [(0, .ref o), (1, .int 0), (2, .int x2)]) (Qc := fun A => nQi A) (XC := fun A => wX "java/lang/IllegalArgumentException" D (xW o u cI cZ cJ) A) (by decide) (Nat.le_of_ble_eq_true rfl) rfl ?_
  intro p e s m args below meth c ls A H S hr hlocks hnm hl hK hP hD hS hA hB hnt
  have hx := S.1
  have hb := S.2.1
  refine lv_aload_n hx hb dX8_procedure_0 rfl (lv_at hl 0 rfl) ?_
  refine lv_iload_n hx hb dX8_procedure_1 rfl (lv_at hl 1 rfl) ?_
  refine aVv (As := [.int 0]) (ci := 8) S (c_X8_needProcedure_2 l D cI cZ cJ o u ra ga H.size) mi_X8_needProcedure kw_4_166 rfl rfl ⟨Nat.le_of_ble_eq_true rfl, Nat.le_of_ble_eq_true rfl⟩ hP hD hK hS hA hB xW_0 rfl rfl hl.1 (Nat.le_of_ble_eq_true rfl) ⟨Nat.le_of_ble_eq_true rfl, Nat.le_of_ble_eq_true rfl⟩ dX8_procedure_2 (fun H locs hz hP hD hS => ?_)
  refine lv_iload_n hx hb dX8_procedure_5 rfl (lv_at hl 2 rfl) ?_
  refine rdS (As := [.int x2]) S (c_X8_isName_0 l D cI cZ cJ o u x2 hi_x2) ms_X8_isName kw_4_198 ⟨rfl, rfl⟩ ⟨Nat.le_of_ble_eq_true rfl, Nat.le_of_ble_eq_true rfl⟩ hP hK hl.1 (Nat.le_of_ble_eq_true rfl) ⟨Nat.le_of_ble_eq_true rfl, Nat.le_of_ble_eq_true rfl⟩ dX8_procedure_6 ?_
  exact tSv (As := [.int 0]) S (c_X8_needArgument_0 l D cI cZ cJ o u hst ra ga H.size) ms_X8_needArgument kw_4_4 rfl rfl ⟨Nat.le_of_ble_eq_true rfl, Nat.le_of_ble_eq_true rfl⟩ hP hD hK hS hA hB hl.1 (Nat.le_of_ble_eq_true rfl) ⟨Nat.le_of_ble_eq_true rfl, Nat.le_of_ble_eq_true rfl⟩ dX8_procedure_9 hnt hlocks (Nat.le_of_ble_eq_true rfl) (Nat.le_of_ble_eq_true rfl)

set_option maxHeartbeats 8000000 in
set_option maxRecDepth 100000 in
theorem c_X8_procedure_3 (l : Launch) (D : va_G) (cI cZ cJ : ClassId) (o : Nat) (u : Nat → Nat) (hst : l.stackTraces = false) (ra ga : Nat → Nat) (sz : Nat) (x2 : Int32) (lo_x2 : 16 ≤ x2) : vx_Met l yX8_procedure (uW yX8_procedure cX8_procedure 3 (some .int)) ({ frames := 7, cells := 1, slots := 6, locals := 102 }) (va_Pc [.ref o, .int 0, .int x2] (aS ra ga D (tyL cI cZ cJ) (xW o u cI cZ cJ) sz)) (nQi (va_A (xW o u cI cZ cJ) sz)) (wX "java/lang/IllegalArgumentException" D (xW o u cI cZ cJ) (va_A (xW o u cI cZ cJ) sz)) 1 6 (va_A (xW o u cI cZ cJ) sz) := by
  refine xStart (lv := [(0, .ref o), (1, .int 0), (2, .int x2)]) (Qc := fun A => nQi A) (XC := fun A => wX "java/lang/IllegalArgumentException" D (xW o u cI cZ cJ) A) (by decide) (Nat.le_of_ble_eq_true rfl) rfl ?_
  intro p e s m args below meth c ls A H S hr hlocks hnm hl hK hP hD hS hA hB hnt
  have hx := S.1
  have hb := S.2.1
  refine lv_aload_n hx hb dX8_procedure_0 rfl (lv_at hl 0 rfl) ?_
  refine lv_iload_n hx hb dX8_procedure_1 rfl (lv_at hl 1 rfl) ?_
  refine aVv (As := [.int 0]) (ci := 8) S (c_X8_needProcedure_2 l D cI cZ cJ o u ra ga H.size) mi_X8_needProcedure kw_4_166 rfl rfl ⟨Nat.le_of_ble_eq_true rfl, Nat.le_of_ble_eq_true rfl⟩ hP hD hK hS hA hB xW_0 rfl rfl hl.1 (Nat.le_of_ble_eq_true rfl) ⟨Nat.le_of_ble_eq_true rfl, Nat.le_of_ble_eq_true rfl⟩ dX8_procedure_2 (fun H locs hz hP hD hS => ?_)
  refine lv_iload_n hx hb dX8_procedure_5 rfl (lv_at hl 2 rfl) ?_
  refine rdS (As := [.int x2]) S (c_X8_isName_1 l D cI cZ cJ o u x2 lo_x2) ms_X8_isName kw_4_198 ⟨rfl, rfl⟩ ⟨Nat.le_of_ble_eq_true rfl, Nat.le_of_ble_eq_true rfl⟩ hP hK hl.1 (Nat.le_of_ble_eq_true rfl) ⟨Nat.le_of_ble_eq_true rfl, Nat.le_of_ble_eq_true rfl⟩ dX8_procedure_6 ?_
  exact tSv (As := [.int 0]) S (c_X8_needArgument_0 l D cI cZ cJ o u hst ra ga H.size) ms_X8_needArgument kw_4_4 rfl rfl ⟨Nat.le_of_ble_eq_true rfl, Nat.le_of_ble_eq_true rfl⟩ hP hD hK hS hA hB hl.1 (Nat.le_of_ble_eq_true rfl) ⟨Nat.le_of_ble_eq_true rfl, Nat.le_of_ble_eq_true rfl⟩ dX8_procedure_9 hnt hlocks (Nat.le_of_ble_eq_true rfl) (Nat.le_of_ble_eq_true rfl)

set_option maxHeartbeats 8000000 in
set_option maxRecDepth 100000 in
theorem c_X8_procedure_4 (l : Launch) (D : va_G) (cI cZ cJ : ClassId) (o : Nat) (u : Nat → Nat) (ra ga : Nat → Nat) (sz : Nat) (x2 : Int32) (lo_x2 : 0 ≤ x2) (hi_x2 : x2 ≤ 15) : Met l yX8_procedure (uW yX8_procedure cX8_procedure 3 (some .int)) ({ frames := 2, cells := 0, slots := 0, locals := 48 }) (va_Pc [.ref o, .int 0, .int x2] (aS ra ga D (tyL cI cZ cJ) (xW o u cI cZ cJ) sz)) (wQi (1) D (((((((xW o u cI cZ cJ).set 1 ((u 0), .inr (1, ([.int 1, .ref (u 1), .ref (u 2), .ref (u 3), .ref (u 4), .ref (u 5), .ref (u 6), .ref (u 7), .ref (u 8), .ref (u 9), .ref (u 10), .ref (u 11)].set 0 (.int 2))))).set 2 ((u 1), .inl (cI, 10, .inl (upd (upd (fun _ => 0) (0 : Int32).toNatClampNeg (-1)) (1 : Int32).toNatClampNeg 0)))).set 3 ((u 2), .inl (cI, 10, .inl (upd (upd (fun _ => 0) (0 : Int32).toNatClampNeg (-1)) (1 : Int32).toNatClampNeg x2)))).set 8 ((u 7), .inl (cI, 160, .inl (upd (fun _ => (-1)) (x2 : Int32).toNatClampNeg 10)))).set 9 ((u 8), .inl (cI, 160, .inl (upd (fun _ => 0) (x2 : Int32).toNatClampNeg (-1))))).set 10 ((u 9), .inl (cI, 160, .inl (upd (fun _ => 0) (x2 : Int32).toNatClampNeg 1)))) (va_A (xW o u cI cZ cJ) sz)) 0 0 (va_A (xW o u cI cZ cJ) sz) := by
  refine aStart (lv := [(0, .ref o), (1, .int 0), (2, .int x2)]) (Qc := fun A => wQi (1) D (((((((xW o u cI cZ cJ).set 1 ((u 0), .inr (1, ([.int 1, .ref (u 1), .ref (u 2), .ref (u 3), .ref (u 4), .ref (u 5), .ref (u 6), .ref (u 7), .ref (u 8), .ref (u 9), .ref (u 10), .ref (u 11)].set 0 (.int 2))))).set 2 ((u 1), .inl (cI, 10, .inl (upd (upd (fun _ => 0) (0 : Int32).toNatClampNeg (-1)) (1 : Int32).toNatClampNeg 0)))).set 3 ((u 2), .inl (cI, 10, .inl (upd (upd (fun _ => 0) (0 : Int32).toNatClampNeg (-1)) (1 : Int32).toNatClampNeg x2)))).set 8 ((u 7), .inl (cI, 160, .inl (upd (fun _ => (-1)) (x2 : Int32).toNatClampNeg 10)))).set 9 ((u 8), .inl (cI, 160, .inl (upd (fun _ => 0) (x2 : Int32).toNatClampNeg (-1))))).set 10 ((u 9), .inl (cI, 160, .inl (upd (fun _ => 0) (x2 : Int32).toNatClampNeg 1)))) A) (by decide) (Nat.le_of_ble_eq_true rfl) rfl ?_
  intro p e s m args below meth c ls A H S hr hlocks hnm hl hK hP hD hS hA hB
  have hx := S.1
  have hb := S.2.1
  refine lv_aload_n hx hb dX8_procedure_0 rfl (lv_at hl 0 rfl) ?_
  refine lv_iload_n hx hb dX8_procedure_1 rfl (lv_at hl 1 rfl) ?_
  refine aVv (As := [.int 0]) (ci := 8) S (c_X8_needProcedure_2 l D cI cZ cJ o u ra ga H.size) mi_X8_needProcedure kw_4_166 rfl rfl ⟨Nat.le_of_ble_eq_true rfl, Nat.le_of_ble_eq_true rfl⟩ hP hD hK hS hA hB xW_0 rfl rfl hl.1 (Nat.le_of_ble_eq_true rfl) ⟨Nat.le_of_ble_eq_true rfl, Nat.le_of_ble_eq_true rfl⟩ dX8_procedure_2 (fun H locs hz hP hD hS => ?_)
  refine lv_iload_n hx hb dX8_procedure_5 rfl (lv_at hl 2 rfl) ?_
  refine rdS (As := [.int x2]) S (c_X8_isName_2 l D cI cZ cJ o u x2 lo_x2 hi_x2) ms_X8_isName kw_4_198 ⟨rfl, rfl⟩ ⟨Nat.le_of_ble_eq_true rfl, Nat.le_of_ble_eq_true rfl⟩ hP hK hl.1 (Nat.le_of_ble_eq_true rfl) ⟨Nat.le_of_ble_eq_true rfl, Nat.le_of_ble_eq_true rfl⟩ dX8_procedure_6 ?_
  refine aSv (As := [.int 1]) S (c_X8_needArgument_1 l D cI cZ cJ o u ra ga H.size) ms_X8_needArgument kw_4_4 rfl rfl ⟨Nat.le_of_ble_eq_true rfl, Nat.le_of_ble_eq_true rfl⟩ hP hD hK hS hA hB hl.1 (Nat.le_of_ble_eq_true rfl) ⟨Nat.le_of_ble_eq_true rfl, Nat.le_of_ble_eq_true rfl⟩ dX8_procedure_9 (fun H locs hz hP hD hS => ?_)
  refine lv_aload_n hx hb dX8_procedure_12 rfl (lv_at hl 0 rfl) ?_
  refine xg (ci := 8) S inX8 rfl hK hP xW_0 0 (by decide) rfl kw_3_20 rfl dX8_procedure_13 ?_
  refine xg (ci := 1) S inX1 rfl hK hP xW_1 0 (by decide) rfl kw_1_40 rfl dX8_procedure_16 ?_
  refine lv_bipush (v := 10) hx hb dX8_procedure_19 (by decide) ?_
  refine lv_icmp_ge (tgt := 40) hx hb dX8_procedure_21 (by decide) (fun c => absurd c (by decide)) (fun _ => ?_)
  refine lv_aload_n hx hb dX8_procedure_24 rfl (lv_at hl 0 rfl) ?_
  refine xg (ci := 8) S inX8 rfl hK hP xW_0 0 (by decide) rfl kw_3_20 rfl dX8_procedure_25 ?_
  refine lv_iload_n hx hb dX8_procedure_28 rfl (lv_at hl 1 rfl) ?_
  refine lv_iload_n hx hb dX8_procedure_29 rfl (lv_at hl 2 rfl) ?_
  refine rdV (As := [.int 0, .int x2]) (ci := 1) S (c_X1_declares_0 l D cI cZ cJ o u x2 lo_x2 hi_x2) mi_X1_declares kw_4_201 ⟨rfl, rfl⟩ ⟨Nat.le_of_ble_eq_true rfl, Nat.le_of_ble_eq_true rfl⟩ hP hK xW_1 rfl rfl hl.1 (Nat.le_of_ble_eq_true rfl) ⟨Nat.le_of_ble_eq_true rfl, Nat.le_of_ble_eq_true rfl⟩ dX8_procedure_30 ?_
  refine lv_if_ne (tgt := 40) hx hb dX8_procedure_33 (by decide) (fun c => absurd c (by decide)) (fun _ => ?_)
  refine lv_iconst (v := 1) hx hb dX8_procedure_36 (by decide) ?_
  refine lv_goto (tgt := 41) hx hb dX8_procedure_37 (by decide) ?_
  refine aSv (As := [.int 1]) S (c_X8_needState_0 l D cI cZ cJ o u ra ga H.size) ms_X8_needState kw_5_183 rfl rfl ⟨Nat.le_of_ble_eq_true rfl, Nat.le_of_ble_eq_true rfl⟩ hP hD hK hS hA hB hl.1 (Nat.le_of_ble_eq_true rfl) ⟨Nat.le_of_ble_eq_true rfl, Nat.le_of_ble_eq_true rfl⟩ dX8_procedure_41 (fun H locs hz hP hD hS => ?_)
  refine lv_aload_n hx hb dX8_procedure_44 rfl (lv_at hl 0 rfl) ?_
  refine lv_iconst (v := 1) hx hb dX8_procedure_45 (by decide) ?_
  refine xp (ci := 8) (v := .int 1) S inX8 tyX8 tyX8_ok nmX8 rfl hK hP hD hS xW_0 9 (by decide) kw_3_29 rfl rfl rfl rfl (Nat.le_of_ble_eq_true rfl) dX8_procedure_46 (fun H locs hP hD hS => ?_)
  have hP : va_P D vwCl (xW o u cI cZ cJ) H := hP
  have hD : va_D A (xW o u cI cZ cJ) := hD
  refine lv_aload_n hx hb dX8_procedure_49 rfl (lv_at hl 0 rfl) ?_
  refine xg (ci := 8) S inX8 rfl hK hP xW_0 0 (by decide) rfl kw_3_20 rfl dX8_procedure_50 ?_
  refine lv_iload_n hx hb dX8_procedure_53 rfl (lv_at hl 1 rfl) ?_
  refine lv_iload_n hx hb dX8_procedure_54 rfl (lv_at hl 2 rfl) ?_
  refine aVi (As := [.int 0, .int x2]) (ci := 1) S (c_X1_addProcedure_0 l D cI cZ cJ o u ra ga H.size x2 lo_x2 hi_x2) mi_X1_addProcedure kw_5_202 rfl rfl ⟨Nat.le_of_ble_eq_true rfl, Nat.le_of_ble_eq_true rfl⟩ hP hD hK hS hA hB xW_1 rfl rfl hl.1 (Nat.le_of_ble_eq_true rfl) ⟨Nat.le_of_ble_eq_true rfl, Nat.le_of_ble_eq_true rfl⟩ dX8_procedure_55 (fun H locs hz hP hD hS => ?_)
  exact wEnd S hr hlocks hP hD hS (Nat.le_of_ble_eq_true rfl) (Nat.le_of_ble_eq_true rfl) dX8_procedure_58 rfl

set_option maxHeartbeats 8000000 in
set_option maxRecDepth 100000 in
theorem h_procedure_0 (l : Launch) (D : va_G) (cI cZ cJ : ClassId) (o : Nat) (u : Nat → Nat) (ao : Nat) (hst : l.stackTraces = false) (ra ga : Nat → Nat) (sz : Nat) (x1 : Int32) (x2 : Int32) (hi_x1 : x1 ≤ (-1)) : vx_Met l yL_procedure (uWh yL_procedure cL_procedure 5 (some .int) [(0, 10, 13, 13), (0, 10, 17, 15), (0, 10, 21, 17)]) ({ frames := 8, cells := 1, slots := 6, locals := 125 }) (va_Pc [.ref o, .int x1, .int x2, .ref ao] (lS ra ga D (tyL cI cZ cJ) ((xW o u cI cZ cJ) ++ [(ao, .inl (cJ, 1, .inr (.inl (fun _ => 0))))]) sz)) (wQi (1) D ((xW o u cI cZ cJ) ++ [(ao, .inl (cJ, 1, .inr (.inl (fun _ => 0))))]) (va_A ((xW o u cI cZ cJ) ++ [(ao, .inl (cJ, 1, .inr (.inl (fun _ => 0))))]) sz)) (xN (va_A ((xW o u cI cZ cJ) ++ [(ao, .inl (cJ, 1, .inr (.inl (fun _ => 0))))]) sz)) 1 6 (va_A ((xW o u cI cZ cJ) ++ [(ao, .inl (cJ, 1, .inr (.inl (fun _ => 0))))]) sz) := by
  refine hStart (l := l) (y := yL_procedure) (b := cL_procedure) (n := 5) (r := (some .int)) (hh := [(0, 10, 13, 13), (0, 10, 17, 15), (0, 10, 21, 17)]) (rm := ({ frames := 8, cells := 1, slots := 6, locals := 125 })) (mc := 1) (ms := 6) (ra := ra) (ga := ga) (D := D) (tys := tyL cI cZ cJ) (ws := ((xW o u cI cZ cJ) ++ [(ao, .inl (cJ, 1, .inr (.inl (fun _ => 0))))])) (av := [.ref o, .int x1, .int x2, .ref ao]) (sz := sz) (lv := [(0, .ref o), (1, .int x1), (2, .int x2), (3, .ref ao)]) (Qc := fun A => wQi (1) D ((xW o u cI cZ cJ) ++ [(ao, .inl (cJ, 1, .inr (.inl (fun _ => 0))))]) A) (by decide) (Nat.le_of_ble_eq_true rfl) rfl ?_
  intro p e s m args below meth c ls A H S hr hlocks htab hl hK hP hD hS hA hB hC
  have hx := S.1
  have hb := S.2.1
  refine lv_aload_n hx hb dL_procedure_0 rfl (lv_at hl 3 rfl) ?_
  refine lv_iconst (v := 0) hx hb dL_procedure_1 (by decide) ?_
  refine lv_aload_n hx hb dL_procedure_2 rfl (lv_at hl 0 rfl) ?_
  refine lv_iload_n hx hb dL_procedure_3 rfl (lv_at hl 1 rfl) ?_
  refine lv_iload_n hx hb dL_procedure_4 rfl (lv_at hl 2 rfl) ?_
  refine cVi [] [(ao, .inl (cJ, 1, .inr (.inl (fun _ => 0))))] (As := [.int x1, .int x2]) (ci := 8) S (c_X8_procedure_0 l D cI cZ cJ o u hst ra ga H.size x1 x2 hi_x1) mi_X8_procedure kw_5_179 rfl rfl ⟨Nat.le_of_ble_eq_true rfl, Nat.le_of_ble_eq_true rfl⟩ hP hD hK hS hA hB xW_0 rfl rfl hl.1 (Nat.le_of_ble_eq_true rfl) ⟨Nat.le_of_ble_eq_true rfl, Nat.le_of_ble_eq_true rfl⟩ dL_procedure_5 (fun ce q9 H locs hz hP hD hS hce hcv hcl => ?_)
  refine vx_catch (name := "java/lang/IndexOutOfBoundsException") S.2.2.2.1 [] (⟨0, 10, 13, 13⟩ : ExceptionTableEntry) [(⟨0, 10, 17, 15⟩ : ExceptionTableEntry), (⟨0, 10, 21, 17⟩ : ExceptionTableEntry)] (htab.trans rfl) (fun _ h => absurd h List.not_mem_nil) (by decide) (by decide) (S.2.2.2.2 _ kw_5_176) (va_Nw.use rfl hB.c0) hce hcv hcl ?_
  have hP : va_P D vwCl ((xW o u cI cZ cJ) ++ [(ao, .inl (cJ, 1, .inr (.inl (fun _ => 0))))]) H := hP
  have hD : va_D A ((xW o u cI cZ cJ) ++ [(ao, .inl (cJ, 1, .inr (.inl (fun _ => 0))))]) := hD
  refine lv_astore (lv' := [(4, .ref q9), (0, .ref o), (1, .int x1), (2, .int x2), (3, .ref ao)]) hx hb dL_procedure_13 hl (by decide) rfl (fun ls hl => ?_)
  refine lv_iconst (v := 1) hx hb dL_procedure_15 (by decide) ?_
  exact vx_ret (wEnd S hr hlocks hP hD hS (Nat.le_of_ble_eq_true rfl) (Nat.le_of_ble_eq_true rfl) dL_procedure_16 rfl)

set_option maxHeartbeats 8000000 in
set_option maxRecDepth 100000 in
theorem c_X9_isIn_0 (l : Launch) (D : va_G) (cI cZ cJ : ClassId) (o : Nat) (q : Nat → Nat) (x1 : Int32) (hi_x1 : x1 ≤ (-1)) : Met l yX9_isIn (uW yX9_isIn cX9_isIn 3 (some .boolean)) ({ frames := 0, cells := 0, slots := 0, locals := 0 }) (va_Pc [.int x1, .int 0, .int 0] (pS D (tyL cI cZ cJ) (mW o 0 q cI cZ))) (QcRead (0)) 0 0 (fun _ => False) := by
  refine rdStart (lv := [(0, .int x1), (1, .int 0), (2, .int 0)]) (by decide) (Nat.le_of_ble_eq_true rfl) rfl ?_
  intro p e s m args below meth c ls S hr hlocks hl hP hK
  have hx := S.1
  have hb := S.2.1
  refine lv_iload_n hx hb dX9_isIn_0 rfl (lv_at hl 0 rfl) ?_
  refine lv_iload_n hx hb dX9_isIn_1 rfl (lv_at hl 1 rfl) ?_
  refine lv_icmp_lt (tgt := 14) hx hb dX9_isIn_2 (by decide) (fun _ => ?_) (fun c => absurd (b_lt hi_x1 (by decide)) c)
  refine lv_iconst (v := 0) hx hb dX9_isIn_14 (by decide) ?_
  exact rdEndZ S hr hlocks dX9_isIn_15 rfl rfl

set_option maxHeartbeats 8000000 in
set_option maxRecDepth 100000 in
theorem c_X9_isProcedure_0 (l : Launch) (D : va_G) (cI cZ cJ : ClassId) (o : Nat) (q : Nat → Nat) (x1 : Int32) (hi_x1 : x1 ≤ (-1)) : Met l yX9_isProcedure (uW yX9_isProcedure cX9_isProcedure 2 (some .boolean)) ({ frames := 1, cells := 0, slots := 0, locals := 22 }) (va_Pc [.ref o, .int x1] (pS D (tyL cI cZ cJ) (mW o 0 q cI cZ))) (QcRead (0)) 0 0 (fun _ => False) := by
  refine rdStart (lv := [(0, .ref o), (1, .int x1)]) (by decide) (Nat.le_of_ble_eq_true rfl) rfl ?_
  intro p e s m args below meth c ls S hr hlocks hl hP hK
  have hx := S.1
  have hb := S.2.1
  refine lv_iload_n hx hb dX9_isProcedure_0 rfl (lv_at hl 1 rfl) ?_
  refine lv_iconst (v := 0) hx hb dX9_isProcedure_1 (by decide) ?_
  refine lv_aload_n hx hb dX9_isProcedure_2 rfl (lv_at hl 0 rfl) ?_
  refine xg (ci := 9) S inX9 rfl hK hP mW_0 1 (by decide) mF_1 kw_6_149 rfl dX9_isProcedure_3 ?_
  refine lv_iconst (v := 1) hx hb dX9_isProcedure_6 (by decide) ?_
  refine xisub (v := 0) S dX9_isProcedure_7 (by decide) ?_
  refine rdS (As := [.int x1, .int 0, .int 0]) S (c_X9_isIn_0 l D cI cZ cJ o q x1 hi_x1) ms_X9_isIn kw_7_101 ⟨rfl, rfl⟩ ⟨Nat.le_of_ble_eq_true rfl, Nat.le_of_ble_eq_true rfl⟩ hP hK hl.1 (Nat.le_of_ble_eq_true rfl) ⟨Nat.le_of_ble_eq_true rfl, Nat.le_of_ble_eq_true rfl⟩ dX9_isProcedure_8 ?_
  exact rdEndZ S hr hlocks dX9_isProcedure_11 rfl rfl

set_option maxHeartbeats 8000000 in
set_option maxRecDepth 100000 in
theorem c_X9_no_0 (l : Launch) (D : va_G) (cI cZ cJ : ClassId) (o : Nat) (q : Nat → Nat) (sz : Nat) : Met l yX9_no (uW yX9_no cX9_no 2 (some .int)) ({ frames := 0, cells := 0, slots := 0, locals := 0 }) (va_Pc [.ref o, .int 1] (wS D (tyL cI cZ cJ) (mW o 0 q cI cZ) sz)) (wQi (0) D (mW o 1 q cI cZ) (va_A (mW o 0 q cI cZ) sz)) 0 0 (va_A (mW o 0 q cI cZ) sz) := by
  refine wStart (lv := [(0, .ref o), (1, .int 1)]) (Qc := fun A => wQi (0) D (mW o 1 q cI cZ) A) (by decide) (Nat.le_of_ble_eq_true rfl) rfl ?_
  intro p e s m args below meth c ls A H S hr hlocks hnm hl hK hP hD hS hA
  have hx := S.1
  have hb := S.2.1
  refine lv_aload_n hx hb dX9_no_0 rfl (lv_at hl 0 rfl) ?_
  refine lv_iload_n hx hb dX9_no_1 rfl (lv_at hl 1 rfl) ?_
  refine xp (ci := 9) (v := .int 1) S inX9 tyX9 tyX9_ok nmX9 rfl hK hP hD hS mW_0 0 (by decide) kw_6_148 rfl rfl rfl rfl (Nat.le_of_ble_eq_true rfl) dX9_no_2 (fun H locs hP hD hS => ?_)
  have hP : va_P D vwCl (mW o 1 q cI cZ) H := hP
  have hD : va_D A (mW o 1 q cI cZ) := hD
  refine lv_iconst (v := 0) hx hb dX9_no_5 (by decide) ?_
  exact wEnd S hr hlocks hP hD hS (Nat.le_of_ble_eq_true rfl) (Nat.le_of_ble_eq_true rfl) dX9_no_6 rfl

set_option maxHeartbeats 8000000 in
set_option maxRecDepth 100000 in
theorem c_X9_procedure_0 (l : Launch) (D : va_G) (cI cZ cJ : ClassId) (o : Nat) (q : Nat → Nat) (sz : Nat) (x1 : Int32) (x2 : Int32) (hi_x1 : x1 ≤ (-1)) : Met l yX9_procedure (uW yX9_procedure cX9_procedure 3 (some .int)) ({ frames := 2, cells := 0, slots := 0, locals := 43 }) (va_Pc [.ref o, .int x1, .int x2] (wS D (tyL cI cZ cJ) (mW o 0 q cI cZ) sz)) (wQi (0) D (mW o 1 q cI cZ) (va_A (mW o 0 q cI cZ) sz)) 0 0 (va_A (mW o 0 q cI cZ) sz) := by
  refine wStart (lv := [(0, .ref o), (1, .int x1), (2, .int x2)]) (Qc := fun A => wQi (0) D (mW o 1 q cI cZ) A) (by decide) (Nat.le_of_ble_eq_true rfl) rfl ?_
  intro p e s m args below meth c ls A H S hr hlocks hnm hl hK hP hD hS hA
  have hx := S.1
  have hb := S.2.1
  refine lv_aload_n hx hb dX9_procedure_0 rfl (lv_at hl 0 rfl) ?_
  refine lv_iconst (v := 0) hx hb dX9_procedure_1 (by decide) ?_
  refine xp (ci := 9) (v := .int 0) S inX9 tyX9 tyX9_ok nmX9 rfl hK hP hD hS mW_0 0 (by decide) kw_6_148 rfl rfl rfl rfl (Nat.le_of_ble_eq_true rfl) dX9_procedure_2 (fun H locs hP hD hS => ?_)
  have hP : va_P D vwCl (mW o 0 q cI cZ) H := hP
  have hD : va_D A (mW o 0 q cI cZ) := hD
  refine lv_aload_n hx hb dX9_procedure_5 rfl (lv_at hl 0 rfl) ?_
  refine lv_iload_n hx hb dX9_procedure_6 rfl (lv_at hl 1 rfl) ?_
  refine rdV (As := [.int x1]) (ci := 9) S (c_X9_isProcedure_0 l D cI cZ cJ o q x1 hi_x1) mi_X9_isProcedure kw_7_97 ⟨rfl, rfl⟩ ⟨Nat.le_of_ble_eq_true rfl, Nat.le_of_ble_eq_true rfl⟩ hP hK mW_0 rfl rfl hl.1 (Nat.le_of_ble_eq_true rfl) ⟨Nat.le_of_ble_eq_true rfl, Nat.le_of_ble_eq_true rfl⟩ dX9_procedure_7 ?_
  refine lv_if_ne (tgt := 19) hx hb dX9_procedure_10 (by decide) (fun c => absurd c (by decide)) (fun _ => ?_)
  refine lv_aload_n hx hb dX9_procedure_13 rfl (lv_at hl 0 rfl) ?_
  refine lv_iconst (v := 1) hx hb dX9_procedure_14 (by decide) ?_
  refine wrV (As := [.int 1]) (ci := 9) S (c_X9_no_0 l D cI cZ cJ o q H.size) mi_X9_no kw_7_104 rfl rfl ⟨Nat.le_of_ble_eq_true rfl, Nat.le_of_ble_eq_true rfl⟩ hP hD hK hS hA mW_0 rfl rfl hl.1 (Nat.le_of_ble_eq_true rfl) ⟨Nat.le_of_ble_eq_true rfl, Nat.le_of_ble_eq_true rfl⟩ dX9_procedure_15 (fun H locs hz hP hD hS => ?_)
  exact wEnd S hr hlocks hP hD hS (Nat.le_of_ble_eq_true rfl) (Nat.le_of_ble_eq_true rfl) dX9_procedure_18 rfl

set_option maxHeartbeats 8000000 in
set_option maxRecDepth 100000 in
theorem c_X9_thrown_0 (l : Launch) (D : va_G) (cI cZ cJ : ClassId) (o : Nat) (q : Nat → Nat) : Met l yX9_thrown (uW yX9_thrown cX9_thrown 1 (some .int)) ({ frames := 0, cells := 0, slots := 0, locals := 0 }) (va_Pc [.ref o] (pS D (tyL cI cZ cJ) (mW o 1 q cI cZ))) (QcRead (1)) 0 0 (fun _ => False) := by
  refine rdStart (lv := [(0, .ref o)]) (by decide) (Nat.le_of_ble_eq_true rfl) rfl ?_
  intro p e s m args below meth c ls S hr hlocks hl hP hK
  have hx := S.1
  have hb := S.2.1
  refine lv_aload_n hx hb dX9_thrown_0 rfl (lv_at hl 0 rfl) ?_
  refine xg (ci := 9) S inX9 rfl hK hP mW_0 0 (by decide) mF_0 kw_6_148 rfl dX9_thrown_1 ?_
  exact rdEnd S hr hlocks dX9_thrown_4 rfl

set_option maxHeartbeats 8000000 in
set_option maxRecDepth 100000 in
theorem h_procedure_1 (l : Launch) (D : va_G) (cI cZ cJ : ClassId) (o : Nat) (u : Nat → Nat) (ao : Nat) (hst : l.stackTraces = false) (ra ga : Nat → Nat) (sz : Nat) (x1 : Int32) (x2 : Int32) (lo_x1 : 1 ≤ x1) : vx_Met l yL_procedure (uWh yL_procedure cL_procedure 5 (some .int) [(0, 10, 13, 13), (0, 10, 17, 15), (0, 10, 21, 17)]) ({ frames := 8, cells := 1, slots := 6, locals := 125 }) (va_Pc [.ref o, .int x1, .int x2, .ref ao] (lS ra ga D (tyL cI cZ cJ) ((xW o u cI cZ cJ) ++ [(ao, .inl (cJ, 1, .inr (.inl (fun _ => 0))))]) sz)) (wQi (1) D ((xW o u cI cZ cJ) ++ [(ao, .inl (cJ, 1, .inr (.inl (fun _ => 0))))]) (va_A ((xW o u cI cZ cJ) ++ [(ao, .inl (cJ, 1, .inr (.inl (fun _ => 0))))]) sz)) (xN (va_A ((xW o u cI cZ cJ) ++ [(ao, .inl (cJ, 1, .inr (.inl (fun _ => 0))))]) sz)) 1 6 (va_A ((xW o u cI cZ cJ) ++ [(ao, .inl (cJ, 1, .inr (.inl (fun _ => 0))))]) sz) := by
  refine hStart (l := l) (y := yL_procedure) (b := cL_procedure) (n := 5) (r := (some .int)) (hh := [(0, 10, 13, 13), (0, 10, 17, 15), (0, 10, 21, 17)]) (rm := ({ frames := 8, cells := 1, slots := 6, locals := 125 })) (mc := 1) (ms := 6) (ra := ra) (ga := ga) (D := D) (tys := tyL cI cZ cJ) (ws := ((xW o u cI cZ cJ) ++ [(ao, .inl (cJ, 1, .inr (.inl (fun _ => 0))))])) (av := [.ref o, .int x1, .int x2, .ref ao]) (sz := sz) (lv := [(0, .ref o), (1, .int x1), (2, .int x2), (3, .ref ao)]) (Qc := fun A => wQi (1) D ((xW o u cI cZ cJ) ++ [(ao, .inl (cJ, 1, .inr (.inl (fun _ => 0))))]) A) (by decide) (Nat.le_of_ble_eq_true rfl) rfl ?_
  intro p e s m args below meth c ls A H S hr hlocks htab hl hK hP hD hS hA hB hC
  have hx := S.1
  have hb := S.2.1
  refine lv_aload_n hx hb dL_procedure_0 rfl (lv_at hl 3 rfl) ?_
  refine lv_iconst (v := 0) hx hb dL_procedure_1 (by decide) ?_
  refine lv_aload_n hx hb dL_procedure_2 rfl (lv_at hl 0 rfl) ?_
  refine lv_iload_n hx hb dL_procedure_3 rfl (lv_at hl 1 rfl) ?_
  refine lv_iload_n hx hb dL_procedure_4 rfl (lv_at hl 2 rfl) ?_
  refine cVi [] [(ao, .inl (cJ, 1, .inr (.inl (fun _ => 0))))] (As := [.int x1, .int x2]) (ci := 8) S (c_X8_procedure_1 l D cI cZ cJ o u hst ra ga H.size x1 x2 lo_x1) mi_X8_procedure kw_5_179 rfl rfl ⟨Nat.le_of_ble_eq_true rfl, Nat.le_of_ble_eq_true rfl⟩ hP hD hK hS hA hB xW_0 rfl rfl hl.1 (Nat.le_of_ble_eq_true rfl) ⟨Nat.le_of_ble_eq_true rfl, Nat.le_of_ble_eq_true rfl⟩ dL_procedure_5 (fun ce q9 H locs hz hP hD hS hce hcv hcl => ?_)
  refine vx_catch (name := "java/lang/IndexOutOfBoundsException") S.2.2.2.1 [] (⟨0, 10, 13, 13⟩ : ExceptionTableEntry) [(⟨0, 10, 17, 15⟩ : ExceptionTableEntry), (⟨0, 10, 21, 17⟩ : ExceptionTableEntry)] (htab.trans rfl) (fun _ h => absurd h List.not_mem_nil) (by decide) (by decide) (S.2.2.2.2 _ kw_5_176) (va_Nw.use rfl hB.c0) hce hcv hcl ?_
  have hP : va_P D vwCl ((xW o u cI cZ cJ) ++ [(ao, .inl (cJ, 1, .inr (.inl (fun _ => 0))))]) H := hP
  have hD : va_D A ((xW o u cI cZ cJ) ++ [(ao, .inl (cJ, 1, .inr (.inl (fun _ => 0))))]) := hD
  refine lv_astore (lv' := [(4, .ref q9), (0, .ref o), (1, .int x1), (2, .int x2), (3, .ref ao)]) hx hb dL_procedure_13 hl (by decide) rfl (fun ls hl => ?_)
  refine lv_iconst (v := 1) hx hb dL_procedure_15 (by decide) ?_
  exact vx_ret (wEnd S hr hlocks hP hD hS (Nat.le_of_ble_eq_true rfl) (Nat.le_of_ble_eq_true rfl) dL_procedure_16 rfl)

set_option maxHeartbeats 8000000 in
set_option maxRecDepth 100000 in
theorem c_X9_isIn_1 (l : Launch) (D : va_G) (cI cZ cJ : ClassId) (o : Nat) (q : Nat → Nat) (x1 : Int32) (lo_x1 : 1 ≤ x1) : Met l yX9_isIn (uW yX9_isIn cX9_isIn 3 (some .boolean)) ({ frames := 0, cells := 0, slots := 0, locals := 0 }) (va_Pc [.int x1, .int 0, .int 0] (pS D (tyL cI cZ cJ) (mW o 0 q cI cZ))) (QcRead (0)) 0 0 (fun _ => False) := by
  refine rdStart (lv := [(0, .int x1), (1, .int 0), (2, .int 0)]) (by decide) (Nat.le_of_ble_eq_true rfl) rfl ?_
  intro p e s m args below meth c ls S hr hlocks hl hP hK
  have hx := S.1
  have hb := S.2.1
  refine lv_iload_n hx hb dX9_isIn_0 rfl (lv_at hl 0 rfl) ?_
  refine lv_iload_n hx hb dX9_isIn_1 rfl (lv_at hl 1 rfl) ?_
  refine lv_icmp_lt (tgt := 14) hx hb dX9_isIn_2 (by decide) (fun c => absurd c (b_nlt lo_x1 (by decide))) (fun _ => ?_)
  refine lv_iload_n hx hb dX9_isIn_5 rfl (lv_at hl 0 rfl) ?_
  refine lv_iload_n hx hb dX9_isIn_6 rfl (lv_at hl 2 rfl) ?_
  refine lv_icmp_gt (tgt := 14) hx hb dX9_isIn_7 (by decide) (fun _ => ?_) (fun c => absurd (b_gt lo_x1 (by decide)) c)
  refine lv_iconst (v := 0) hx hb dX9_isIn_14 (by decide) ?_
  exact rdEndZ S hr hlocks dX9_isIn_15 rfl rfl

set_option maxHeartbeats 8000000 in
set_option maxRecDepth 100000 in
theorem c_X9_isProcedure_1 (l : Launch) (D : va_G) (cI cZ cJ : ClassId) (o : Nat) (q : Nat → Nat) (x1 : Int32) (lo_x1 : 1 ≤ x1) : Met l yX9_isProcedure (uW yX9_isProcedure cX9_isProcedure 2 (some .boolean)) ({ frames := 1, cells := 0, slots := 0, locals := 22 }) (va_Pc [.ref o, .int x1] (pS D (tyL cI cZ cJ) (mW o 0 q cI cZ))) (QcRead (0)) 0 0 (fun _ => False) := by
  refine rdStart (lv := [(0, .ref o), (1, .int x1)]) (by decide) (Nat.le_of_ble_eq_true rfl) rfl ?_
  intro p e s m args below meth c ls S hr hlocks hl hP hK
  have hx := S.1
  have hb := S.2.1
  refine lv_iload_n hx hb dX9_isProcedure_0 rfl (lv_at hl 1 rfl) ?_
  refine lv_iconst (v := 0) hx hb dX9_isProcedure_1 (by decide) ?_
  refine lv_aload_n hx hb dX9_isProcedure_2 rfl (lv_at hl 0 rfl) ?_
  refine xg (ci := 9) S inX9 rfl hK hP mW_0 1 (by decide) mF_1 kw_6_149 rfl dX9_isProcedure_3 ?_
  refine lv_iconst (v := 1) hx hb dX9_isProcedure_6 (by decide) ?_
  refine xisub (v := 0) S dX9_isProcedure_7 (by decide) ?_
  refine rdS (As := [.int x1, .int 0, .int 0]) S (c_X9_isIn_1 l D cI cZ cJ o q x1 lo_x1) ms_X9_isIn kw_7_101 ⟨rfl, rfl⟩ ⟨Nat.le_of_ble_eq_true rfl, Nat.le_of_ble_eq_true rfl⟩ hP hK hl.1 (Nat.le_of_ble_eq_true rfl) ⟨Nat.le_of_ble_eq_true rfl, Nat.le_of_ble_eq_true rfl⟩ dX9_isProcedure_8 ?_
  exact rdEndZ S hr hlocks dX9_isProcedure_11 rfl rfl

set_option maxHeartbeats 8000000 in
set_option maxRecDepth 100000 in
theorem c_X9_procedure_1 (l : Launch) (D : va_G) (cI cZ cJ : ClassId) (o : Nat) (q : Nat → Nat) (sz : Nat) (x1 : Int32) (x2 : Int32) (lo_x1 : 1 ≤ x1) : Met l yX9_procedure (uW yX9_procedure cX9_procedure 3 (some .int)) ({ frames := 2, cells := 0, slots := 0, locals := 43 }) (va_Pc [.ref o, .int x1, .int x2] (wS D (tyL cI cZ cJ) (mW o 0 q cI cZ) sz)) (wQi (0) D (mW o 1 q cI cZ) (va_A (mW o 0 q cI cZ) sz)) 0 0 (va_A (mW o 0 q cI cZ) sz) := by
  refine wStart (lv := [(0, .ref o), (1, .int x1), (2, .int x2)]) (Qc := fun A => wQi (0) D (mW o 1 q cI cZ) A) (by decide) (Nat.le_of_ble_eq_true rfl) rfl ?_
  intro p e s m args below meth c ls A H S hr hlocks hnm hl hK hP hD hS hA
  have hx := S.1
  have hb := S.2.1
  refine lv_aload_n hx hb dX9_procedure_0 rfl (lv_at hl 0 rfl) ?_
  refine lv_iconst (v := 0) hx hb dX9_procedure_1 (by decide) ?_
  refine xp (ci := 9) (v := .int 0) S inX9 tyX9 tyX9_ok nmX9 rfl hK hP hD hS mW_0 0 (by decide) kw_6_148 rfl rfl rfl rfl (Nat.le_of_ble_eq_true rfl) dX9_procedure_2 (fun H locs hP hD hS => ?_)
  have hP : va_P D vwCl (mW o 0 q cI cZ) H := hP
  have hD : va_D A (mW o 0 q cI cZ) := hD
  refine lv_aload_n hx hb dX9_procedure_5 rfl (lv_at hl 0 rfl) ?_
  refine lv_iload_n hx hb dX9_procedure_6 rfl (lv_at hl 1 rfl) ?_
  refine rdV (As := [.int x1]) (ci := 9) S (c_X9_isProcedure_1 l D cI cZ cJ o q x1 lo_x1) mi_X9_isProcedure kw_7_97 ⟨rfl, rfl⟩ ⟨Nat.le_of_ble_eq_true rfl, Nat.le_of_ble_eq_true rfl⟩ hP hK mW_0 rfl rfl hl.1 (Nat.le_of_ble_eq_true rfl) ⟨Nat.le_of_ble_eq_true rfl, Nat.le_of_ble_eq_true rfl⟩ dX9_procedure_7 ?_
  refine lv_if_ne (tgt := 19) hx hb dX9_procedure_10 (by decide) (fun c => absurd c (by decide)) (fun _ => ?_)
  refine lv_aload_n hx hb dX9_procedure_13 rfl (lv_at hl 0 rfl) ?_
  refine lv_iconst (v := 1) hx hb dX9_procedure_14 (by decide) ?_
  refine wrV (As := [.int 1]) (ci := 9) S (c_X9_no_0 l D cI cZ cJ o q H.size) mi_X9_no kw_7_104 rfl rfl ⟨Nat.le_of_ble_eq_true rfl, Nat.le_of_ble_eq_true rfl⟩ hP hD hK hS hA mW_0 rfl rfl hl.1 (Nat.le_of_ble_eq_true rfl) ⟨Nat.le_of_ble_eq_true rfl, Nat.le_of_ble_eq_true rfl⟩ dX9_procedure_15 (fun H locs hz hP hD hS => ?_)
  exact wEnd S hr hlocks hP hD hS (Nat.le_of_ble_eq_true rfl) (Nat.le_of_ble_eq_true rfl) dX9_procedure_18 rfl

set_option maxHeartbeats 8000000 in
set_option maxRecDepth 100000 in
theorem h_procedure_2 (l : Launch) (D : va_G) (cI cZ cJ : ClassId) (o : Nat) (u : Nat → Nat) (ao : Nat) (hst : l.stackTraces = false) (ra ga : Nat → Nat) (sz : Nat) (x2 : Int32) (hi_x2 : x2 ≤ (-1)) : vx_Met l yL_procedure (uWh yL_procedure cL_procedure 5 (some .int) [(0, 10, 13, 13), (0, 10, 17, 15), (0, 10, 21, 17)]) ({ frames := 8, cells := 1, slots := 6, locals := 124 }) (va_Pc [.ref o, .int 0, .int x2, .ref ao] (lS ra ga D (tyL cI cZ cJ) ((xW o u cI cZ cJ) ++ [(ao, .inl (cJ, 1, .inr (.inl (fun _ => 0))))]) sz)) (wQi (2) D ((xW o u cI cZ cJ) ++ [(ao, .inl (cJ, 1, .inr (.inl (fun _ => 0))))]) (va_A ((xW o u cI cZ cJ) ++ [(ao, .inl (cJ, 1, .inr (.inl (fun _ => 0))))]) sz)) (xN (va_A ((xW o u cI cZ cJ) ++ [(ao, .inl (cJ, 1, .inr (.inl (fun _ => 0))))]) sz)) 1 6 (va_A ((xW o u cI cZ cJ) ++ [(ao, .inl (cJ, 1, .inr (.inl (fun _ => 0))))]) sz) := by
  refine hStart (l := l) (y := yL_procedure) (b := cL_procedure) (n := 5) (r := (some .int)) (hh := [(0, 10, 13, 13), (0, 10, 17, 15), (0, 10, 21, 17)]) (rm := ({ frames := 8, cells := 1, slots := 6, locals := 124 })) (mc := 1) (ms := 6) (ra := ra) (ga := ga) (D := D) (tys := tyL cI cZ cJ) (ws := ((xW o u cI cZ cJ) ++ [(ao, .inl (cJ, 1, .inr (.inl (fun _ => 0))))])) (av := [.ref o, .int 0, .int x2, .ref ao]) (sz := sz) (lv := [(0, .ref o), (1, .int 0), (2, .int x2), (3, .ref ao)]) (Qc := fun A => wQi (2) D ((xW o u cI cZ cJ) ++ [(ao, .inl (cJ, 1, .inr (.inl (fun _ => 0))))]) A) (by decide) (Nat.le_of_ble_eq_true rfl) rfl ?_
  intro p e s m args below meth c ls A H S hr hlocks htab hl hK hP hD hS hA hB hC
  have hx := S.1
  have hb := S.2.1
  refine lv_aload_n hx hb dL_procedure_0 rfl (lv_at hl 3 rfl) ?_
  refine lv_iconst (v := 0) hx hb dL_procedure_1 (by decide) ?_
  refine lv_aload_n hx hb dL_procedure_2 rfl (lv_at hl 0 rfl) ?_
  refine lv_iload_n hx hb dL_procedure_3 rfl (lv_at hl 1 rfl) ?_
  refine lv_iload_n hx hb dL_procedure_4 rfl (lv_at hl 2 rfl) ?_
  refine cVi [] [(ao, .inl (cJ, 1, .inr (.inl (fun _ => 0))))] (As := [.int 0, .int x2]) (ci := 8) S (c_X8_procedure_2 l D cI cZ cJ o u hst ra ga H.size x2 hi_x2) mi_X8_procedure kw_5_179 rfl rfl ⟨Nat.le_of_ble_eq_true rfl, Nat.le_of_ble_eq_true rfl⟩ hP hD hK hS hA hB xW_0 rfl rfl hl.1 (Nat.le_of_ble_eq_true rfl) ⟨Nat.le_of_ble_eq_true rfl, Nat.le_of_ble_eq_true rfl⟩ dL_procedure_5 (fun ce q9 H locs hz hP hD hS hce hcv hcl => ?_)
  refine vx_catch (name := "java/lang/IllegalArgumentException") S.2.2.2.1 [(⟨0, 10, 13, 13⟩ : ExceptionTableEntry)] (⟨0, 10, 17, 15⟩ : ExceptionTableEntry) [(⟨0, 10, 21, 17⟩ : ExceptionTableEntry)] (htab.trans rfl) (List.forall_mem_cons.mpr ⟨Or.inr ⟨by decide, "java/lang/IndexOutOfBoundsException", S.2.2.2.2 _ kw_5_176, hC.1⟩, (fun _ h => absurd h List.not_mem_nil)⟩) (by decide) (by decide) (S.2.2.2.2 _ kw_5_177) (va_Nw.use rfl hB.c1) hce hcv hcl ?_
  have hP : va_P D vwCl ((xW o u cI cZ cJ) ++ [(ao, .inl (cJ, 1, .inr (.inl (fun _ => 0))))]) H := hP
  have hD : va_D A ((xW o u cI cZ cJ) ++ [(ao, .inl (cJ, 1, .inr (.inl (fun _ => 0))))]) := hD
  refine lv_astore (lv' := [(4, .ref q9), (0, .ref o), (1, .int 0), (2, .int x2), (3, .ref ao)]) hx hb dL_procedure_17 hl (by decide) rfl (fun ls hl => ?_)
  refine lv_iconst (v := 2) hx hb dL_procedure_19 (by decide) ?_
  exact vx_ret (wEnd S hr hlocks hP hD hS (Nat.le_of_ble_eq_true rfl) (Nat.le_of_ble_eq_true rfl) dL_procedure_20 rfl)

set_option maxHeartbeats 8000000 in
set_option maxRecDepth 100000 in
theorem c_X9_isIn_2 (l : Launch) (D : va_G) (cI cZ cJ : ClassId) (o : Nat) (q : Nat → Nat) : Met l yX9_isIn (uW yX9_isIn cX9_isIn 3 (some .boolean)) ({ frames := 0, cells := 0, slots := 0, locals := 0 }) (va_Pc [.int 0, .int 0, .int 0] (pS D (tyL cI cZ cJ) (mW o 0 q cI cZ))) (QcRead (1)) 0 0 (fun _ => False) := by
  refine rdStart (lv := [(0, .int 0), (1, .int 0), (2, .int 0)]) (by decide) (Nat.le_of_ble_eq_true rfl) rfl ?_
  intro p e s m args below meth c ls S hr hlocks hl hP hK
  have hx := S.1
  have hb := S.2.1
  refine lv_iload_n hx hb dX9_isIn_0 rfl (lv_at hl 0 rfl) ?_
  refine lv_iload_n hx hb dX9_isIn_1 rfl (lv_at hl 1 rfl) ?_
  refine lv_icmp_lt (tgt := 14) hx hb dX9_isIn_2 (by decide) (fun c => absurd c (by decide)) (fun _ => ?_)
  refine lv_iload_n hx hb dX9_isIn_5 rfl (lv_at hl 0 rfl) ?_
  refine lv_iload_n hx hb dX9_isIn_6 rfl (lv_at hl 2 rfl) ?_
  refine lv_icmp_gt (tgt := 14) hx hb dX9_isIn_7 (by decide) (fun c => absurd c (by decide)) (fun _ => ?_)
  refine lv_iconst (v := 1) hx hb dX9_isIn_10 (by decide) ?_
  refine lv_goto (tgt := 15) hx hb dX9_isIn_11 (by decide) ?_
  exact rdEndZ S hr hlocks dX9_isIn_15 rfl rfl

set_option maxHeartbeats 8000000 in
set_option maxRecDepth 100000 in
theorem c_X9_isProcedure_2 (l : Launch) (D : va_G) (cI cZ cJ : ClassId) (o : Nat) (q : Nat → Nat) : Met l yX9_isProcedure (uW yX9_isProcedure cX9_isProcedure 2 (some .boolean)) ({ frames := 1, cells := 0, slots := 0, locals := 22 }) (va_Pc [.ref o, .int 0] (pS D (tyL cI cZ cJ) (mW o 0 q cI cZ))) (QcRead (1)) 0 0 (fun _ => False) := by
  refine rdStart (lv := [(0, .ref o), (1, .int 0)]) (by decide) (Nat.le_of_ble_eq_true rfl) rfl ?_
  intro p e s m args below meth c ls S hr hlocks hl hP hK
  have hx := S.1
  have hb := S.2.1
  refine lv_iload_n hx hb dX9_isProcedure_0 rfl (lv_at hl 1 rfl) ?_
  refine lv_iconst (v := 0) hx hb dX9_isProcedure_1 (by decide) ?_
  refine lv_aload_n hx hb dX9_isProcedure_2 rfl (lv_at hl 0 rfl) ?_
  refine xg (ci := 9) S inX9 rfl hK hP mW_0 1 (by decide) mF_1 kw_6_149 rfl dX9_isProcedure_3 ?_
  refine lv_iconst (v := 1) hx hb dX9_isProcedure_6 (by decide) ?_
  refine xisub (v := 0) S dX9_isProcedure_7 (by decide) ?_
  refine rdS (As := [.int 0, .int 0, .int 0]) S (c_X9_isIn_2 l D cI cZ cJ o q) ms_X9_isIn kw_7_101 ⟨rfl, rfl⟩ ⟨Nat.le_of_ble_eq_true rfl, Nat.le_of_ble_eq_true rfl⟩ hP hK hl.1 (Nat.le_of_ble_eq_true rfl) ⟨Nat.le_of_ble_eq_true rfl, Nat.le_of_ble_eq_true rfl⟩ dX9_isProcedure_8 ?_
  exact rdEndZ S hr hlocks dX9_isProcedure_11 rfl rfl

set_option maxHeartbeats 8000000 in
set_option maxRecDepth 100000 in
theorem c_X9_isIn_3 (l : Launch) (D : va_G) (cI cZ cJ : ClassId) (o : Nat) (q : Nat → Nat) (x2 : Int32) (hi_x2 : x2 ≤ (-1)) : Met l yX9_isIn (uW yX9_isIn cX9_isIn 3 (some .boolean)) ({ frames := 0, cells := 0, slots := 0, locals := 0 }) (va_Pc [.int x2, .int 0, .int 15] (pS D (tyL cI cZ cJ) (mW o 0 q cI cZ))) (QcRead (0)) 0 0 (fun _ => False) := by
  refine rdStart (lv := [(0, .int x2), (1, .int 0), (2, .int 15)]) (by decide) (Nat.le_of_ble_eq_true rfl) rfl ?_
  intro p e s m args below meth c ls S hr hlocks hl hP hK
  have hx := S.1
  have hb := S.2.1
  refine lv_iload_n hx hb dX9_isIn_0 rfl (lv_at hl 0 rfl) ?_
  refine lv_iload_n hx hb dX9_isIn_1 rfl (lv_at hl 1 rfl) ?_
  refine lv_icmp_lt (tgt := 14) hx hb dX9_isIn_2 (by decide) (fun _ => ?_) (fun c => absurd (b_lt hi_x2 (by decide)) c)
  refine lv_iconst (v := 0) hx hb dX9_isIn_14 (by decide) ?_
  exact rdEndZ S hr hlocks dX9_isIn_15 rfl rfl

set_option maxHeartbeats 8000000 in
set_option maxRecDepth 100000 in
theorem c_X9_isName_0 (l : Launch) (D : va_G) (cI cZ cJ : ClassId) (o : Nat) (q : Nat → Nat) (x2 : Int32) (hi_x2 : x2 ≤ (-1)) : Met l yX9_isName (uW yX9_isName cX9_isName 1 (some .boolean)) ({ frames := 1, cells := 0, slots := 0, locals := 22 }) (va_Pc [.int x2] (pS D (tyL cI cZ cJ) (mW o 0 q cI cZ))) (QcRead (0)) 0 0 (fun _ => False) := by
  refine rdStart (lv := [(0, .int x2)]) (by decide) (Nat.le_of_ble_eq_true rfl) rfl ?_
  intro p e s m args below meth c ls S hr hlocks hl hP hK
  have hx := S.1
  have hb := S.2.1
  refine lv_iload_n hx hb dX9_isName_0 rfl (lv_at hl 0 rfl) ?_
  refine lv_iconst (v := 0) hx hb dX9_isName_1 (by decide) ?_
  refine lv_bipush (v := 15) hx hb dX9_isName_2 (by decide) ?_
  refine rdS (As := [.int x2, .int 0, .int 15]) S (c_X9_isIn_3 l D cI cZ cJ o q x2 hi_x2) ms_X9_isIn kw_7_101 ⟨rfl, rfl⟩ ⟨Nat.le_of_ble_eq_true rfl, Nat.le_of_ble_eq_true rfl⟩ hP hK hl.1 (Nat.le_of_ble_eq_true rfl) ⟨Nat.le_of_ble_eq_true rfl, Nat.le_of_ble_eq_true rfl⟩ dX9_isName_4 ?_
  exact rdEndZ S hr hlocks dX9_isName_7 rfl rfl

set_option maxHeartbeats 8000000 in
set_option maxRecDepth 100000 in
theorem c_X9_no_1 (l : Launch) (D : va_G) (cI cZ cJ : ClassId) (o : Nat) (q : Nat → Nat) (sz : Nat) : Met l yX9_no (uW yX9_no cX9_no 2 (some .int)) ({ frames := 0, cells := 0, slots := 0, locals := 0 }) (va_Pc [.ref o, .int 2] (wS D (tyL cI cZ cJ) (mW o 0 q cI cZ) sz)) (wQi (0) D (mW o 2 q cI cZ) (va_A (mW o 0 q cI cZ) sz)) 0 0 (va_A (mW o 0 q cI cZ) sz) := by
  refine wStart (lv := [(0, .ref o), (1, .int 2)]) (Qc := fun A => wQi (0) D (mW o 2 q cI cZ) A) (by decide) (Nat.le_of_ble_eq_true rfl) rfl ?_
  intro p e s m args below meth c ls A H S hr hlocks hnm hl hK hP hD hS hA
  have hx := S.1
  have hb := S.2.1
  refine lv_aload_n hx hb dX9_no_0 rfl (lv_at hl 0 rfl) ?_
  refine lv_iload_n hx hb dX9_no_1 rfl (lv_at hl 1 rfl) ?_
  refine xp (ci := 9) (v := .int 2) S inX9 tyX9 tyX9_ok nmX9 rfl hK hP hD hS mW_0 0 (by decide) kw_6_148 rfl rfl rfl rfl (Nat.le_of_ble_eq_true rfl) dX9_no_2 (fun H locs hP hD hS => ?_)
  have hP : va_P D vwCl (mW o 2 q cI cZ) H := hP
  have hD : va_D A (mW o 2 q cI cZ) := hD
  refine lv_iconst (v := 0) hx hb dX9_no_5 (by decide) ?_
  exact wEnd S hr hlocks hP hD hS (Nat.le_of_ble_eq_true rfl) (Nat.le_of_ble_eq_true rfl) dX9_no_6 rfl

set_option maxHeartbeats 8000000 in
set_option maxRecDepth 100000 in
theorem c_X9_procedure_2 (l : Launch) (D : va_G) (cI cZ cJ : ClassId) (o : Nat) (q : Nat → Nat) (sz : Nat) (x2 : Int32) (hi_x2 : x2 ≤ (-1)) : Met l yX9_procedure (uW yX9_procedure cX9_procedure 3 (some .int)) ({ frames := 2, cells := 0, slots := 0, locals := 43 }) (va_Pc [.ref o, .int 0, .int x2] (wS D (tyL cI cZ cJ) (mW o 0 q cI cZ) sz)) (wQi (0) D (mW o 2 q cI cZ) (va_A (mW o 0 q cI cZ) sz)) 0 0 (va_A (mW o 0 q cI cZ) sz) := by
  refine wStart (lv := [(0, .ref o), (1, .int 0), (2, .int x2)]) (Qc := fun A => wQi (0) D (mW o 2 q cI cZ) A) (by decide) (Nat.le_of_ble_eq_true rfl) rfl ?_
  intro p e s m args below meth c ls A H S hr hlocks hnm hl hK hP hD hS hA
  have hx := S.1
  have hb := S.2.1
  refine lv_aload_n hx hb dX9_procedure_0 rfl (lv_at hl 0 rfl) ?_
  refine lv_iconst (v := 0) hx hb dX9_procedure_1 (by decide) ?_
  refine xp (ci := 9) (v := .int 0) S inX9 tyX9 tyX9_ok nmX9 rfl hK hP hD hS mW_0 0 (by decide) kw_6_148 rfl rfl rfl rfl (Nat.le_of_ble_eq_true rfl) dX9_procedure_2 (fun H locs hP hD hS => ?_)
  have hP : va_P D vwCl (mW o 0 q cI cZ) H := hP
  have hD : va_D A (mW o 0 q cI cZ) := hD
  refine lv_aload_n hx hb dX9_procedure_5 rfl (lv_at hl 0 rfl) ?_
  refine lv_iload_n hx hb dX9_procedure_6 rfl (lv_at hl 1 rfl) ?_
  refine rdV (As := [.int 0]) (ci := 9) S (c_X9_isProcedure_2 l D cI cZ cJ o q) mi_X9_isProcedure kw_7_97 ⟨rfl, rfl⟩ ⟨Nat.le_of_ble_eq_true rfl, Nat.le_of_ble_eq_true rfl⟩ hP hK mW_0 rfl rfl hl.1 (Nat.le_of_ble_eq_true rfl) ⟨Nat.le_of_ble_eq_true rfl, Nat.le_of_ble_eq_true rfl⟩ dX9_procedure_7 ?_
  refine lv_if_ne (tgt := 19) hx hb dX9_procedure_10 (by decide) (fun _ => ?_) (fun c => absurd c (by decide))
  refine lv_iload_n hx hb dX9_procedure_19 rfl (lv_at hl 2 rfl) ?_
  refine rdS (As := [.int x2]) S (c_X9_isName_0 l D cI cZ cJ o q x2 hi_x2) ms_X9_isName kw_7_108 ⟨rfl, rfl⟩ ⟨Nat.le_of_ble_eq_true rfl, Nat.le_of_ble_eq_true rfl⟩ hP hK hl.1 (Nat.le_of_ble_eq_true rfl) ⟨Nat.le_of_ble_eq_true rfl, Nat.le_of_ble_eq_true rfl⟩ dX9_procedure_20 ?_
  refine lv_if_ne (tgt := 32) hx hb dX9_procedure_23 (by decide) (fun c => absurd c (by decide)) (fun _ => ?_)
  refine lv_aload_n hx hb dX9_procedure_26 rfl (lv_at hl 0 rfl) ?_
  refine lv_iconst (v := 2) hx hb dX9_procedure_27 (by decide) ?_
  refine wrV (As := [.int 2]) (ci := 9) S (c_X9_no_1 l D cI cZ cJ o q H.size) mi_X9_no kw_7_104 rfl rfl ⟨Nat.le_of_ble_eq_true rfl, Nat.le_of_ble_eq_true rfl⟩ hP hD hK hS hA mW_0 rfl rfl hl.1 (Nat.le_of_ble_eq_true rfl) ⟨Nat.le_of_ble_eq_true rfl, Nat.le_of_ble_eq_true rfl⟩ dX9_procedure_28 (fun H locs hz hP hD hS => ?_)
  exact wEnd S hr hlocks hP hD hS (Nat.le_of_ble_eq_true rfl) (Nat.le_of_ble_eq_true rfl) dX9_procedure_31 rfl

set_option maxHeartbeats 8000000 in
set_option maxRecDepth 100000 in
theorem c_X9_thrown_1 (l : Launch) (D : va_G) (cI cZ cJ : ClassId) (o : Nat) (q : Nat → Nat) : Met l yX9_thrown (uW yX9_thrown cX9_thrown 1 (some .int)) ({ frames := 0, cells := 0, slots := 0, locals := 0 }) (va_Pc [.ref o] (pS D (tyL cI cZ cJ) (mW o 2 q cI cZ))) (QcRead (2)) 0 0 (fun _ => False) := by
  refine rdStart (lv := [(0, .ref o)]) (by decide) (Nat.le_of_ble_eq_true rfl) rfl ?_
  intro p e s m args below meth c ls S hr hlocks hl hP hK
  have hx := S.1
  have hb := S.2.1
  refine lv_aload_n hx hb dX9_thrown_0 rfl (lv_at hl 0 rfl) ?_
  refine xg (ci := 9) S inX9 rfl hK hP mW_0 0 (by decide) mF_0 kw_6_148 rfl dX9_thrown_1 ?_
  exact rdEnd S hr hlocks dX9_thrown_4 rfl

set_option maxHeartbeats 8000000 in
set_option maxRecDepth 100000 in
theorem h_procedure_3 (l : Launch) (D : va_G) (cI cZ cJ : ClassId) (o : Nat) (u : Nat → Nat) (ao : Nat) (hst : l.stackTraces = false) (ra ga : Nat → Nat) (sz : Nat) (x2 : Int32) (lo_x2 : 16 ≤ x2) : vx_Met l yL_procedure (uWh yL_procedure cL_procedure 5 (some .int) [(0, 10, 13, 13), (0, 10, 17, 15), (0, 10, 21, 17)]) ({ frames := 8, cells := 1, slots := 6, locals := 124 }) (va_Pc [.ref o, .int 0, .int x2, .ref ao] (lS ra ga D (tyL cI cZ cJ) ((xW o u cI cZ cJ) ++ [(ao, .inl (cJ, 1, .inr (.inl (fun _ => 0))))]) sz)) (wQi (2) D ((xW o u cI cZ cJ) ++ [(ao, .inl (cJ, 1, .inr (.inl (fun _ => 0))))]) (va_A ((xW o u cI cZ cJ) ++ [(ao, .inl (cJ, 1, .inr (.inl (fun _ => 0))))]) sz)) (xN (va_A ((xW o u cI cZ cJ) ++ [(ao, .inl (cJ, 1, .inr (.inl (fun _ => 0))))]) sz)) 1 6 (va_A ((xW o u cI cZ cJ) ++ [(ao, .inl (cJ, 1, .inr (.inl (fun _ => 0))))]) sz) := by
  refine hStart (l := l) (y := yL_procedure) (b := cL_procedure) (n := 5) (r := (some .int)) (hh := [(0, 10, 13, 13), (0, 10, 17, 15), (0, 10, 21, 17)]) (rm := ({ frames := 8, cells := 1, slots := 6, locals := 124 })) (mc := 1) (ms := 6) (ra := ra) (ga := ga) (D := D) (tys := tyL cI cZ cJ) (ws := ((xW o u cI cZ cJ) ++ [(ao, .inl (cJ, 1, .inr (.inl (fun _ => 0))))])) (av := [.ref o, .int 0, .int x2, .ref ao]) (sz := sz) (lv := [(0, .ref o), (1, .int 0), (2, .int x2), (3, .ref ao)]) (Qc := fun A => wQi (2) D ((xW o u cI cZ cJ) ++ [(ao, .inl (cJ, 1, .inr (.inl (fun _ => 0))))]) A) (by decide) (Nat.le_of_ble_eq_true rfl) rfl ?_
  intro p e s m args below meth c ls A H S hr hlocks htab hl hK hP hD hS hA hB hC
  have hx := S.1
  have hb := S.2.1
  refine lv_aload_n hx hb dL_procedure_0 rfl (lv_at hl 3 rfl) ?_
  refine lv_iconst (v := 0) hx hb dL_procedure_1 (by decide) ?_
  refine lv_aload_n hx hb dL_procedure_2 rfl (lv_at hl 0 rfl) ?_
  refine lv_iload_n hx hb dL_procedure_3 rfl (lv_at hl 1 rfl) ?_
  refine lv_iload_n hx hb dL_procedure_4 rfl (lv_at hl 2 rfl) ?_
  refine cVi [] [(ao, .inl (cJ, 1, .inr (.inl (fun _ => 0))))] (As := [.int 0, .int x2]) (ci := 8) S (c_X8_procedure_3 l D cI cZ cJ o u hst ra ga H.size x2 lo_x2) mi_X8_procedure kw_5_179 rfl rfl ⟨Nat.le_of_ble_eq_true rfl, Nat.le_of_ble_eq_true rfl⟩ hP hD hK hS hA hB xW_0 rfl rfl hl.1 (Nat.le_of_ble_eq_true rfl) ⟨Nat.le_of_ble_eq_true rfl, Nat.le_of_ble_eq_true rfl⟩ dL_procedure_5 (fun ce q9 H locs hz hP hD hS hce hcv hcl => ?_)
  refine vx_catch (name := "java/lang/IllegalArgumentException") S.2.2.2.1 [(⟨0, 10, 13, 13⟩ : ExceptionTableEntry)] (⟨0, 10, 17, 15⟩ : ExceptionTableEntry) [(⟨0, 10, 21, 17⟩ : ExceptionTableEntry)] (htab.trans rfl) (List.forall_mem_cons.mpr ⟨Or.inr ⟨by decide, "java/lang/IndexOutOfBoundsException", S.2.2.2.2 _ kw_5_176, hC.1⟩, (fun _ h => absurd h List.not_mem_nil)⟩) (by decide) (by decide) (S.2.2.2.2 _ kw_5_177) (va_Nw.use rfl hB.c1) hce hcv hcl ?_
  have hP : va_P D vwCl ((xW o u cI cZ cJ) ++ [(ao, .inl (cJ, 1, .inr (.inl (fun _ => 0))))]) H := hP
  have hD : va_D A ((xW o u cI cZ cJ) ++ [(ao, .inl (cJ, 1, .inr (.inl (fun _ => 0))))]) := hD
  refine lv_astore (lv' := [(4, .ref q9), (0, .ref o), (1, .int 0), (2, .int x2), (3, .ref ao)]) hx hb dL_procedure_17 hl (by decide) rfl (fun ls hl => ?_)
  refine lv_iconst (v := 2) hx hb dL_procedure_19 (by decide) ?_
  exact vx_ret (wEnd S hr hlocks hP hD hS (Nat.le_of_ble_eq_true rfl) (Nat.le_of_ble_eq_true rfl) dL_procedure_20 rfl)

set_option maxHeartbeats 8000000 in
set_option maxRecDepth 100000 in
theorem c_X9_isIn_4 (l : Launch) (D : va_G) (cI cZ cJ : ClassId) (o : Nat) (q : Nat → Nat) (x2 : Int32) (lo_x2 : 16 ≤ x2) : Met l yX9_isIn (uW yX9_isIn cX9_isIn 3 (some .boolean)) ({ frames := 0, cells := 0, slots := 0, locals := 0 }) (va_Pc [.int x2, .int 0, .int 15] (pS D (tyL cI cZ cJ) (mW o 0 q cI cZ))) (QcRead (0)) 0 0 (fun _ => False) := by
  refine rdStart (lv := [(0, .int x2), (1, .int 0), (2, .int 15)]) (by decide) (Nat.le_of_ble_eq_true rfl) rfl ?_
  intro p e s m args below meth c ls S hr hlocks hl hP hK
  have hx := S.1
  have hb := S.2.1
  refine lv_iload_n hx hb dX9_isIn_0 rfl (lv_at hl 0 rfl) ?_
  refine lv_iload_n hx hb dX9_isIn_1 rfl (lv_at hl 1 rfl) ?_
  refine lv_icmp_lt (tgt := 14) hx hb dX9_isIn_2 (by decide) (fun c => absurd c (b_nlt lo_x2 (by decide))) (fun _ => ?_)
  refine lv_iload_n hx hb dX9_isIn_5 rfl (lv_at hl 0 rfl) ?_
  refine lv_iload_n hx hb dX9_isIn_6 rfl (lv_at hl 2 rfl) ?_
  refine lv_icmp_gt (tgt := 14) hx hb dX9_isIn_7 (by decide) (fun _ => ?_) (fun c => absurd (b_gt lo_x2 (by decide)) c)
  refine lv_iconst (v := 0) hx hb dX9_isIn_14 (by decide) ?_
  exact rdEndZ S hr hlocks dX9_isIn_15 rfl rfl

set_option maxHeartbeats 8000000 in
set_option maxRecDepth 100000 in
theorem c_X9_isName_1 (l : Launch) (D : va_G) (cI cZ cJ : ClassId) (o : Nat) (q : Nat → Nat) (x2 : Int32) (lo_x2 : 16 ≤ x2) : Met l yX9_isName (uW yX9_isName cX9_isName 1 (some .boolean)) ({ frames := 1, cells := 0, slots := 0, locals := 22 }) (va_Pc [.int x2] (pS D (tyL cI cZ cJ) (mW o 0 q cI cZ))) (QcRead (0)) 0 0 (fun _ => False) := by
  refine rdStart (lv := [(0, .int x2)]) (by decide) (Nat.le_of_ble_eq_true rfl) rfl ?_
  intro p e s m args below meth c ls S hr hlocks hl hP hK
  have hx := S.1
  have hb := S.2.1
  refine lv_iload_n hx hb dX9_isName_0 rfl (lv_at hl 0 rfl) ?_
  refine lv_iconst (v := 0) hx hb dX9_isName_1 (by decide) ?_
  refine lv_bipush (v := 15) hx hb dX9_isName_2 (by decide) ?_
  refine rdS (As := [.int x2, .int 0, .int 15]) S (c_X9_isIn_4 l D cI cZ cJ o q x2 lo_x2) ms_X9_isIn kw_7_101 ⟨rfl, rfl⟩ ⟨Nat.le_of_ble_eq_true rfl, Nat.le_of_ble_eq_true rfl⟩ hP hK hl.1 (Nat.le_of_ble_eq_true rfl) ⟨Nat.le_of_ble_eq_true rfl, Nat.le_of_ble_eq_true rfl⟩ dX9_isName_4 ?_
  exact rdEndZ S hr hlocks dX9_isName_7 rfl rfl

set_option maxHeartbeats 8000000 in
set_option maxRecDepth 100000 in
theorem c_X9_procedure_3 (l : Launch) (D : va_G) (cI cZ cJ : ClassId) (o : Nat) (q : Nat → Nat) (sz : Nat) (x2 : Int32) (lo_x2 : 16 ≤ x2) : Met l yX9_procedure (uW yX9_procedure cX9_procedure 3 (some .int)) ({ frames := 2, cells := 0, slots := 0, locals := 43 }) (va_Pc [.ref o, .int 0, .int x2] (wS D (tyL cI cZ cJ) (mW o 0 q cI cZ) sz)) (wQi (0) D (mW o 2 q cI cZ) (va_A (mW o 0 q cI cZ) sz)) 0 0 (va_A (mW o 0 q cI cZ) sz) := by
  refine wStart (lv := [(0, .ref o), (1, .int 0), (2, .int x2)]) (Qc := fun A => wQi (0) D (mW o 2 q cI cZ) A) (by decide) (Nat.le_of_ble_eq_true rfl) rfl ?_
  intro p e s m args below meth c ls A H S hr hlocks hnm hl hK hP hD hS hA
  have hx := S.1
  have hb := S.2.1
  refine lv_aload_n hx hb dX9_procedure_0 rfl (lv_at hl 0 rfl) ?_
  refine lv_iconst (v := 0) hx hb dX9_procedure_1 (by decide) ?_
  refine xp (ci := 9) (v := .int 0) S inX9 tyX9 tyX9_ok nmX9 rfl hK hP hD hS mW_0 0 (by decide) kw_6_148 rfl rfl rfl rfl (Nat.le_of_ble_eq_true rfl) dX9_procedure_2 (fun H locs hP hD hS => ?_)
  have hP : va_P D vwCl (mW o 0 q cI cZ) H := hP
  have hD : va_D A (mW o 0 q cI cZ) := hD
  refine lv_aload_n hx hb dX9_procedure_5 rfl (lv_at hl 0 rfl) ?_
  refine lv_iload_n hx hb dX9_procedure_6 rfl (lv_at hl 1 rfl) ?_
  refine rdV (As := [.int 0]) (ci := 9) S (c_X9_isProcedure_2 l D cI cZ cJ o q) mi_X9_isProcedure kw_7_97 ⟨rfl, rfl⟩ ⟨Nat.le_of_ble_eq_true rfl, Nat.le_of_ble_eq_true rfl⟩ hP hK mW_0 rfl rfl hl.1 (Nat.le_of_ble_eq_true rfl) ⟨Nat.le_of_ble_eq_true rfl, Nat.le_of_ble_eq_true rfl⟩ dX9_procedure_7 ?_
  refine lv_if_ne (tgt := 19) hx hb dX9_procedure_10 (by decide) (fun _ => ?_) (fun c => absurd c (by decide))
  refine lv_iload_n hx hb dX9_procedure_19 rfl (lv_at hl 2 rfl) ?_
  refine rdS (As := [.int x2]) S (c_X9_isName_1 l D cI cZ cJ o q x2 lo_x2) ms_X9_isName kw_7_108 ⟨rfl, rfl⟩ ⟨Nat.le_of_ble_eq_true rfl, Nat.le_of_ble_eq_true rfl⟩ hP hK hl.1 (Nat.le_of_ble_eq_true rfl) ⟨Nat.le_of_ble_eq_true rfl, Nat.le_of_ble_eq_true rfl⟩ dX9_procedure_20 ?_
  refine lv_if_ne (tgt := 32) hx hb dX9_procedure_23 (by decide) (fun c => absurd c (by decide)) (fun _ => ?_)
  refine lv_aload_n hx hb dX9_procedure_26 rfl (lv_at hl 0 rfl) ?_
  refine lv_iconst (v := 2) hx hb dX9_procedure_27 (by decide) ?_
  refine wrV (As := [.int 2]) (ci := 9) S (c_X9_no_1 l D cI cZ cJ o q H.size) mi_X9_no kw_7_104 rfl rfl ⟨Nat.le_of_ble_eq_true rfl, Nat.le_of_ble_eq_true rfl⟩ hP hD hK hS hA mW_0 rfl rfl hl.1 (Nat.le_of_ble_eq_true rfl) ⟨Nat.le_of_ble_eq_true rfl, Nat.le_of_ble_eq_true rfl⟩ dX9_procedure_28 (fun H locs hz hP hD hS => ?_)
  exact wEnd S hr hlocks hP hD hS (Nat.le_of_ble_eq_true rfl) (Nat.le_of_ble_eq_true rfl) dX9_procedure_31 rfl

set_option maxHeartbeats 8000000 in
set_option maxRecDepth 100000 in
theorem h_procedure_4 (l : Launch) (D : va_G) (cI cZ cJ : ClassId) (o : Nat) (u : Nat → Nat) (ao : Nat) (hst : l.stackTraces = false) (ra ga : Nat → Nat) (sz : Nat) (x2 : Int32) (lo_x2 : 0 ≤ x2) (hi_x2 : x2 ≤ 15) : vx_Met l yL_procedure (uWh yL_procedure cL_procedure 5 (some .int) [(0, 10, 13, 13), (0, 10, 17, 15), (0, 10, 21, 17)]) ({ frames := 3, cells := 0, slots := 0, locals := 70 }) (va_Pc [.ref o, .int 0, .int x2, .ref ao] (lS ra ga D (tyL cI cZ cJ) ((xW o u cI cZ cJ) ++ [(ao, .inl (cJ, 1, .inr (.inl (fun _ => 0))))]) sz)) (wQi (0) D ((((((((xW o u cI cZ cJ).set 1 ((u 0), .inr (1, ([.int 1, .ref (u 1), .ref (u 2), .ref (u 3), .ref (u 4), .ref (u 5), .ref (u 6), .ref (u 7), .ref (u 8), .ref (u 9), .ref (u 10), .ref (u 11)].set 0 (.int 2))))).set 2 ((u 1), .inl (cI, 10, .inl (upd (upd (fun _ => 0) (0 : Int32).toNatClampNeg (-1)) (1 : Int32).toNatClampNeg 0)))).set 3 ((u 2), .inl (cI, 10, .inl (upd (upd (fun _ => 0) (0 : Int32).toNatClampNeg (-1)) (1 : Int32).toNatClampNeg x2)))).set 8 ((u 7), .inl (cI, 160, .inl (upd (fun _ => (-1)) (x2 : Int32).toNatClampNeg 10)))).set 9 ((u 8), .inl (cI, 160, .inl (upd (fun _ => 0) (x2 : Int32).toNatClampNeg (-1))))).set 10 ((u 9), .inl (cI, 160, .inl (upd (fun _ => 0) (x2 : Int32).toNatClampNeg 1)))) ++ [(ao, .inl (cJ, 1, .inr (.inl (vp_updL (fun _ => 0) (0 : Int32).toNatClampNeg 1))))]) (va_A ((xW o u cI cZ cJ) ++ [(ao, .inl (cJ, 1, .inr (.inl (fun _ => 0))))]) sz)) (xN (va_A ((xW o u cI cZ cJ) ++ [(ao, .inl (cJ, 1, .inr (.inl (fun _ => 0))))]) sz)) 0 0 (va_A ((xW o u cI cZ cJ) ++ [(ao, .inl (cJ, 1, .inr (.inl (fun _ => 0))))]) sz) := by
  refine hStart (l := l) (y := yL_procedure) (b := cL_procedure) (n := 5) (r := (some .int)) (hh := [(0, 10, 13, 13), (0, 10, 17, 15), (0, 10, 21, 17)]) (rm := ({ frames := 3, cells := 0, slots := 0, locals := 70 })) (mc := 0) (ms := 0) (ra := ra) (ga := ga) (D := D) (tys := tyL cI cZ cJ) (ws := ((xW o u cI cZ cJ) ++ [(ao, .inl (cJ, 1, .inr (.inl (fun _ => 0))))])) (av := [.ref o, .int 0, .int x2, .ref ao]) (sz := sz) (lv := [(0, .ref o), (1, .int 0), (2, .int x2), (3, .ref ao)]) (Qc := fun A => wQi (0) D ((((((((xW o u cI cZ cJ).set 1 ((u 0), .inr (1, ([.int 1, .ref (u 1), .ref (u 2), .ref (u 3), .ref (u 4), .ref (u 5), .ref (u 6), .ref (u 7), .ref (u 8), .ref (u 9), .ref (u 10), .ref (u 11)].set 0 (.int 2))))).set 2 ((u 1), .inl (cI, 10, .inl (upd (upd (fun _ => 0) (0 : Int32).toNatClampNeg (-1)) (1 : Int32).toNatClampNeg 0)))).set 3 ((u 2), .inl (cI, 10, .inl (upd (upd (fun _ => 0) (0 : Int32).toNatClampNeg (-1)) (1 : Int32).toNatClampNeg x2)))).set 8 ((u 7), .inl (cI, 160, .inl (upd (fun _ => (-1)) (x2 : Int32).toNatClampNeg 10)))).set 9 ((u 8), .inl (cI, 160, .inl (upd (fun _ => 0) (x2 : Int32).toNatClampNeg (-1))))).set 10 ((u 9), .inl (cI, 160, .inl (upd (fun _ => 0) (x2 : Int32).toNatClampNeg 1)))) ++ [(ao, .inl (cJ, 1, .inr (.inl (vp_updL (fun _ => 0) (0 : Int32).toNatClampNeg 1))))]) A) (by decide) (Nat.le_of_ble_eq_true rfl) rfl ?_
  intro p e s m args below meth c ls A H S hr hlocks htab hl hK hP hD hS hA hB hC
  have hx := S.1
  have hb := S.2.1
  refine lv_aload_n hx hb dL_procedure_0 rfl (lv_at hl 3 rfl) ?_
  refine lv_iconst (v := 0) hx hb dL_procedure_1 (by decide) ?_
  refine lv_aload_n hx hb dL_procedure_2 rfl (lv_at hl 0 rfl) ?_
  refine lv_iload_n hx hb dL_procedure_3 rfl (lv_at hl 1 rfl) ?_
  refine lv_iload_n hx hb dL_procedure_4 rfl (lv_at hl 2 rfl) ?_
  refine faVi [] [(ao, .inl (cJ, 1, .inr (.inl (fun _ => 0))))] (As := [.int 0, .int x2]) (ci := 8) S (c_X8_procedure_4 l D cI cZ cJ o u ra ga H.size x2 lo_x2 hi_x2) mi_X8_procedure kw_5_179 rfl rfl ⟨Nat.le_of_ble_eq_true rfl, Nat.le_of_ble_eq_true rfl⟩ hP hD hK hS hA hB xW_0 rfl rfl hl.1 (Nat.le_of_ble_eq_true rfl) ⟨Nat.le_of_ble_eq_true rfl, Nat.le_of_ble_eq_true rfl⟩ dL_procedure_5 (fun H locs hz hP hD hS => ?_)
  have hP : va_P D vwCl ((((((((xW o u cI cZ cJ).set 1 ((u 0), .inr (1, ([.int 1, .ref (u 1), .ref (u 2), .ref (u 3), .ref (u 4), .ref (u 5), .ref (u 6), .ref (u 7), .ref (u 8), .ref (u 9), .ref (u 10), .ref (u 11)].set 0 (.int 2))))).set 2 ((u 1), .inl (cI, 10, .inl (upd (upd (fun _ => 0) (0 : Int32).toNatClampNeg (-1)) (1 : Int32).toNatClampNeg 0)))).set 3 ((u 2), .inl (cI, 10, .inl (upd (upd (fun _ => 0) (0 : Int32).toNatClampNeg (-1)) (1 : Int32).toNatClampNeg x2)))).set 8 ((u 7), .inl (cI, 160, .inl (upd (fun _ => (-1)) (x2 : Int32).toNatClampNeg 10)))).set 9 ((u 8), .inl (cI, 160, .inl (upd (fun _ => 0) (x2 : Int32).toNatClampNeg (-1))))).set 10 ((u 9), .inl (cI, 160, .inl (upd (fun _ => 0) (x2 : Int32).toNatClampNeg 1)))) ++ [(ao, .inl (cJ, 1, .inr (.inl (fun _ => 0))))]) H := hP
  have hD : va_D A ((((((((xW o u cI cZ cJ).set 1 ((u 0), .inr (1, ([.int 1, .ref (u 1), .ref (u 2), .ref (u 3), .ref (u 4), .ref (u 5), .ref (u 6), .ref (u 7), .ref (u 8), .ref (u 9), .ref (u 10), .ref (u 11)].set 0 (.int 2))))).set 2 ((u 1), .inl (cI, 10, .inl (upd (upd (fun _ => 0) (0 : Int32).toNatClampNeg (-1)) (1 : Int32).toNatClampNeg 0)))).set 3 ((u 2), .inl (cI, 10, .inl (upd (upd (fun _ => 0) (0 : Int32).toNatClampNeg (-1)) (1 : Int32).toNatClampNeg x2)))).set 8 ((u 7), .inl (cI, 160, .inl (upd (fun _ => (-1)) (x2 : Int32).toNatClampNeg 10)))).set 9 ((u 8), .inl (cI, 160, .inl (upd (fun _ => 0) (x2 : Int32).toNatClampNeg (-1))))).set 10 ((u 9), .inl (cI, 160, .inl (upd (fun _ => 0) (x2 : Int32).toNatClampNeg 1)))) ++ [(ao, .inl (cJ, 1, .inr (.inl (fun _ => 0))))]) := hD
  refine lv_i2l (v := 1) hx hb dL_procedure_8 (by decide) ?_
  refine xlast (t0 := 2) S hK hP hD hS (q0 := 88) rfl rfl (vin rfl) dL_procedure_9 (fun H locs hP hD hS => ?_)
  have hP : va_P D vwCl ((((((((xW o u cI cZ cJ).set 1 ((u 0), .inr (1, ([.int 1, .ref (u 1), .ref (u 2), .ref (u 3), .ref (u 4), .ref (u 5), .ref (u 6), .ref (u 7), .ref (u 8), .ref (u 9), .ref (u 10), .ref (u 11)].set 0 (.int 2))))).set 2 ((u 1), .inl (cI, 10, .inl (upd (upd (fun _ => 0) (0 : Int32).toNatClampNeg (-1)) (1 : Int32).toNatClampNeg 0)))).set 3 ((u 2), .inl (cI, 10, .inl (upd (upd (fun _ => 0) (0 : Int32).toNatClampNeg (-1)) (1 : Int32).toNatClampNeg x2)))).set 8 ((u 7), .inl (cI, 160, .inl (upd (fun _ => (-1)) (x2 : Int32).toNatClampNeg 10)))).set 9 ((u 8), .inl (cI, 160, .inl (upd (fun _ => 0) (x2 : Int32).toNatClampNeg (-1))))).set 10 ((u 9), .inl (cI, 160, .inl (upd (fun _ => 0) (x2 : Int32).toNatClampNeg 1)))) ++ [(ao, .inl (cJ, 1, .inr (.inl (vp_updL (fun _ => 0) (0 : Int32).toNatClampNeg 1))))]) H := hP
  have hD : va_D A ((((((((xW o u cI cZ cJ).set 1 ((u 0), .inr (1, ([.int 1, .ref (u 1), .ref (u 2), .ref (u 3), .ref (u 4), .ref (u 5), .ref (u 6), .ref (u 7), .ref (u 8), .ref (u 9), .ref (u 10), .ref (u 11)].set 0 (.int 2))))).set 2 ((u 1), .inl (cI, 10, .inl (upd (upd (fun _ => 0) (0 : Int32).toNatClampNeg (-1)) (1 : Int32).toNatClampNeg 0)))).set 3 ((u 2), .inl (cI, 10, .inl (upd (upd (fun _ => 0) (0 : Int32).toNatClampNeg (-1)) (1 : Int32).toNatClampNeg x2)))).set 8 ((u 7), .inl (cI, 160, .inl (upd (fun _ => (-1)) (x2 : Int32).toNatClampNeg 10)))).set 9 ((u 8), .inl (cI, 160, .inl (upd (fun _ => 0) (x2 : Int32).toNatClampNeg (-1))))).set 10 ((u 9), .inl (cI, 160, .inl (upd (fun _ => 0) (x2 : Int32).toNatClampNeg 1)))) ++ [(ao, .inl (cJ, 1, .inr (.inl (vp_updL (fun _ => 0) (0 : Int32).toNatClampNeg 1))))]) := hD
  refine lv_goto (tgt := 25) hx hb dL_procedure_10 (by decide) ?_
  refine lv_iconst (v := 0) hx hb dL_procedure_25 (by decide) ?_
  exact vx_ret (wEnd S hr hlocks hP hD hS (Nat.le_of_ble_eq_true rfl) (Nat.le_of_ble_eq_true rfl) dL_procedure_26 rfl)

set_option maxHeartbeats 8000000 in
set_option maxRecDepth 100000 in
theorem c_X9_isIn_5 (l : Launch) (D : va_G) (cI cZ cJ : ClassId) (o : Nat) (q : Nat → Nat) (x2 : Int32) (lo_x2 : 0 ≤ x2) (hi_x2 : x2 ≤ 15) : Met l yX9_isIn (uW yX9_isIn cX9_isIn 3 (some .boolean)) ({ frames := 0, cells := 0, slots := 0, locals := 0 }) (va_Pc [.int x2, .int 0, .int 15] (pS D (tyL cI cZ cJ) (mW o 0 q cI cZ))) (QcRead (1)) 0 0 (fun _ => False) := by
  refine rdStart (lv := [(0, .int x2), (1, .int 0), (2, .int 15)]) (by decide) (Nat.le_of_ble_eq_true rfl) rfl ?_
  intro p e s m args below meth c ls S hr hlocks hl hP hK
  have hx := S.1
  have hb := S.2.1
  refine lv_iload_n hx hb dX9_isIn_0 rfl (lv_at hl 0 rfl) ?_
  refine lv_iload_n hx hb dX9_isIn_1 rfl (lv_at hl 1 rfl) ?_
  refine lv_icmp_lt (tgt := 14) hx hb dX9_isIn_2 (by decide) (fun c => absurd c (b_nlt lo_x2 (by decide))) (fun _ => ?_)
  refine lv_iload_n hx hb dX9_isIn_5 rfl (lv_at hl 0 rfl) ?_
  refine lv_iload_n hx hb dX9_isIn_6 rfl (lv_at hl 2 rfl) ?_
  refine lv_icmp_gt (tgt := 14) hx hb dX9_isIn_7 (by decide) (fun c => absurd c (b_ngt hi_x2 (by decide))) (fun _ => ?_)
  refine lv_iconst (v := 1) hx hb dX9_isIn_10 (by decide) ?_
  refine lv_goto (tgt := 15) hx hb dX9_isIn_11 (by decide) ?_
  exact rdEndZ S hr hlocks dX9_isIn_15 rfl rfl

set_option maxHeartbeats 8000000 in
set_option maxRecDepth 100000 in
theorem c_X9_isName_2 (l : Launch) (D : va_G) (cI cZ cJ : ClassId) (o : Nat) (q : Nat → Nat) (x2 : Int32) (lo_x2 : 0 ≤ x2) (hi_x2 : x2 ≤ 15) : Met l yX9_isName (uW yX9_isName cX9_isName 1 (some .boolean)) ({ frames := 1, cells := 0, slots := 0, locals := 22 }) (va_Pc [.int x2] (pS D (tyL cI cZ cJ) (mW o 0 q cI cZ))) (QcRead (1)) 0 0 (fun _ => False) := by
  refine rdStart (lv := [(0, .int x2)]) (by decide) (Nat.le_of_ble_eq_true rfl) rfl ?_
  intro p e s m args below meth c ls S hr hlocks hl hP hK
  have hx := S.1
  have hb := S.2.1
  refine lv_iload_n hx hb dX9_isName_0 rfl (lv_at hl 0 rfl) ?_
  refine lv_iconst (v := 0) hx hb dX9_isName_1 (by decide) ?_
  refine lv_bipush (v := 15) hx hb dX9_isName_2 (by decide) ?_
  refine rdS (As := [.int x2, .int 0, .int 15]) S (c_X9_isIn_5 l D cI cZ cJ o q x2 lo_x2 hi_x2) ms_X9_isIn kw_7_101 ⟨rfl, rfl⟩ ⟨Nat.le_of_ble_eq_true rfl, Nat.le_of_ble_eq_true rfl⟩ hP hK hl.1 (Nat.le_of_ble_eq_true rfl) ⟨Nat.le_of_ble_eq_true rfl, Nat.le_of_ble_eq_true rfl⟩ dX9_isName_4 ?_
  exact rdEndZ S hr hlocks dX9_isName_7 rfl rfl

set_option maxHeartbeats 8000000 in
set_option maxRecDepth 100000 in
theorem c_X9_declare_0 (l : Launch) (D : va_G) (cI cZ cJ : ClassId) (o : Nat) (q : Nat → Nat) (sz : Nat) (x2 : Int32) (lo_x2 : 0 ≤ x2) (hi_x2 : x2 ≤ 15) : Met l yX9_declare (uW yX9_declare cX9_declare 6 (some .int)) ({ frames := 0, cells := 0, slots := 0, locals := 0 }) (va_Pc [.ref o, .int 0, .int x2, .int 10, .int (-1), .int 1] (wS D (tyL cI cZ cJ) (((mW o 0 q cI cZ).set 1 ((q 0), .inl (cI, 10, .inl (upd (upd (fun _ => 0) 0 (-1)) (1 : Int32).toNatClampNeg 0)))).set 2 ((q 1), .inl (cI, 10, .inl (upd (upd (fun _ => 0) 0 (-1)) (1 : Int32).toNatClampNeg x2)))) sz)) (wQi ((-1)) D ((((((mW o 0 q cI cZ).set 1 ((q 0), .inl (cI, 10, .inl (upd (upd (fun _ => 0) 0 (-1)) (1 : Int32).toNatClampNeg 0)))).set 2 ((q 1), .inl (cI, 10, .inl (upd (upd (fun _ => 0) 0 (-1)) (1 : Int32).toNatClampNeg x2)))).set 7 ((q 6), .inl (cI, 160, .inl (upd (fun _ => -1) (x2 : Int32).toNatClampNeg 10)))).set 8 ((q 7), .inl (cI, 160, .inl (upd (fun _ => 0) (x2 : Int32).toNatClampNeg (-1))))).set 9 ((q 8), .inl (cI, 160, .inl (upd (fun _ => 0) (x2 : Int32).toNatClampNeg 1)))) (va_A (((mW o 0 q cI cZ).set 1 ((q 0), .inl (cI, 10, .inl (upd (upd (fun _ => 0) 0 (-1)) (1 : Int32).toNatClampNeg 0)))).set 2 ((q 1), .inl (cI, 10, .inl (upd (upd (fun _ => 0) 0 (-1)) (1 : Int32).toNatClampNeg x2)))) sz)) 0 0 (va_A (((mW o 0 q cI cZ).set 1 ((q 0), .inl (cI, 10, .inl (upd (upd (fun _ => 0) 0 (-1)) (1 : Int32).toNatClampNeg 0)))).set 2 ((q 1), .inl (cI, 10, .inl (upd (upd (fun _ => 0) 0 (-1)) (1 : Int32).toNatClampNeg x2)))) sz) := by
  refine wStart (lv := [(0, .ref o), (1, .int 0), (2, .int x2), (3, .int 10), (4, .int (-1)), (5, .int 1)]) (Qc := fun A => wQi ((-1)) D ((((((mW o 0 q cI cZ).set 1 ((q 0), .inl (cI, 10, .inl (upd (upd (fun _ => 0) 0 (-1)) (1 : Int32).toNatClampNeg 0)))).set 2 ((q 1), .inl (cI, 10, .inl (upd (upd (fun _ => 0) 0 (-1)) (1 : Int32).toNatClampNeg x2)))).set 7 ((q 6), .inl (cI, 160, .inl (upd (fun _ => -1) (x2 : Int32).toNatClampNeg 10)))).set 8 ((q 7), .inl (cI, 160, .inl (upd (fun _ => 0) (x2 : Int32).toNatClampNeg (-1))))).set 9 ((q 8), .inl (cI, 160, .inl (upd (fun _ => 0) (x2 : Int32).toNatClampNeg 1)))) A) (by decide) (Nat.le_of_ble_eq_true rfl) rfl ?_
  intro p e s m args below meth c ls A H S hr hlocks hnm hl hK hP hD hS hA
  have hx := S.1
  have hb := S.2.1
  refine lv_aload_n hx hb dX9_declare_0 rfl (lv_at hl 0 rfl) ?_
  refine xg (ci := 9) S inX9 rfl hK hP (q0 := 0) rfl 8 (by decide) mF_8 kw_6_156 rfl dX9_declare_1 ?_
  refine lv_iload_n hx hb dX9_declare_4 rfl (lv_at hl 1 rfl) ?_
  refine lv_bipush (v := 16) hx hb dX9_declare_5 (by decide) ?_
  refine ximul (v := 0) S dX9_declare_7 (by decide) ?_
  refine lv_iload_n hx hb dX9_declare_8 rfl (lv_at hl 2 rfl) ?_
  refine xiadd (v := x2) S dX9_declare_9 (Int32.zero_add _) ?_
  refine lv_iload_n hx hb dX9_declare_10 rfl (lv_at hl 3 rfl) ?_
  refine xiast (t0 := 0) S hK hP hD hS (q0 := 7) rfl rfl (b_in lo_x2 hi_x2 (by decide) (by decide)) dX9_declare_11 (fun H locs hP hD hS => ?_)
  have hP : va_P D vwCl ((((mW o 0 q cI cZ).set 1 ((q 0), .inl (cI, 10, .inl (upd (upd (fun _ => 0) 0 (-1)) (1 : Int32).toNatClampNeg 0)))).set 2 ((q 1), .inl (cI, 10, .inl (upd (upd (fun _ => 0) 0 (-1)) (1 : Int32).toNatClampNeg x2)))).set 7 ((q 6), .inl (cI, 160, .inl (upd (fun _ => -1) (x2 : Int32).toNatClampNeg 10)))) H := hP
  have hD : va_D A ((((mW o 0 q cI cZ).set 1 ((q 0), .inl (cI, 10, .inl (upd (upd (fun _ => 0) 0 (-1)) (1 : Int32).toNatClampNeg 0)))).set 2 ((q 1), .inl (cI, 10, .inl (upd (upd (fun _ => 0) 0 (-1)) (1 : Int32).toNatClampNeg x2)))).set 7 ((q 6), .inl (cI, 160, .inl (upd (fun _ => -1) (x2 : Int32).toNatClampNeg 10)))) := hD
  refine lv_aload_n hx hb dX9_declare_12 rfl (lv_at hl 0 rfl) ?_
  refine xg (ci := 9) S inX9 rfl hK hP (q0 := 0) rfl 9 (by decide) mF_9 kw_6_157 rfl dX9_declare_13 ?_
  refine lv_iload_n hx hb dX9_declare_16 rfl (lv_at hl 1 rfl) ?_
  refine lv_bipush (v := 16) hx hb dX9_declare_17 (by decide) ?_
  refine ximul (v := 0) S dX9_declare_19 (by decide) ?_
  refine lv_iload_n hx hb dX9_declare_20 rfl (lv_at hl 2 rfl) ?_
  refine xiadd (v := x2) S dX9_declare_21 (Int32.zero_add _) ?_
  refine lv_iload hx hb dX9_declare_22 (lv_at hl 4 rfl) ?_
  refine xiast (t0 := 0) S hK hP hD hS (q0 := 8) rfl rfl (b_in lo_x2 hi_x2 (by decide) (by decide)) dX9_declare_24 (fun H locs hP hD hS => ?_)
  have hP : va_P D vwCl (((((mW o 0 q cI cZ).set 1 ((q 0), .inl (cI, 10, .inl (upd (upd (fun _ => 0) 0 (-1)) (1 : Int32).toNatClampNeg 0)))).set 2 ((q 1), .inl (cI, 10, .inl (upd (upd (fun _ => 0) 0 (-1)) (1 : Int32).toNatClampNeg x2)))).set 7 ((q 6), .inl (cI, 160, .inl (upd (fun _ => -1) (x2 : Int32).toNatClampNeg 10)))).set 8 ((q 7), .inl (cI, 160, .inl (upd (fun _ => 0) (x2 : Int32).toNatClampNeg (-1))))) H := hP
  have hD : va_D A (((((mW o 0 q cI cZ).set 1 ((q 0), .inl (cI, 10, .inl (upd (upd (fun _ => 0) 0 (-1)) (1 : Int32).toNatClampNeg 0)))).set 2 ((q 1), .inl (cI, 10, .inl (upd (upd (fun _ => 0) 0 (-1)) (1 : Int32).toNatClampNeg x2)))).set 7 ((q 6), .inl (cI, 160, .inl (upd (fun _ => -1) (x2 : Int32).toNatClampNeg 10)))).set 8 ((q 7), .inl (cI, 160, .inl (upd (fun _ => 0) (x2 : Int32).toNatClampNeg (-1))))) := hD
  refine lv_aload_n hx hb dX9_declare_25 rfl (lv_at hl 0 rfl) ?_
  refine xg (ci := 9) S inX9 rfl hK hP (q0 := 0) rfl 10 (by decide) mF_10 kw_6_158 rfl dX9_declare_26 ?_
  refine lv_iload_n hx hb dX9_declare_29 rfl (lv_at hl 1 rfl) ?_
  refine lv_bipush (v := 16) hx hb dX9_declare_30 (by decide) ?_
  refine ximul (v := 0) S dX9_declare_32 (by decide) ?_
  refine lv_iload_n hx hb dX9_declare_33 rfl (lv_at hl 2 rfl) ?_
  refine xiadd (v := x2) S dX9_declare_34 (Int32.zero_add _) ?_
  refine lv_iload hx hb dX9_declare_35 (lv_at hl 5 rfl) ?_
  refine xiast (t0 := 0) S hK hP hD hS (q0 := 9) rfl rfl (b_in lo_x2 hi_x2 (by decide) (by decide)) dX9_declare_37 (fun H locs hP hD hS => ?_)
  have hP : va_P D vwCl ((((((mW o 0 q cI cZ).set 1 ((q 0), .inl (cI, 10, .inl (upd (upd (fun _ => 0) 0 (-1)) (1 : Int32).toNatClampNeg 0)))).set 2 ((q 1), .inl (cI, 10, .inl (upd (upd (fun _ => 0) 0 (-1)) (1 : Int32).toNatClampNeg x2)))).set 7 ((q 6), .inl (cI, 160, .inl (upd (fun _ => -1) (x2 : Int32).toNatClampNeg 10)))).set 8 ((q 7), .inl (cI, 160, .inl (upd (fun _ => 0) (x2 : Int32).toNatClampNeg (-1))))).set 9 ((q 8), .inl (cI, 160, .inl (upd (fun _ => 0) (x2 : Int32).toNatClampNeg 1)))) H := hP
  have hD : va_D A ((((((mW o 0 q cI cZ).set 1 ((q 0), .inl (cI, 10, .inl (upd (upd (fun _ => 0) 0 (-1)) (1 : Int32).toNatClampNeg 0)))).set 2 ((q 1), .inl (cI, 10, .inl (upd (upd (fun _ => 0) 0 (-1)) (1 : Int32).toNatClampNeg x2)))).set 7 ((q 6), .inl (cI, 160, .inl (upd (fun _ => -1) (x2 : Int32).toNatClampNeg 10)))).set 8 ((q 7), .inl (cI, 160, .inl (upd (fun _ => 0) (x2 : Int32).toNatClampNeg (-1))))).set 9 ((q 8), .inl (cI, 160, .inl (upd (fun _ => 0) (x2 : Int32).toNatClampNeg 1)))) := hD
  refine lv_iload hx hb dX9_declare_38 (lv_at hl 4 rfl) ?_
  exact wEnd S hr hlocks hP hD hS (Nat.le_of_ble_eq_true rfl) (Nat.le_of_ble_eq_true rfl) dX9_declare_40 rfl

set_option maxHeartbeats 8000000 in
set_option maxRecDepth 100000 in
theorem c_X9_procedure_4 (l : Launch) (D : va_G) (cI cZ cJ : ClassId) (o : Nat) (q : Nat → Nat) (sz : Nat) (x2 : Int32) (lo_x2 : 0 ≤ x2) (hi_x2 : x2 ≤ 15) : Met l yX9_procedure (uW yX9_procedure cX9_procedure 3 (some .int)) ({ frames := 2, cells := 0, slots := 0, locals := 43 }) (va_Pc [.ref o, .int 0, .int x2] (wS D (tyL cI cZ cJ) (mW o 0 q cI cZ) sz)) (wQi (1) D (((((((mW o 0 q cI cZ).set 0 (o, .inr (9, ((mF 0 q).set 1 (.int 2))))).set 1 ((q 0), .inl (cI, 10, .inl (upd (upd (fun _ => 0) 0 (-1)) (1 : Int32).toNatClampNeg 0)))).set 2 ((q 1), .inl (cI, 10, .inl (upd (upd (fun _ => 0) 0 (-1)) (1 : Int32).toNatClampNeg x2)))).set 7 ((q 6), .inl (cI, 160, .inl (upd (fun _ => -1) (x2 : Int32).toNatClampNeg 10)))).set 8 ((q 7), .inl (cI, 160, .inl (upd (fun _ => 0) (x2 : Int32).toNatClampNeg (-1))))).set 9 ((q 8), .inl (cI, 160, .inl (upd (fun _ => 0) (x2 : Int32).toNatClampNeg 1)))) (va_A (mW o 0 q cI cZ) sz)) 0 0 (va_A (mW o 0 q cI cZ) sz) := by
  refine wStart (lv := [(0, .ref o), (1, .int 0), (2, .int x2)]) (Qc := fun A => wQi (1) D (((((((mW o 0 q cI cZ).set 0 (o, .inr (9, ((mF 0 q).set 1 (.int 2))))).set 1 ((q 0), .inl (cI, 10, .inl (upd (upd (fun _ => 0) 0 (-1)) (1 : Int32).toNatClampNeg 0)))).set 2 ((q 1), .inl (cI, 10, .inl (upd (upd (fun _ => 0) 0 (-1)) (1 : Int32).toNatClampNeg x2)))).set 7 ((q 6), .inl (cI, 160, .inl (upd (fun _ => -1) (x2 : Int32).toNatClampNeg 10)))).set 8 ((q 7), .inl (cI, 160, .inl (upd (fun _ => 0) (x2 : Int32).toNatClampNeg (-1))))).set 9 ((q 8), .inl (cI, 160, .inl (upd (fun _ => 0) (x2 : Int32).toNatClampNeg 1)))) A) (by decide) (Nat.le_of_ble_eq_true rfl) rfl ?_
  intro p e s m args below meth c ls A H S hr hlocks hnm hl hK hP hD hS hA
  have hx := S.1
  have hb := S.2.1
  refine lv_aload_n hx hb dX9_procedure_0 rfl (lv_at hl 0 rfl) ?_
  refine lv_iconst (v := 0) hx hb dX9_procedure_1 (by decide) ?_
  refine xp (ci := 9) (v := .int 0) S inX9 tyX9 tyX9_ok nmX9 rfl hK hP hD hS mW_0 0 (by decide) kw_6_148 rfl rfl rfl rfl (Nat.le_of_ble_eq_true rfl) dX9_procedure_2 (fun H locs hP hD hS => ?_)
  have hP : va_P D vwCl (mW o 0 q cI cZ) H := hP
  have hD : va_D A (mW o 0 q cI cZ) := hD
  refine lv_aload_n hx hb dX9_procedure_5 rfl (lv_at hl 0 rfl) ?_
  refine lv_iload_n hx hb dX9_procedure_6 rfl (lv_at hl 1 rfl) ?_
  refine rdV (As := [.int 0]) (ci := 9) S (c_X9_isProcedure_2 l D cI cZ cJ o q) mi_X9_isProcedure kw_7_97 ⟨rfl, rfl⟩ ⟨Nat.le_of_ble_eq_true rfl, Nat.le_of_ble_eq_true rfl⟩ hP hK mW_0 rfl rfl hl.1 (Nat.le_of_ble_eq_true rfl) ⟨Nat.le_of_ble_eq_true rfl, Nat.le_of_ble_eq_true rfl⟩ dX9_procedure_7 ?_
  refine lv_if_ne (tgt := 19) hx hb dX9_procedure_10 (by decide) (fun _ => ?_) (fun c => absurd c (by decide))
  refine lv_iload_n hx hb dX9_procedure_19 rfl (lv_at hl 2 rfl) ?_
  refine rdS (As := [.int x2]) S (c_X9_isName_2 l D cI cZ cJ o q x2 lo_x2 hi_x2) ms_X9_isName kw_7_108 ⟨rfl, rfl⟩ ⟨Nat.le_of_ble_eq_true rfl, Nat.le_of_ble_eq_true rfl⟩ hP hK hl.1 (Nat.le_of_ble_eq_true rfl) ⟨Nat.le_of_ble_eq_true rfl, Nat.le_of_ble_eq_true rfl⟩ dX9_procedure_20 ?_
  refine lv_if_ne (tgt := 32) hx hb dX9_procedure_23 (by decide) (fun _ => ?_) (fun c => absurd c (by decide))
  refine lv_aload_n hx hb dX9_procedure_32 rfl (lv_at hl 0 rfl) ?_
  refine xg (ci := 9) S inX9 rfl hK hP mW_0 1 (by decide) mF_1 kw_6_149 rfl dX9_procedure_33 ?_
  refine lv_bipush (v := 10) hx hb dX9_procedure_36 (by decide) ?_
  refine lv_icmp_eq (tgt := 56) hx hb dX9_procedure_38 (by decide) (fun c => absurd c (by decide)) (fun _ => ?_)
  refine lv_aload_n hx hb dX9_procedure_41 rfl (lv_at hl 0 rfl) ?_
  refine xg (ci := 9) S inX9 rfl hK hP mW_0 8 (by decide) mF_8 kw_6_156 rfl dX9_procedure_42 ?_
  refine lv_iload_n hx hb dX9_procedure_45 rfl (lv_at hl 1 rfl) ?_
  refine lv_bipush (v := 16) hx hb dX9_procedure_46 (by decide) ?_
  refine ximul (v := 0) S dX9_procedure_48 (by decide) ?_
  refine lv_iload_n hx hb dX9_procedure_49 rfl (lv_at hl 2 rfl) ?_
  refine xiadd (v := x2) S dX9_procedure_50 (Int32.zero_add _) ?_
  refine xiald (t0 := 0) (v := (-1)) S hK hP mW_7 rfl (b_in lo_x2 hi_x2 (by decide) (by decide)) rfl dX9_procedure_51 ?_
  refine lv_iconst (v := (-1)) hx hb dX9_procedure_52 (by decide) ?_
  refine lv_icmp_eq (tgt := 62) hx hb dX9_procedure_53 (by decide) (fun _ => ?_) (fun c => absurd c (by decide))
  refine lv_aload_n hx hb dX9_procedure_62 rfl (lv_at hl 0 rfl) ?_
  refine xg (ci := 9) S inX9 rfl hK hP mW_0 2 (by decide) mF_2 kw_6_150 rfl dX9_procedure_63 ?_
  refine lv_aload_n hx hb dX9_procedure_66 rfl (lv_at hl 0 rfl) ?_
  refine xg (ci := 9) S inX9 rfl hK hP mW_0 1 (by decide) mF_1 kw_6_149 rfl dX9_procedure_67 ?_
  refine lv_iload_n hx hb dX9_procedure_70 rfl (lv_at hl 1 rfl) ?_
  refine xiast (t0 := 0) S hK hP hD hS mW_1 rfl (vin rfl) dX9_procedure_71 (fun H locs hP hD hS => ?_)
  have hP : va_P D vwCl ((mW o 0 q cI cZ).set 1 ((q 0), .inl (cI, 10, .inl (upd (upd (fun _ => 0) 0 (-1)) (1 : Int32).toNatClampNeg 0)))) H := hP
  have hD : va_D A ((mW o 0 q cI cZ).set 1 ((q 0), .inl (cI, 10, .inl (upd (upd (fun _ => 0) 0 (-1)) (1 : Int32).toNatClampNeg 0)))) := hD
  refine lv_aload_n hx hb dX9_procedure_72 rfl (lv_at hl 0 rfl) ?_
  refine xg (ci := 9) S inX9 rfl hK hP (q0 := 0) rfl 3 (by decide) mF_3 kw_6_151 rfl dX9_procedure_73 ?_
  refine lv_aload_n hx hb dX9_procedure_76 rfl (lv_at hl 0 rfl) ?_
  refine xg (ci := 9) S inX9 rfl hK hP (q0 := 0) rfl 1 (by decide) mF_1 kw_6_149 rfl dX9_procedure_77 ?_
  refine lv_iload_n hx hb dX9_procedure_80 rfl (lv_at hl 2 rfl) ?_
  refine xiast (t0 := 0) S hK hP hD hS (q0 := 2) rfl rfl (vin rfl) dX9_procedure_81 (fun H locs hP hD hS => ?_)
  have hP : va_P D vwCl (((mW o 0 q cI cZ).set 1 ((q 0), .inl (cI, 10, .inl (upd (upd (fun _ => 0) 0 (-1)) (1 : Int32).toNatClampNeg 0)))).set 2 ((q 1), .inl (cI, 10, .inl (upd (upd (fun _ => 0) 0 (-1)) (1 : Int32).toNatClampNeg x2)))) H := hP
  have hD : va_D A (((mW o 0 q cI cZ).set 1 ((q 0), .inl (cI, 10, .inl (upd (upd (fun _ => 0) 0 (-1)) (1 : Int32).toNatClampNeg 0)))).set 2 ((q 1), .inl (cI, 10, .inl (upd (upd (fun _ => 0) 0 (-1)) (1 : Int32).toNatClampNeg x2)))) := hD
  refine lv_aload_n hx hb dX9_procedure_82 rfl (lv_at hl 0 rfl) ?_
  refine lv_iload_n hx hb dX9_procedure_83 rfl (lv_at hl 1 rfl) ?_
  refine lv_iload_n hx hb dX9_procedure_84 rfl (lv_at hl 2 rfl) ?_
  refine lv_bipush (v := 10) hx hb dX9_procedure_85 (by decide) ?_
  refine lv_iconst (v := (-1)) hx hb dX9_procedure_87 (by decide) ?_
  refine lv_aload_n hx hb dX9_procedure_88 rfl (lv_at hl 0 rfl) ?_
  refine xg (ci := 9) S inX9 rfl hK hP (q0 := 0) rfl 1 (by decide) mF_1 kw_6_149 rfl dX9_procedure_89 ?_
  refine wrV (As := [.int 0, .int x2, .int 10, .int (-1), .int 1]) (ci := 9) S (c_X9_declare_0 l D cI cZ cJ o q H.size x2 lo_x2 hi_x2) mi_X9_declare kw_7_111 rfl rfl ⟨Nat.le_of_ble_eq_true rfl, Nat.le_of_ble_eq_true rfl⟩ hP hD hK hS hA (k := 0) rfl rfl rfl hl.1 (Nat.le_of_ble_eq_true rfl) ⟨Nat.le_of_ble_eq_true rfl, Nat.le_of_ble_eq_true rfl⟩ dX9_procedure_92 (fun H locs hz hP hD hS => ?_)
  refine lv_pop hx hb dX9_procedure_95 rfl ?_
  refine lv_aload_n hx hb dX9_procedure_96 rfl (lv_at hl 0 rfl) ?_
  refine lv_dup hx hb dX9_procedure_97 rfl ?_
  refine xg (ci := 9) S inX9 rfl hK hP (q0 := 0) rfl 1 (by decide) mF_1 kw_6_149 rfl dX9_procedure_98 ?_
  refine lv_dup_x1 hx hb dX9_procedure_101 rfl rfl ?_
  refine lv_iconst (v := 1) hx hb dX9_procedure_102 (by decide) ?_
  refine xiadd (v := 2) S dX9_procedure_103 (by decide) ?_
  refine xp (ci := 9) (v := .int 2) S inX9 tyX9 tyX9_ok nmX9 rfl hK hP hD hS (q0 := 0) rfl 1 (by decide) kw_6_149 rfl rfl rfl rfl (Nat.le_of_ble_eq_true rfl) dX9_procedure_104 (fun H locs hP hD hS => ?_)
  have hP : va_P D vwCl (((((((mW o 0 q cI cZ).set 0 (o, .inr (9, ((mF 0 q).set 1 (.int 2))))).set 1 ((q 0), .inl (cI, 10, .inl (upd (upd (fun _ => 0) 0 (-1)) (1 : Int32).toNatClampNeg 0)))).set 2 ((q 1), .inl (cI, 10, .inl (upd (upd (fun _ => 0) 0 (-1)) (1 : Int32).toNatClampNeg x2)))).set 7 ((q 6), .inl (cI, 160, .inl (upd (fun _ => -1) (x2 : Int32).toNatClampNeg 10)))).set 8 ((q 7), .inl (cI, 160, .inl (upd (fun _ => 0) (x2 : Int32).toNatClampNeg (-1))))).set 9 ((q 8), .inl (cI, 160, .inl (upd (fun _ => 0) (x2 : Int32).toNatClampNeg 1)))) H := hP
  have hD : va_D A (((((((mW o 0 q cI cZ).set 0 (o, .inr (9, ((mF 0 q).set 1 (.int 2))))).set 1 ((q 0), .inl (cI, 10, .inl (upd (upd (fun _ => 0) 0 (-1)) (1 : Int32).toNatClampNeg 0)))).set 2 ((q 1), .inl (cI, 10, .inl (upd (upd (fun _ => 0) 0 (-1)) (1 : Int32).toNatClampNeg x2)))).set 7 ((q 6), .inl (cI, 160, .inl (upd (fun _ => -1) (x2 : Int32).toNatClampNeg 10)))).set 8 ((q 7), .inl (cI, 160, .inl (upd (fun _ => 0) (x2 : Int32).toNatClampNeg (-1))))).set 9 ((q 8), .inl (cI, 160, .inl (upd (fun _ => 0) (x2 : Int32).toNatClampNeg 1)))) := hD
  exact wEnd S hr hlocks hP hD hS (Nat.le_of_ble_eq_true rfl) (Nat.le_of_ble_eq_true rfl) dX9_procedure_107 rfl

set_option maxHeartbeats 8000000 in
set_option maxRecDepth 100000 in
theorem c_X9_thrown_2 (l : Launch) (D : va_G) (cI cZ cJ : ClassId) (o : Nat) (q : Nat → Nat) (x2 : Int32) (lo_x2 : 0 ≤ x2) (hi_x2 : x2 ≤ 15) : Met l yX9_thrown (uW yX9_thrown cX9_thrown 1 (some .int)) ({ frames := 0, cells := 0, slots := 0, locals := 0 }) (va_Pc [.ref o] (pS D (tyL cI cZ cJ) (((((((mW o 0 q cI cZ).set 0 (o, .inr (9, ((mF 0 q).set 1 (.int 2))))).set 1 ((q 0), .inl (cI, 10, .inl (upd (upd (fun _ => 0) 0 (-1)) (1 : Int32).toNatClampNeg 0)))).set 2 ((q 1), .inl (cI, 10, .inl (upd (upd (fun _ => 0) 0 (-1)) (1 : Int32).toNatClampNeg x2)))).set 7 ((q 6), .inl (cI, 160, .inl (upd (fun _ => -1) (x2 : Int32).toNatClampNeg 10)))).set 8 ((q 7), .inl (cI, 160, .inl (upd (fun _ => 0) (x2 : Int32).toNatClampNeg (-1))))).set 9 ((q 8), .inl (cI, 160, .inl (upd (fun _ => 0) (x2 : Int32).toNatClampNeg 1)))))) (QcRead (0)) 0 0 (fun _ => False) := by
  refine rdStart (lv := [(0, .ref o)]) (by decide) (Nat.le_of_ble_eq_true rfl) rfl ?_
  intro p e s m args below meth c ls S hr hlocks hl hP hK
  have hx := S.1
  have hb := S.2.1
  refine lv_aload_n hx hb dX9_thrown_0 rfl (lv_at hl 0 rfl) ?_
  refine xg (ci := 9) S inX9 rfl hK hP (q0 := 0) rfl 0 (by decide) rfl kw_6_148 rfl dX9_thrown_1 ?_
  exact rdEnd S hr hlocks dX9_thrown_4 rfl

set_option maxHeartbeats 8000000 in
set_option maxRecDepth 100000 in
theorem c_X8_needState_1 (l : Launch) (D : va_G) (cI cZ cJ : ClassId) (o : Nat) (u : Nat → Nat) (hst : l.stackTraces = false) (ra ga : Nat → Nat) (sz : Nat) : vx_Met l yX8_needState (uW yX8_needState cX8_needState 1 none) ({ frames := 6, cells := 1, slots := 6, locals := 82 }) (va_Pc [.int 0] (aS ra ga D (tyL cI cZ cJ) (xW o u cI cZ cJ) sz)) (nQv (va_A (xW o u cI cZ cJ) sz)) (wX "java/lang/IllegalStateException" D (xW o u cI cZ cJ) (va_A (xW o u cI cZ cJ) sz)) 1 6 (va_A (xW o u cI cZ cJ) sz) := by
  refine xStart (lv := [(0, .int 0)]) (Qc := fun A => nQv A) (XC := fun A => wX "java/lang/IllegalStateException" D (xW o u cI cZ cJ) A) (by decide) (Nat.le_of_ble_eq_true rfl) rfl ?_
  intro p e s m args below meth c ls A H S hr hlocks hnm hl hK hP hD hS hA hB hnt
  have hx := S.1
  have hb := S.2.1
  refine lv_iload_n hx hb dX8_needState_0 rfl (lv_at hl 0 rfl) ?_
  refine lv_if_ne (tgt := 15) hx hb dX8_needState_1 (by decide) (fun c => absurd c (by decide)) (fun _ => ?_)
  exact vx_throwSW (names := ["java/lang/RuntimeException", "java/lang/Exception"]) hx hb hst S.2.2.2.1 rfl (by decide) (S.2.2.2.2 _ kw_5_186) (S.2.2.2.2 _ kw_1_17) hB.k4 (vx_hat (fun w h => S.2.2.2.2 _ (atS_2 w h)) atB_2 (vx_c (va_Nw.use rfl hB.c2) (vx_c (va_Nw.use rfl hB.d0) (vx_c (va_Nw.use rfl hB.d1) (vx_c (va_Nw.use rfl hB.d2) vx_n))))) atO_2 hB.xU hB.xN hS (hl.1.trans S.2.2.1.symm) dX8_needState_4 dX8_needState_7 dX8_needState_8 dX8_needState_11 dX8_needState_14 (fun x hx => (hnt x hx).elim) (Nat.le_of_ble_eq_true rfl) (Nat.le_of_ble_eq_true rfl) (Nat.le_of_ble_eq_true rfl) (Nat.le_of_ble_eq_true rfl) hlocks (fun t _ hz hq => xThrown hP hD hS hz hq) hS.2.2 (Nat.le_of_ble_eq_true rfl) (Nat.le_of_ble_eq_true rfl)

set_option maxHeartbeats 8000000 in
set_option maxRecDepth 100000 in
theorem c_X8_parameter_0 (l : Launch) (D : va_G) (cI cZ cJ : ClassId) (o : Nat) (u : Nat → Nat) (hst : l.stackTraces = false) (ra ga : Nat → Nat) (sz : Nat) (x1 : Int32) (x2 : Int32) (x3 : Int32) (hi_x1 : x1 ≤ (-1)) : vx_Met l yX8_parameter (uW yX8_parameter cX8_parameter 4 (some .int)) ({ frames := 7, cells := 1, slots := 6, locals := 103 }) (va_Pc [.ref o, .int x1, .int x2, .int x3] (aS ra ga D (tyL cI cZ cJ) (xW o u cI cZ cJ) sz)) (nQi (va_A (xW o u cI cZ cJ) sz)) (wX "java/lang/IndexOutOfBoundsException" D (xW o u cI cZ cJ) (va_A (xW o u cI cZ cJ) sz)) 1 6 (va_A (xW o u cI cZ cJ) sz) := by
  refine xStart (lv := [(0, .ref o), (1, .int x1), (2, .int x2), (3, .int x3)]) (Qc := fun A => nQi A) (XC := fun A => wX "java/lang/IndexOutOfBoundsException" D (xW o u cI cZ cJ) A) (by decide) (Nat.le_of_ble_eq_true rfl) rfl ?_
  intro p e s m args below meth c ls A H S hr hlocks hnm hl hK hP hD hS hA hB hnt
  have hx := S.1
  have hb := S.2.1
  refine lv_aload_n hx hb dX8_parameter_0 rfl (lv_at hl 0 rfl) ?_
  refine lv_iload_n hx hb dX8_parameter_1 rfl (lv_at hl 1 rfl) ?_
  exact tVv (As := [.int x1]) (ci := 8) S (c_X8_needProcedure_0 l D cI cZ cJ o u hst ra ga H.size x1 hi_x1) mi_X8_needProcedure kw_4_166 rfl rfl ⟨Nat.le_of_ble_eq_true rfl, Nat.le_of_ble_eq_true rfl⟩ hP hD hK hS hA hB xW_0 rfl rfl hl.1 (Nat.le_of_ble_eq_true rfl) ⟨Nat.le_of_ble_eq_true rfl, Nat.le_of_ble_eq_true rfl⟩ dX8_parameter_2 hnt hlocks (Nat.le_of_ble_eq_true rfl) (Nat.le_of_ble_eq_true rfl)

set_option maxHeartbeats 8000000 in
set_option maxRecDepth 100000 in
theorem c_X8_parameter_1 (l : Launch) (D : va_G) (cI cZ cJ : ClassId) (o : Nat) (u : Nat → Nat) (hst : l.stackTraces = false) (ra ga : Nat → Nat) (sz : Nat) (x1 : Int32) (x2 : Int32) (x3 : Int32) (lo_x1 : 1 ≤ x1) : vx_Met l yX8_parameter (uW yX8_parameter cX8_parameter 4 (some .int)) ({ frames := 7, cells := 1, slots := 6, locals := 103 }) (va_Pc [.ref o, .int x1, .int x2, .int x3] (aS ra ga D (tyL cI cZ cJ) (xW o u cI cZ cJ) sz)) (nQi (va_A (xW o u cI cZ cJ) sz)) (wX "java/lang/IndexOutOfBoundsException" D (xW o u cI cZ cJ) (va_A (xW o u cI cZ cJ) sz)) 1 6 (va_A (xW o u cI cZ cJ) sz) := by
  refine xStart (lv := [(0, .ref o), (1, .int x1), (2, .int x2), (3, .int x3)]) (Qc := fun A => nQi A) (XC := fun A => wX "java/lang/IndexOutOfBoundsException" D (xW o u cI cZ cJ) A) (by decide) (Nat.le_of_ble_eq_true rfl) rfl ?_
  intro p e s m args below meth c ls A H S hr hlocks hnm hl hK hP hD hS hA hB hnt
  have hx := S.1
  have hb := S.2.1
  refine lv_aload_n hx hb dX8_parameter_0 rfl (lv_at hl 0 rfl) ?_
  refine lv_iload_n hx hb dX8_parameter_1 rfl (lv_at hl 1 rfl) ?_
  exact tVv (As := [.int x1]) (ci := 8) S (c_X8_needProcedure_1 l D cI cZ cJ o u hst ra ga H.size x1 lo_x1) mi_X8_needProcedure kw_4_166 rfl rfl ⟨Nat.le_of_ble_eq_true rfl, Nat.le_of_ble_eq_true rfl⟩ hP hD hK hS hA hB xW_0 rfl rfl hl.1 (Nat.le_of_ble_eq_true rfl) ⟨Nat.le_of_ble_eq_true rfl, Nat.le_of_ble_eq_true rfl⟩ dX8_parameter_2 hnt hlocks (Nat.le_of_ble_eq_true rfl) (Nat.le_of_ble_eq_true rfl)

set_option maxHeartbeats 8000000 in
set_option maxRecDepth 100000 in
theorem c_X8_parameter_2 (l : Launch) (D : va_G) (cI cZ cJ : ClassId) (o : Nat) (u : Nat → Nat) (hst : l.stackTraces = false) (ra ga : Nat → Nat) (sz : Nat) (x2 : Int32) (x3 : Int32) (hi_x2 : x2 ≤ (-1)) : vx_Met l yX8_parameter (uW yX8_parameter cX8_parameter 4 (some .int)) ({ frames := 7, cells := 1, slots := 6, locals := 102 }) (va_Pc [.ref o, .int 0, .int x2, .int x3] (aS ra ga D (tyL cI cZ cJ) (xW o u cI cZ cJ) sz)) (nQi (va_A (xW o u cI cZ cJ) sz)) (wX "java/lang/IllegalArgumentException" D (xW o u cI cZ cJ) (va_A (xW o u cI cZ cJ) sz)) 1 6 (va_A (xW o u cI cZ cJ) sz) := by
  refine xStart (lv := [(0, .ref o), (1, .int 0), (2, .int x2), (3, .int x3)]) (Qc := fun A => nQi A) (XC := fun A => wX "java/lang/IllegalArgumentException" D (xW o u cI cZ cJ) A) (by decide) (Nat.le_of_ble_eq_true rfl) rfl ?_
  intro p e s m args below meth c ls A H S hr hlocks hnm hl hK hP hD hS hA hB hnt
  have hx := S.1
  have hb := S.2.1
  refine lv_aload_n hx hb dX8_parameter_0 rfl (lv_at hl 0 rfl) ?_
  refine lv_iload_n hx hb dX8_parameter_1 rfl (lv_at hl 1 rfl) ?_
  refine aVv (As := [.int 0]) (ci := 8) S (c_X8_needProcedure_2 l D cI cZ cJ o u ra ga H.size) mi_X8_needProcedure kw_4_166 rfl rfl ⟨Nat.le_of_ble_eq_true rfl, Nat.le_of_ble_eq_true rfl⟩ hP hD hK hS hA hB xW_0 rfl rfl hl.1 (Nat.le_of_ble_eq_true rfl) ⟨Nat.le_of_ble_eq_true rfl, Nat.le_of_ble_eq_true rfl⟩ dX8_parameter_2 (fun H locs hz hP hD hS => ?_)
  refine lv_iload_n hx hb dX8_parameter_5 rfl (lv_at hl 2 rfl) ?_
  refine rdS (As := [.int x2]) S (c_X8_isName_0 l D cI cZ cJ o u x2 hi_x2) ms_X8_isName kw_4_198 ⟨rfl, rfl⟩ ⟨Nat.le_of_ble_eq_true rfl, Nat.le_of_ble_eq_true rfl⟩ hP hK hl.1 (Nat.le_of_ble_eq_true rfl) ⟨Nat.le_of_ble_eq_true rfl, Nat.le_of_ble_eq_true rfl⟩ dX8_parameter_6 ?_
  refine lv_if_eq (tgt := 25) hx hb dX8_parameter_9 (by decide) (fun _ => ?_) (fun c => absurd c (by decide))
  refine lv_iconst (v := 0) hx hb dX8_parameter_25 (by decide) ?_
  exact tSv (As := [.int 0]) S (c_X8_needArgument_0 l D cI cZ cJ o u hst ra ga H.size) ms_X8_needArgument kw_4_4 rfl rfl ⟨Nat.le_of_ble_eq_true rfl, Nat.le_of_ble_eq_true rfl⟩ hP hD hK hS hA hB hl.1 (Nat.le_of_ble_eq_true rfl) ⟨Nat.le_of_ble_eq_true rfl, Nat.le_of_ble_eq_true rfl⟩ dX8_parameter_26 hnt hlocks (Nat.le_of_ble_eq_true rfl) (Nat.le_of_ble_eq_true rfl)

set_option maxHeartbeats 8000000 in
set_option maxRecDepth 100000 in
theorem c_X8_parameter_3 (l : Launch) (D : va_G) (cI cZ cJ : ClassId) (o : Nat) (u : Nat → Nat) (hst : l.stackTraces = false) (ra ga : Nat → Nat) (sz : Nat) (x2 : Int32) (x3 : Int32) (lo_x2 : 16 ≤ x2) : vx_Met l yX8_parameter (uW yX8_parameter cX8_parameter 4 (some .int)) ({ frames := 7, cells := 1, slots := 6, locals := 102 }) (va_Pc [.ref o, .int 0, .int x2, .int x3] (aS ra ga D (tyL cI cZ cJ) (xW o u cI cZ cJ) sz)) (nQi (va_A (xW o u cI cZ cJ) sz)) (wX "java/lang/IllegalArgumentException" D (xW o u cI cZ cJ) (va_A (xW o u cI cZ cJ) sz)) 1 6 (va_A (xW o u cI cZ cJ) sz) := by
  refine xStart (lv := [(0, .ref o), (1, .int 0), (2, .int x2), (3, .int x3)]) (Qc := fun A => nQi A) (XC := fun A => wX "java/lang/IllegalArgumentException" D (xW o u cI cZ cJ) A) (by decide) (Nat.le_of_ble_eq_true rfl) rfl ?_
  intro p e s m args below meth c ls A H S hr hlocks hnm hl hK hP hD hS hA hB hnt
  have hx := S.1
  have hb := S.2.1
  refine lv_aload_n hx hb dX8_parameter_0 rfl (lv_at hl 0 rfl) ?_
  refine lv_iload_n hx hb dX8_parameter_1 rfl (lv_at hl 1 rfl) ?_
  refine aVv (As := [.int 0]) (ci := 8) S (c_X8_needProcedure_2 l D cI cZ cJ o u ra ga H.size) mi_X8_needProcedure kw_4_166 rfl rfl ⟨Nat.le_of_ble_eq_true rfl, Nat.le_of_ble_eq_true rfl⟩ hP hD hK hS hA hB xW_0 rfl rfl hl.1 (Nat.le_of_ble_eq_true rfl) ⟨Nat.le_of_ble_eq_true rfl, Nat.le_of_ble_eq_true rfl⟩ dX8_parameter_2 (fun H locs hz hP hD hS => ?_)
  refine lv_iload_n hx hb dX8_parameter_5 rfl (lv_at hl 2 rfl) ?_
  refine rdS (As := [.int x2]) S (c_X8_isName_1 l D cI cZ cJ o u x2 lo_x2) ms_X8_isName kw_4_198 ⟨rfl, rfl⟩ ⟨Nat.le_of_ble_eq_true rfl, Nat.le_of_ble_eq_true rfl⟩ hP hK hl.1 (Nat.le_of_ble_eq_true rfl) ⟨Nat.le_of_ble_eq_true rfl, Nat.le_of_ble_eq_true rfl⟩ dX8_parameter_6 ?_
  refine lv_if_eq (tgt := 25) hx hb dX8_parameter_9 (by decide) (fun _ => ?_) (fun c => absurd c (by decide))
  refine lv_iconst (v := 0) hx hb dX8_parameter_25 (by decide) ?_
  exact tSv (As := [.int 0]) S (c_X8_needArgument_0 l D cI cZ cJ o u hst ra ga H.size) ms_X8_needArgument kw_4_4 rfl rfl ⟨Nat.le_of_ble_eq_true rfl, Nat.le_of_ble_eq_true rfl⟩ hP hD hK hS hA hB hl.1 (Nat.le_of_ble_eq_true rfl) ⟨Nat.le_of_ble_eq_true rfl, Nat.le_of_ble_eq_true rfl⟩ dX8_parameter_26 hnt hlocks (Nat.le_of_ble_eq_true rfl) (Nat.le_of_ble_eq_true rfl)

set_option maxHeartbeats 8000000 in
set_option maxRecDepth 100000 in
theorem c_X8_parameter_4 (l : Launch) (D : va_G) (cI cZ cJ : ClassId) (o : Nat) (u : Nat → Nat) (hst : l.stackTraces = false) (ra ga : Nat → Nat) (sz : Nat) (x2 : Int32) (x3 : Int32) (lo_x2 : 0 ≤ x2) (hi_x2 : x2 ≤ 15) (hi_x3 : x3 ≤ (-1)) : vx_Met l yX8_parameter (uW yX8_parameter cX8_parameter 4 (some .int)) ({ frames := 7, cells := 1, slots := 6, locals := 102 }) (va_Pc [.ref o, .int 0, .int x2, .int x3] (aS ra ga D (tyL cI cZ cJ) (xW o u cI cZ cJ) sz)) (nQi (va_A (xW o u cI cZ cJ) sz)) (wX "java/lang/IllegalArgumentException" D (xW o u cI cZ cJ) (va_A (xW o u cI cZ cJ) sz)) 1 6 (va_A (xW o u cI cZ cJ) sz) := by
  refine xStart (lv := [(0, .ref o), (1, .int 0), (2, .int x2), (3, .int x3)]) (Qc := fun A => nQi A) (XC := fun A => wX "java/lang/IllegalArgumentException" D (xW o u cI cZ cJ) A) (by decide) (Nat.le_of_ble_eq_true rfl) rfl ?_
  intro p e s m args below meth c ls A H S hr hlocks hnm hl hK hP hD hS hA hB hnt
  have hx := S.1
  have hb := S.2.1
  refine lv_aload_n hx hb dX8_parameter_0 rfl (lv_at hl 0 rfl) ?_
  refine lv_iload_n hx hb dX8_parameter_1 rfl (lv_at hl 1 rfl) ?_
  refine aVv (As := [.int 0]) (ci := 8) S (c_X8_needProcedure_2 l D cI cZ cJ o u ra ga H.size) mi_X8_needProcedure kw_4_166 rfl rfl ⟨Nat.le_of_ble_eq_true rfl, Nat.le_of_ble_eq_true rfl⟩ hP hD hK hS hA hB xW_0 rfl rfl hl.1 (Nat.le_of_ble_eq_true rfl) ⟨Nat.le_of_ble_eq_true rfl, Nat.le_of_ble_eq_true rfl⟩ dX8_parameter_2 (fun H locs hz hP hD hS => ?_)
  refine lv_iload_n hx hb dX8_parameter_5 rfl (lv_at hl 2 rfl) ?_
  refine rdS (As := [.int x2]) S (c_X8_isName_2 l D cI cZ cJ o u x2 lo_x2 hi_x2) ms_X8_isName kw_4_198 ⟨rfl, rfl⟩ ⟨Nat.le_of_ble_eq_true rfl, Nat.le_of_ble_eq_true rfl⟩ hP hK hl.1 (Nat.le_of_ble_eq_true rfl) ⟨Nat.le_of_ble_eq_true rfl, Nat.le_of_ble_eq_true rfl⟩ dX8_parameter_6 ?_
  refine lv_if_eq (tgt := 25) hx hb dX8_parameter_9 (by decide) (fun c => absurd c (by decide)) (fun _ => ?_)
  refine lv_iload_n hx hb dX8_parameter_12 rfl (lv_at hl 3 rfl) ?_
  refine lv_if_lt (tgt := 25) hx hb dX8_parameter_13 (by decide) (fun _ => ?_) (fun c => absurd (b_lt hi_x3 (by decide)) c)
  refine lv_iconst (v := 0) hx hb dX8_parameter_25 (by decide) ?_
  exact tSv (As := [.int 0]) S (c_X8_needArgument_0 l D cI cZ cJ o u hst ra ga H.size) ms_X8_needArgument kw_4_4 rfl rfl ⟨Nat.le_of_ble_eq_true rfl, Nat.le_of_ble_eq_true rfl⟩ hP hD hK hS hA hB hl.1 (Nat.le_of_ble_eq_true rfl) ⟨Nat.le_of_ble_eq_true rfl, Nat.le_of_ble_eq_true rfl⟩ dX8_parameter_26 hnt hlocks (Nat.le_of_ble_eq_true rfl) (Nat.le_of_ble_eq_true rfl)

set_option maxHeartbeats 8000000 in
set_option maxRecDepth 100000 in
theorem c_X8_parameter_5 (l : Launch) (D : va_G) (cI cZ cJ : ClassId) (o : Nat) (u : Nat → Nat) (hst : l.stackTraces = false) (ra ga : Nat → Nat) (sz : Nat) (x2 : Int32) (x3 : Int32) (lo_x2 : 0 ≤ x2) (hi_x2 : x2 ≤ 15) (lo_x3 : 6 ≤ x3) : vx_Met l yX8_parameter (uW yX8_parameter cX8_parameter 4 (some .int)) ({ frames := 7, cells := 1, slots := 6, locals := 102 }) (va_Pc [.ref o, .int 0, .int x2, .int x3] (aS ra ga D (tyL cI cZ cJ) (xW o u cI cZ cJ) sz)) (nQi (va_A (xW o u cI cZ cJ) sz)) (wX "java/lang/IllegalArgumentException" D (xW o u cI cZ cJ) (va_A (xW o u cI cZ cJ) sz)) 1 6 (va_A (xW o u cI cZ cJ) sz) := by
  refine xStart (lv := [(0, .ref o), (1, .int 0), (2, .int x2), (3, .int x3)]) (Qc := fun A => nQi A) (XC := fun A => wX "java/lang/IllegalArgumentException" D (xW o u cI cZ cJ) A) (by decide) (Nat.le_of_ble_eq_true rfl) rfl ?_
  intro p e s m args below meth c ls A H S hr hlocks hnm hl hK hP hD hS hA hB hnt
  have hx := S.1
  have hb := S.2.1
  refine lv_aload_n hx hb dX8_parameter_0 rfl (lv_at hl 0 rfl) ?_
  refine lv_iload_n hx hb dX8_parameter_1 rfl (lv_at hl 1 rfl) ?_
  refine aVv (As := [.int 0]) (ci := 8) S (c_X8_needProcedure_2 l D cI cZ cJ o u ra ga H.size) mi_X8_needProcedure kw_4_166 rfl rfl ⟨Nat.le_of_ble_eq_true rfl, Nat.le_of_ble_eq_true rfl⟩ hP hD hK hS hA hB xW_0 rfl rfl hl.1 (Nat.le_of_ble_eq_true rfl) ⟨Nat.le_of_ble_eq_true rfl, Nat.le_of_ble_eq_true rfl⟩ dX8_parameter_2 (fun H locs hz hP hD hS => ?_)
  refine lv_iload_n hx hb dX8_parameter_5 rfl (lv_at hl 2 rfl) ?_
  refine rdS (As := [.int x2]) S (c_X8_isName_2 l D cI cZ cJ o u x2 lo_x2 hi_x2) ms_X8_isName kw_4_198 ⟨rfl, rfl⟩ ⟨Nat.le_of_ble_eq_true rfl, Nat.le_of_ble_eq_true rfl⟩ hP hK hl.1 (Nat.le_of_ble_eq_true rfl) ⟨Nat.le_of_ble_eq_true rfl, Nat.le_of_ble_eq_true rfl⟩ dX8_parameter_6 ?_
  refine lv_if_eq (tgt := 25) hx hb dX8_parameter_9 (by decide) (fun c => absurd c (by decide)) (fun _ => ?_)
  refine lv_iload_n hx hb dX8_parameter_12 rfl (lv_at hl 3 rfl) ?_
  refine lv_if_lt (tgt := 25) hx hb dX8_parameter_13 (by decide) (fun c => absurd c (b_nlt lo_x3 (by decide))) (fun _ => ?_)
  refine lv_iload_n hx hb dX8_parameter_16 rfl (lv_at hl 3 rfl) ?_
  refine lv_iconst (v := 5) hx hb dX8_parameter_17 (by decide) ?_
  refine lv_icmp_gt (tgt := 25) hx hb dX8_parameter_18 (by decide) (fun _ => ?_) (fun c => absurd (b_gt lo_x3 (by decide)) c)
  refine lv_iconst (v := 0) hx hb dX8_parameter_25 (by decide) ?_
  exact tSv (As := [.int 0]) S (c_X8_needArgument_0 l D cI cZ cJ o u hst ra ga H.size) ms_X8_needArgument kw_4_4 rfl rfl ⟨Nat.le_of_ble_eq_true rfl, Nat.le_of_ble_eq_true rfl⟩ hP hD hK hS hA hB hl.1 (Nat.le_of_ble_eq_true rfl) ⟨Nat.le_of_ble_eq_true rfl, Nat.le_of_ble_eq_true rfl⟩ dX8_parameter_26 hnt hlocks (Nat.le_of_ble_eq_true rfl) (Nat.le_of_ble_eq_true rfl)

set_option maxHeartbeats 8000000 in
set_option maxRecDepth 100000 in
theorem c_X8_parameter_6 (l : Launch) (D : va_G) (cI cZ cJ : ClassId) (o : Nat) (u : Nat → Nat) (hst : l.stackTraces = false) (ra ga : Nat → Nat) (sz : Nat) (x2 : Int32) (x3 : Int32) (lo_x2 : 0 ≤ x2) (hi_x2 : x2 ≤ 15) (lo_x3 : 0 ≤ x3) (hi_x3 : x3 ≤ 5) : vx_Met l yX8_parameter (uW yX8_parameter cX8_parameter 4 (some .int)) ({ frames := 7, cells := 1, slots := 6, locals := 102 }) (va_Pc [.ref o, .int 0, .int x2, .int x3] (aS ra ga D (tyL cI cZ cJ) (xW o u cI cZ cJ) sz)) (nQi (va_A (xW o u cI cZ cJ) sz)) (wX "java/lang/IllegalStateException" D (xW o u cI cZ cJ) (va_A (xW o u cI cZ cJ) sz)) 1 6 (va_A (xW o u cI cZ cJ) sz) := by
  refine xStart (lv := [(0, .ref o), (1, .int 0), (2, .int x2), (3, .int x3)]) (Qc := fun A => nQi A) (XC := fun A => wX "java/lang/IllegalStateException" D (xW o u cI cZ cJ) A) (by decide) (Nat.le_of_ble_eq_true rfl) rfl ?_
  intro p e s m args below meth c ls A H S hr hlocks hnm hl hK hP hD hS hA hB hnt
  have hx := S.1
  have hb := S.2.1
  refine lv_aload_n hx hb dX8_parameter_0 rfl (lv_at hl 0 rfl) ?_
  refine lv_iload_n hx hb dX8_parameter_1 rfl (lv_at hl 1 rfl) ?_
  refine aVv (As := [.int 0]) (ci := 8) S (c_X8_needProcedure_2 l D cI cZ cJ o u ra ga H.size) mi_X8_needProcedure kw_4_166 rfl rfl ⟨Nat.le_of_ble_eq_true rfl, Nat.le_of_ble_eq_true rfl⟩ hP hD hK hS hA hB xW_0 rfl rfl hl.1 (Nat.le_of_ble_eq_true rfl) ⟨Nat.le_of_ble_eq_true rfl, Nat.le_of_ble_eq_true rfl⟩ dX8_parameter_2 (fun H locs hz hP hD hS => ?_)
  refine lv_iload_n hx hb dX8_parameter_5 rfl (lv_at hl 2 rfl) ?_
  refine rdS (As := [.int x2]) S (c_X8_isName_2 l D cI cZ cJ o u x2 lo_x2 hi_x2) ms_X8_isName kw_4_198 ⟨rfl, rfl⟩ ⟨Nat.le_of_ble_eq_true rfl, Nat.le_of_ble_eq_true rfl⟩ hP hK hl.1 (Nat.le_of_ble_eq_true rfl) ⟨Nat.le_of_ble_eq_true rfl, Nat.le_of_ble_eq_true rfl⟩ dX8_parameter_6 ?_
  refine lv_if_eq (tgt := 25) hx hb dX8_parameter_9 (by decide) (fun c => absurd c (by decide)) (fun _ => ?_)
  refine lv_iload_n hx hb dX8_parameter_12 rfl (lv_at hl 3 rfl) ?_
  refine lv_if_lt (tgt := 25) hx hb dX8_parameter_13 (by decide) (fun c => absurd c (b_nlt lo_x3 (by decide))) (fun _ => ?_)
  refine lv_iload_n hx hb dX8_parameter_16 rfl (lv_at hl 3 rfl) ?_
  refine lv_iconst (v := 5) hx hb dX8_parameter_17 (by decide) ?_
  refine lv_icmp_gt (tgt := 25) hx hb dX8_parameter_18 (by decide) (fun c => absurd c (b_ngt hi_x3 (by decide))) (fun _ => ?_)
  refine lv_iconst (v := 1) hx hb dX8_parameter_21 (by decide) ?_
  refine lv_goto (tgt := 26) hx hb dX8_parameter_22 (by decide) ?_
  refine aSv (As := [.int 1]) S (c_X8_needArgument_1 l D cI cZ cJ o u ra ga H.size) ms_X8_needArgument kw_4_4 rfl rfl ⟨Nat.le_of_ble_eq_true rfl, Nat.le_of_ble_eq_true rfl⟩ hP hD hK hS hA hB hl.1 (Nat.le_of_ble_eq_true rfl) ⟨Nat.le_of_ble_eq_true rfl, Nat.le_of_ble_eq_true rfl⟩ dX8_parameter_26 (fun H locs hz hP hD hS => ?_)
  refine lv_iload_n hx hb dX8_parameter_29 rfl (lv_at hl 1 rfl) ?_
  refine lv_if_eq (tgt := 49) hx hb dX8_parameter_30 (by decide) (fun _ => ?_) (fun c => absurd c (by decide))
  refine lv_iconst (v := 0) hx hb dX8_parameter_49 (by decide) ?_
  exact tSv (As := [.int 0]) S (c_X8_needState_1 l D cI cZ cJ o u hst ra ga H.size) ms_X8_needState kw_5_183 rfl rfl ⟨Nat.le_of_ble_eq_true rfl, Nat.le_of_ble_eq_true rfl⟩ hP hD hK hS hA hB hl.1 (Nat.le_of_ble_eq_true rfl) ⟨Nat.le_of_ble_eq_true rfl, Nat.le_of_ble_eq_true rfl⟩ dX8_parameter_50 hnt hlocks (Nat.le_of_ble_eq_true rfl) (Nat.le_of_ble_eq_true rfl)

set_option maxHeartbeats 8000000 in
set_option maxRecDepth 100000 in
theorem h_parameter_0 (l : Launch) (D : va_G) (cI cZ cJ : ClassId) (o : Nat) (u : Nat → Nat) (ao : Nat) (hst : l.stackTraces = false) (ra ga : Nat → Nat) (sz : Nat) (x1 : Int32) (x2 : Int32) (x3 : Int32) (hi_x1 : x1 ≤ (-1)) : vx_Met l yL_parameter (uWh yL_parameter cL_parameter 6 (some .int) [(0, 12, 15, 13), (0, 12, 19, 15), (0, 12, 23, 17)]) ({ frames := 8, cells := 1, slots := 6, locals := 126 }) (va_Pc [.ref o, .int x1, .int x2, .int x3, .ref ao] (lS ra ga D (tyL cI cZ cJ) ((xW o u cI cZ cJ) ++ [(ao, .inl (cJ, 1, .inr (.inl (fun _ => 0))))]) sz)) (wQi (1) D ((xW o u cI cZ cJ) ++ [(ao, .inl (cJ, 1, .inr (.inl (fun _ => 0))))]) (va_A ((xW o u cI cZ cJ) ++ [(ao, .inl (cJ, 1, .inr (.inl (fun _ => 0))))]) sz)) (xN (va_A ((xW o u cI cZ cJ) ++ [(ao, .inl (cJ, 1, .inr (.inl (fun _ => 0))))]) sz)) 1 6 (va_A ((xW o u cI cZ cJ) ++ [(ao, .inl (cJ, 1, .inr (.inl (fun _ => 0))))]) sz) := by
  refine hStart (l := l) (y := yL_parameter) (b := cL_parameter) (n := 6) (r := (some .int)) (hh := [(0, 12, 15, 13), (0, 12, 19, 15), (0, 12, 23, 17)]) (rm := ({ frames := 8, cells := 1, slots := 6, locals := 126 })) (mc := 1) (ms := 6) (ra := ra) (ga := ga) (D := D) (tys := tyL cI cZ cJ) (ws := ((xW o u cI cZ cJ) ++ [(ao, .inl (cJ, 1, .inr (.inl (fun _ => 0))))])) (av := [.ref o, .int x1, .int x2, .int x3, .ref ao]) (sz := sz) (lv := [(0, .ref o), (1, .int x1), (2, .int x2), (3, .int x3), (4, .ref ao)]) (Qc := fun A => wQi (1) D ((xW o u cI cZ cJ) ++ [(ao, .inl (cJ, 1, .inr (.inl (fun _ => 0))))]) A) (by decide) (Nat.le_of_ble_eq_true rfl) rfl ?_
  intro p e s m args below meth c ls A H S hr hlocks htab hl hK hP hD hS hA hB hC
  have hx := S.1
  have hb := S.2.1
  refine lv_aload hx hb dL_parameter_0 (lv_at hl 4 rfl) ?_
  refine lv_iconst (v := 0) hx hb dL_parameter_2 (by decide) ?_
  refine lv_aload_n hx hb dL_parameter_3 rfl (lv_at hl 0 rfl) ?_
  refine lv_iload_n hx hb dL_parameter_4 rfl (lv_at hl 1 rfl) ?_
  refine lv_iload_n hx hb dL_parameter_5 rfl (lv_at hl 2 rfl) ?_
  refine lv_iload_n hx hb dL_parameter_6 rfl (lv_at hl 3 rfl) ?_
  refine cVi [] [(ao, .inl (cJ, 1, .inr (.inl (fun _ => 0))))] (As := [.int x1, .int x2, .int x3]) (ci := 8) S (c_X8_parameter_0 l D cI cZ cJ o u hst ra ga H.size x1 x2 x3 hi_x1) mi_X8_parameter kw_5_213 rfl rfl ⟨Nat.le_of_ble_eq_true rfl, Nat.le_of_ble_eq_true rfl⟩ hP hD hK hS hA hB xW_0 rfl rfl hl.1 (Nat.le_of_ble_eq_true rfl) ⟨Nat.le_of_ble_eq_true rfl, Nat.le_of_ble_eq_true rfl⟩ dL_parameter_7 (fun ce q9 H locs hz hP hD hS hce hcv hcl => ?_)
  refine vx_catch (name := "java/lang/IndexOutOfBoundsException") S.2.2.2.1 [] (⟨0, 12, 15, 13⟩ : ExceptionTableEntry) [(⟨0, 12, 19, 15⟩ : ExceptionTableEntry), (⟨0, 12, 23, 17⟩ : ExceptionTableEntry)] (htab.trans rfl) (fun _ h => absurd h List.not_mem_nil) (by decide) (by decide) (S.2.2.2.2 _ kw_5_176) (va_Nw.use rfl hB.c0) hce hcv hcl ?_
  have hP : va_P D vwCl ((xW o u cI cZ cJ) ++ [(ao, .inl (cJ, 1, .inr (.inl (fun _ => 0))))]) H := hP
  have hD : va_D A ((xW o u cI cZ cJ) ++ [(ao, .inl (cJ, 1, .inr (.inl (fun _ => 0))))]) := hD
  refine lv_astore (lv' := [(5, .ref q9), (0, .ref o), (1, .int x1), (2, .int x2), (3, .int x3), (4, .ref ao)]) hx hb dL_parameter_15 hl (by decide) rfl (fun ls hl => ?_)
  refine lv_iconst (v := 1) hx hb dL_parameter_17 (by decide) ?_
  exact vx_ret (wEnd S hr hlocks hP hD hS (Nat.le_of_ble_eq_true rfl) (Nat.le_of_ble_eq_true rfl) dL_parameter_18 rfl)

set_option maxHeartbeats 8000000 in
set_option maxRecDepth 100000 in
theorem c_X9_parameter_0 (l : Launch) (D : va_G) (cI cZ cJ : ClassId) (o : Nat) (q : Nat → Nat) (sz : Nat) (x1 : Int32) (x2 : Int32) (x3 : Int32) (hi_x1 : x1 ≤ (-1)) : Met l yX9_parameter (uW yX9_parameter cX9_parameter 4 (some .int)) ({ frames := 2, cells := 0, slots := 0, locals := 43 }) (va_Pc [.ref o, .int x1, .int x2, .int x3] (wS D (tyL cI cZ cJ) (mW o 0 q cI cZ) sz)) (wQi (0) D (mW o 1 q cI cZ) (va_A (mW o 0 q cI cZ) sz)) 0 0 (va_A (mW o 0 q cI cZ) sz) := by
  refine wStart (lv := [(0, .ref o), (1, .int x1), (2, .int x2), (3, .int x3)]) (Qc := fun A => wQi (0) D (mW o 1 q cI cZ) A) (by decide) (Nat.le_of_ble_eq_true rfl) rfl ?_
  intro p e s m args below meth c ls A H S hr hlocks hnm hl hK hP hD hS hA
  have hx := S.1
  have hb := S.2.1
  refine lv_aload_n hx hb dX9_parameter_0 rfl (lv_at hl 0 rfl) ?_
  refine lv_iconst (v := 0) hx hb dX9_parameter_1 (by decide) ?_
  refine xp (ci := 9) (v := .int 0) S inX9 tyX9 tyX9_ok nmX9 rfl hK hP hD hS mW_0 0 (by decide) kw_6_148 rfl rfl rfl rfl (Nat.le_of_ble_eq_true rfl) dX9_parameter_2 (fun H locs hP hD hS => ?_)
  have hP : va_P D vwCl (mW o 0 q cI cZ) H := hP
  have hD : va_D A (mW o 0 q cI cZ) := hD
  refine lv_aload_n hx hb dX9_parameter_5 rfl (lv_at hl 0 rfl) ?_
  refine lv_iload_n hx hb dX9_parameter_6 rfl (lv_at hl 1 rfl) ?_
  refine rdV (As := [.int x1]) (ci := 9) S (c_X9_isProcedure_0 l D cI cZ cJ o q x1 hi_x1) mi_X9_isProcedure kw_7_97 ⟨rfl, rfl⟩ ⟨Nat.le_of_ble_eq_true rfl, Nat.le_of_ble_eq_true rfl⟩ hP hK mW_0 rfl rfl hl.1 (Nat.le_of_ble_eq_true rfl) ⟨Nat.le_of_ble_eq_true rfl, Nat.le_of_ble_eq_true rfl⟩ dX9_parameter_7 ?_
  refine lv_if_ne (tgt := 19) hx hb dX9_parameter_10 (by decide) (fun c => absurd c (by decide)) (fun _ => ?_)
  refine lv_aload_n hx hb dX9_parameter_13 rfl (lv_at hl 0 rfl) ?_
  refine lv_iconst (v := 1) hx hb dX9_parameter_14 (by decide) ?_
  refine wrV (As := [.int 1]) (ci := 9) S (c_X9_no_0 l D cI cZ cJ o q H.size) mi_X9_no kw_7_104 rfl rfl ⟨Nat.le_of_ble_eq_true rfl, Nat.le_of_ble_eq_true rfl⟩ hP hD hK hS hA mW_0 rfl rfl hl.1 (Nat.le_of_ble_eq_true rfl) ⟨Nat.le_of_ble_eq_true rfl, Nat.le_of_ble_eq_true rfl⟩ dX9_parameter_15 (fun H locs hz hP hD hS => ?_)
  exact wEnd S hr hlocks hP hD hS (Nat.le_of_ble_eq_true rfl) (Nat.le_of_ble_eq_true rfl) dX9_parameter_18 rfl

set_option maxHeartbeats 8000000 in
set_option maxRecDepth 100000 in
theorem h_parameter_1 (l : Launch) (D : va_G) (cI cZ cJ : ClassId) (o : Nat) (u : Nat → Nat) (ao : Nat) (hst : l.stackTraces = false) (ra ga : Nat → Nat) (sz : Nat) (x1 : Int32) (x2 : Int32) (x3 : Int32) (lo_x1 : 1 ≤ x1) : vx_Met l yL_parameter (uWh yL_parameter cL_parameter 6 (some .int) [(0, 12, 15, 13), (0, 12, 19, 15), (0, 12, 23, 17)]) ({ frames := 8, cells := 1, slots := 6, locals := 126 }) (va_Pc [.ref o, .int x1, .int x2, .int x3, .ref ao] (lS ra ga D (tyL cI cZ cJ) ((xW o u cI cZ cJ) ++ [(ao, .inl (cJ, 1, .inr (.inl (fun _ => 0))))]) sz)) (wQi (1) D ((xW o u cI cZ cJ) ++ [(ao, .inl (cJ, 1, .inr (.inl (fun _ => 0))))]) (va_A ((xW o u cI cZ cJ) ++ [(ao, .inl (cJ, 1, .inr (.inl (fun _ => 0))))]) sz)) (xN (va_A ((xW o u cI cZ cJ) ++ [(ao, .inl (cJ, 1, .inr (.inl (fun _ => 0))))]) sz)) 1 6 (va_A ((xW o u cI cZ cJ) ++ [(ao, .inl (cJ, 1, .inr (.inl (fun _ => 0))))]) sz) := by
  refine hStart (l := l) (y := yL_parameter) (b := cL_parameter) (n := 6) (r := (some .int)) (hh := [(0, 12, 15, 13), (0, 12, 19, 15), (0, 12, 23, 17)]) (rm := ({ frames := 8, cells := 1, slots := 6, locals := 126 })) (mc := 1) (ms := 6) (ra := ra) (ga := ga) (D := D) (tys := tyL cI cZ cJ) (ws := ((xW o u cI cZ cJ) ++ [(ao, .inl (cJ, 1, .inr (.inl (fun _ => 0))))])) (av := [.ref o, .int x1, .int x2, .int x3, .ref ao]) (sz := sz) (lv := [(0, .ref o), (1, .int x1), (2, .int x2), (3, .int x3), (4, .ref ao)]) (Qc := fun A => wQi (1) D ((xW o u cI cZ cJ) ++ [(ao, .inl (cJ, 1, .inr (.inl (fun _ => 0))))]) A) (by decide) (Nat.le_of_ble_eq_true rfl) rfl ?_
  intro p e s m args below meth c ls A H S hr hlocks htab hl hK hP hD hS hA hB hC
  have hx := S.1
  have hb := S.2.1
  refine lv_aload hx hb dL_parameter_0 (lv_at hl 4 rfl) ?_
  refine lv_iconst (v := 0) hx hb dL_parameter_2 (by decide) ?_
  refine lv_aload_n hx hb dL_parameter_3 rfl (lv_at hl 0 rfl) ?_
  refine lv_iload_n hx hb dL_parameter_4 rfl (lv_at hl 1 rfl) ?_
  refine lv_iload_n hx hb dL_parameter_5 rfl (lv_at hl 2 rfl) ?_
  refine lv_iload_n hx hb dL_parameter_6 rfl (lv_at hl 3 rfl) ?_
  refine cVi [] [(ao, .inl (cJ, 1, .inr (.inl (fun _ => 0))))] (As := [.int x1, .int x2, .int x3]) (ci := 8) S (c_X8_parameter_1 l D cI cZ cJ o u hst ra ga H.size x1 x2 x3 lo_x1) mi_X8_parameter kw_5_213 rfl rfl ⟨Nat.le_of_ble_eq_true rfl, Nat.le_of_ble_eq_true rfl⟩ hP hD hK hS hA hB xW_0 rfl rfl hl.1 (Nat.le_of_ble_eq_true rfl) ⟨Nat.le_of_ble_eq_true rfl, Nat.le_of_ble_eq_true rfl⟩ dL_parameter_7 (fun ce q9 H locs hz hP hD hS hce hcv hcl => ?_)
  refine vx_catch (name := "java/lang/IndexOutOfBoundsException") S.2.2.2.1 [] (⟨0, 12, 15, 13⟩ : ExceptionTableEntry) [(⟨0, 12, 19, 15⟩ : ExceptionTableEntry), (⟨0, 12, 23, 17⟩ : ExceptionTableEntry)] (htab.trans rfl) (fun _ h => absurd h List.not_mem_nil) (by decide) (by decide) (S.2.2.2.2 _ kw_5_176) (va_Nw.use rfl hB.c0) hce hcv hcl ?_
  have hP : va_P D vwCl ((xW o u cI cZ cJ) ++ [(ao, .inl (cJ, 1, .inr (.inl (fun _ => 0))))]) H := hP
  have hD : va_D A ((xW o u cI cZ cJ) ++ [(ao, .inl (cJ, 1, .inr (.inl (fun _ => 0))))]) := hD
  refine lv_astore (lv' := [(5, .ref q9), (0, .ref o), (1, .int x1), (2, .int x2), (3, .int x3), (4, .ref ao)]) hx hb dL_parameter_15 hl (by decide) rfl (fun ls hl => ?_)
  refine lv_iconst (v := 1) hx hb dL_parameter_17 (by decide) ?_
  exact vx_ret (wEnd S hr hlocks hP hD hS (Nat.le_of_ble_eq_true rfl) (Nat.le_of_ble_eq_true rfl) dL_parameter_18 rfl)

set_option maxHeartbeats 8000000 in
set_option maxRecDepth 100000 in
theorem c_X9_parameter_1 (l : Launch) (D : va_G) (cI cZ cJ : ClassId) (o : Nat) (q : Nat → Nat) (sz : Nat) (x1 : Int32) (x2 : Int32) (x3 : Int32) (lo_x1 : 1 ≤ x1) : Met l yX9_parameter (uW yX9_parameter cX9_parameter 4 (some .int)) ({ frames := 2, cells := 0, slots := 0, locals := 43 }) (va_Pc [.ref o, .int x1, .int x2, .int x3] (wS D (tyL cI cZ cJ) (mW o 0 q cI cZ) sz)) (wQi (0) D (mW o 1 q cI cZ) (va_A (mW o 0 q cI cZ) sz)) 0 0 (va_A (mW o 0 q cI cZ) sz) := by
  refine wStart (lv := [(0, .ref o), (1, .int x1), (2, .int x2), (3, .int x3)]) (Qc := fun A => wQi (0) D (mW o 1 q cI cZ) A) (by decide) (Nat.le_of_ble_eq_true rfl) rfl ?_
  intro p e s m args below meth c ls A H S hr hlocks hnm hl hK hP hD hS hA
  have hx := S.1
  have hb := S.2.1
  refine lv_aload_n hx hb dX9_parameter_0 rfl (lv_at hl 0 rfl) ?_
  refine lv_iconst (v := 0) hx hb dX9_parameter_1 (by decide) ?_
  refine xp (ci := 9) (v := .int 0) S inX9 tyX9 tyX9_ok nmX9 rfl hK hP hD hS mW_0 0 (by decide) kw_6_148 rfl rfl rfl rfl (Nat.le_of_ble_eq_true rfl) dX9_parameter_2 (fun H locs hP hD hS => ?_)
  have hP : va_P D vwCl (mW o 0 q cI cZ) H := hP
  have hD : va_D A (mW o 0 q cI cZ) := hD
  refine lv_aload_n hx hb dX9_parameter_5 rfl (lv_at hl 0 rfl) ?_
  refine lv_iload_n hx hb dX9_parameter_6 rfl (lv_at hl 1 rfl) ?_
  refine rdV (As := [.int x1]) (ci := 9) S (c_X9_isProcedure_1 l D cI cZ cJ o q x1 lo_x1) mi_X9_isProcedure kw_7_97 ⟨rfl, rfl⟩ ⟨Nat.le_of_ble_eq_true rfl, Nat.le_of_ble_eq_true rfl⟩ hP hK mW_0 rfl rfl hl.1 (Nat.le_of_ble_eq_true rfl) ⟨Nat.le_of_ble_eq_true rfl, Nat.le_of_ble_eq_true rfl⟩ dX9_parameter_7 ?_
  refine lv_if_ne (tgt := 19) hx hb dX9_parameter_10 (by decide) (fun c => absurd c (by decide)) (fun _ => ?_)
  refine lv_aload_n hx hb dX9_parameter_13 rfl (lv_at hl 0 rfl) ?_
  refine lv_iconst (v := 1) hx hb dX9_parameter_14 (by decide) ?_
  refine wrV (As := [.int 1]) (ci := 9) S (c_X9_no_0 l D cI cZ cJ o q H.size) mi_X9_no kw_7_104 rfl rfl ⟨Nat.le_of_ble_eq_true rfl, Nat.le_of_ble_eq_true rfl⟩ hP hD hK hS hA mW_0 rfl rfl hl.1 (Nat.le_of_ble_eq_true rfl) ⟨Nat.le_of_ble_eq_true rfl, Nat.le_of_ble_eq_true rfl⟩ dX9_parameter_15 (fun H locs hz hP hD hS => ?_)
  exact wEnd S hr hlocks hP hD hS (Nat.le_of_ble_eq_true rfl) (Nat.le_of_ble_eq_true rfl) dX9_parameter_18 rfl

set_option maxHeartbeats 8000000 in
set_option maxRecDepth 100000 in
theorem h_parameter_2 (l : Launch) (D : va_G) (cI cZ cJ : ClassId) (o : Nat) (u : Nat → Nat) (ao : Nat) (hst : l.stackTraces = false) (ra ga : Nat → Nat) (sz : Nat) (x2 : Int32) (x3 : Int32) (hi_x2 : x2 ≤ (-1)) : vx_Met l yL_parameter (uWh yL_parameter cL_parameter 6 (some .int) [(0, 12, 15, 13), (0, 12, 19, 15), (0, 12, 23, 17)]) ({ frames := 8, cells := 1, slots := 6, locals := 125 }) (va_Pc [.ref o, .int 0, .int x2, .int x3, .ref ao] (lS ra ga D (tyL cI cZ cJ) ((xW o u cI cZ cJ) ++ [(ao, .inl (cJ, 1, .inr (.inl (fun _ => 0))))]) sz)) (wQi (2) D ((xW o u cI cZ cJ) ++ [(ao, .inl (cJ, 1, .inr (.inl (fun _ => 0))))]) (va_A ((xW o u cI cZ cJ) ++ [(ao, .inl (cJ, 1, .inr (.inl (fun _ => 0))))]) sz)) (xN (va_A ((xW o u cI cZ cJ) ++ [(ao, .inl (cJ, 1, .inr (.inl (fun _ => 0))))]) sz)) 1 6 (va_A ((xW o u cI cZ cJ) ++ [(ao, .inl (cJ, 1, .inr (.inl (fun _ => 0))))]) sz) := by
  refine hStart (l := l) (y := yL_parameter) (b := cL_parameter) (n := 6) (r := (some .int)) (hh := [(0, 12, 15, 13), (0, 12, 19, 15), (0, 12, 23, 17)]) (rm := ({ frames := 8, cells := 1, slots := 6, locals := 125 })) (mc := 1) (ms := 6) (ra := ra) (ga := ga) (D := D) (tys := tyL cI cZ cJ) (ws := ((xW o u cI cZ cJ) ++ [(ao, .inl (cJ, 1, .inr (.inl (fun _ => 0))))])) (av := [.ref o, .int 0, .int x2, .int x3, .ref ao]) (sz := sz) (lv := [(0, .ref o), (1, .int 0), (2, .int x2), (3, .int x3), (4, .ref ao)]) (Qc := fun A => wQi (2) D ((xW o u cI cZ cJ) ++ [(ao, .inl (cJ, 1, .inr (.inl (fun _ => 0))))]) A) (by decide) (Nat.le_of_ble_eq_true rfl) rfl ?_
  intro p e s m args below meth c ls A H S hr hlocks htab hl hK hP hD hS hA hB hC
  have hx := S.1
  have hb := S.2.1
  refine lv_aload hx hb dL_parameter_0 (lv_at hl 4 rfl) ?_
  refine lv_iconst (v := 0) hx hb dL_parameter_2 (by decide) ?_
  refine lv_aload_n hx hb dL_parameter_3 rfl (lv_at hl 0 rfl) ?_
  refine lv_iload_n hx hb dL_parameter_4 rfl (lv_at hl 1 rfl) ?_
  refine lv_iload_n hx hb dL_parameter_5 rfl (lv_at hl 2 rfl) ?_
  refine lv_iload_n hx hb dL_parameter_6 rfl (lv_at hl 3 rfl) ?_
  refine cVi [] [(ao, .inl (cJ, 1, .inr (.inl (fun _ => 0))))] (As := [.int 0, .int x2, .int x3]) (ci := 8) S (c_X8_parameter_2 l D cI cZ cJ o u hst ra ga H.size x2 x3 hi_x2) mi_X8_parameter kw_5_213 rfl rfl ⟨Nat.le_of_ble_eq_true rfl, Nat.le_of_ble_eq_true rfl⟩ hP hD hK hS hA hB xW_0 rfl rfl hl.1 (Nat.le_of_ble_eq_true rfl) ⟨Nat.le_of_ble_eq_true rfl, Nat.le_of_ble_eq_true rfl⟩ dL_parameter_7 (fun ce q9 H locs hz hP hD hS hce hcv hcl => ?_)
  refine vx_catch (name := "java/lang/IllegalArgumentException") S.2.2.2.1 [(⟨0, 12, 15, 13⟩ : ExceptionTableEntry)] (⟨0, 12, 19, 15⟩ : ExceptionTableEntry) [(⟨0, 12, 23, 17⟩ : ExceptionTableEntry)] (htab.trans rfl) (List.forall_mem_cons.mpr ⟨Or.inr ⟨by decide, "java/lang/IndexOutOfBoundsException", S.2.2.2.2 _ kw_5_176, hC.1⟩, (fun _ h => absurd h List.not_mem_nil)⟩) (by decide) (by decide) (S.2.2.2.2 _ kw_5_177) (va_Nw.use rfl hB.c1) hce hcv hcl ?_
  have hP : va_P D vwCl ((xW o u cI cZ cJ) ++ [(ao, .inl (cJ, 1, .inr (.inl (fun _ => 0))))]) H := hP
  have hD : va_D A ((xW o u cI cZ cJ) ++ [(ao, .inl (cJ, 1, .inr (.inl (fun _ => 0))))]) := hD
  refine lv_astore (lv' := [(5, .ref q9), (0, .ref o), (1, .int 0), (2, .int x2), (3, .int x3), (4, .ref ao)]) hx hb dL_parameter_19 hl (by decide) rfl (fun ls hl => ?_)
  refine lv_iconst (v := 2) hx hb dL_parameter_21 (by decide) ?_
  exact vx_ret (wEnd S hr hlocks hP hD hS (Nat.le_of_ble_eq_true rfl) (Nat.le_of_ble_eq_true rfl) dL_parameter_22 rfl)

set_option maxHeartbeats 8000000 in
set_option maxRecDepth 100000 in
theorem c_X9_parameter_2 (l : Launch) (D : va_G) (cI cZ cJ : ClassId) (o : Nat) (q : Nat → Nat) (sz : Nat) (x2 : Int32) (x3 : Int32) (hi_x2 : x2 ≤ (-1)) : Met l yX9_parameter (uW yX9_parameter cX9_parameter 4 (some .int)) ({ frames := 2, cells := 0, slots := 0, locals := 43 }) (va_Pc [.ref o, .int 0, .int x2, .int x3] (wS D (tyL cI cZ cJ) (mW o 0 q cI cZ) sz)) (wQi (0) D (mW o 2 q cI cZ) (va_A (mW o 0 q cI cZ) sz)) 0 0 (va_A (mW o 0 q cI cZ) sz) := by
  refine wStart (lv := [(0, .ref o), (1, .int 0), (2, .int x2), (3, .int x3)]) (Qc := fun A => wQi (0) D (mW o 2 q cI cZ) A) (by decide) (Nat.le_of_ble_eq_true rfl) rfl ?_
  intro p e s m args below meth c ls A H S hr hlocks hnm hl hK hP hD hS hA
  have hx := S.1
  have hb := S.2.1
  refine lv_aload_n hx hb dX9_parameter_0 rfl (lv_at hl 0 rfl) ?_
  refine lv_iconst (v := 0) hx hb dX9_parameter_1 (by decide) ?_
  refine xp (ci := 9) (v := .int 0) S inX9 tyX9 tyX9_ok nmX9 rfl hK hP hD hS mW_0 0 (by decide) kw_6_148 rfl rfl rfl rfl (Nat.le_of_ble_eq_true rfl) dX9_parameter_2 (fun H locs hP hD hS => ?_)
  have hP : va_P D vwCl (mW o 0 q cI cZ) H := hP
  have hD : va_D A (mW o 0 q cI cZ) := hD
  refine lv_aload_n hx hb dX9_parameter_5 rfl (lv_at hl 0 rfl) ?_
  refine lv_iload_n hx hb dX9_parameter_6 rfl (lv_at hl 1 rfl) ?_
  refine rdV (As := [.int 0]) (ci := 9) S (c_X9_isProcedure_2 l D cI cZ cJ o q) mi_X9_isProcedure kw_7_97 ⟨rfl, rfl⟩ ⟨Nat.le_of_ble_eq_true rfl, Nat.le_of_ble_eq_true rfl⟩ hP hK mW_0 rfl rfl hl.1 (Nat.le_of_ble_eq_true rfl) ⟨Nat.le_of_ble_eq_true rfl, Nat.le_of_ble_eq_true rfl⟩ dX9_parameter_7 ?_
  refine lv_if_ne (tgt := 19) hx hb dX9_parameter_10 (by decide) (fun _ => ?_) (fun c => absurd c (by decide))
  refine lv_iload_n hx hb dX9_parameter_19 rfl (lv_at hl 2 rfl) ?_
  refine rdS (As := [.int x2]) S (c_X9_isName_0 l D cI cZ cJ o q x2 hi_x2) ms_X9_isName kw_7_108 ⟨rfl, rfl⟩ ⟨Nat.le_of_ble_eq_true rfl, Nat.le_of_ble_eq_true rfl⟩ hP hK hl.1 (Nat.le_of_ble_eq_true rfl) ⟨Nat.le_of_ble_eq_true rfl, Nat.le_of_ble_eq_true rfl⟩ dX9_parameter_20 ?_
  refine lv_if_eq (tgt := 35) hx hb dX9_parameter_23 (by decide) (fun _ => ?_) (fun c => absurd c (by decide))
  refine lv_aload_n hx hb dX9_parameter_35 rfl (lv_at hl 0 rfl) ?_
  refine lv_iconst (v := 2) hx hb dX9_parameter_36 (by decide) ?_
  refine wrV (As := [.int 2]) (ci := 9) S (c_X9_no_1 l D cI cZ cJ o q H.size) mi_X9_no kw_7_104 rfl rfl ⟨Nat.le_of_ble_eq_true rfl, Nat.le_of_ble_eq_true rfl⟩ hP hD hK hS hA mW_0 rfl rfl hl.1 (Nat.le_of_ble_eq_true rfl) ⟨Nat.le_of_ble_eq_true rfl, Nat.le_of_ble_eq_true rfl⟩ dX9_parameter_37 (fun H locs hz hP hD hS => ?_)
  exact wEnd S hr hlocks hP hD hS (Nat.le_of_ble_eq_true rfl) (Nat.le_of_ble_eq_true rfl) dX9_parameter_40 rfl

set_option maxHeartbeats 8000000 in
set_option maxRecDepth 100000 in
theorem h_parameter_3 (l : Launch) (D : va_G) (cI cZ cJ : ClassId) (o : Nat) (u : Nat → Nat) (ao : Nat) (hst : l.stackTraces = false) (ra ga : Nat → Nat) (sz : Nat) (x2 : Int32) (x3 : Int32) (lo_x2 : 16 ≤ x2) : vx_Met l yL_parameter (uWh yL_parameter cL_parameter 6 (some .int) [(0, 12, 15, 13), (0, 12, 19, 15), (0, 12, 23, 17)]) ({ frames := 8, cells := 1, slots := 6, locals := 125 }) (va_Pc [.ref o, .int 0, .int x2, .int x3, .ref ao] (lS ra ga D (tyL cI cZ cJ) ((xW o u cI cZ cJ) ++ [(ao, .inl (cJ, 1, .inr (.inl (fun _ => 0))))]) sz)) (wQi (2) D ((xW o u cI cZ cJ) ++ [(ao, .inl (cJ, 1, .inr (.inl (fun _ => 0))))]) (va_A ((xW o u cI cZ cJ) ++ [(ao, .inl (cJ, 1, .inr (.inl (fun _ => 0))))]) sz)) (xN (va_A ((xW o u cI cZ cJ) ++ [(ao, .inl (cJ, 1, .inr (.inl (fun _ => 0))))]) sz)) 1 6 (va_A ((xW o u cI cZ cJ) ++ [(ao, .inl (cJ, 1, .inr (.inl (fun _ => 0))))]) sz) := by
  refine hStart (l := l) (y := yL_parameter) (b := cL_parameter) (n := 6) (r := (some .int)) (hh := [(0, 12, 15, 13), (0, 12, 19, 15), (0, 12, 23, 17)]) (rm := ({ frames := 8, cells := 1, slots := 6, locals := 125 })) (mc := 1) (ms := 6) (ra := ra) (ga := ga) (D := D) (tys := tyL cI cZ cJ) (ws := ((xW o u cI cZ cJ) ++ [(ao, .inl (cJ, 1, .inr (.inl (fun _ => 0))))])) (av := [.ref o, .int 0, .int x2, .int x3, .ref ao]) (sz := sz) (lv := [(0, .ref o), (1, .int 0), (2, .int x2), (3, .int x3), (4, .ref ao)]) (Qc := fun A => wQi (2) D ((xW o u cI cZ cJ) ++ [(ao, .inl (cJ, 1, .inr (.inl (fun _ => 0))))]) A) (by decide) (Nat.le_of_ble_eq_true rfl) rfl ?_
  intro p e s m args below meth c ls A H S hr hlocks htab hl hK hP hD hS hA hB hC
  have hx := S.1
  have hb := S.2.1
  refine lv_aload hx hb dL_parameter_0 (lv_at hl 4 rfl) ?_
  refine lv_iconst (v := 0) hx hb dL_parameter_2 (by decide) ?_
  refine lv_aload_n hx hb dL_parameter_3 rfl (lv_at hl 0 rfl) ?_
  refine lv_iload_n hx hb dL_parameter_4 rfl (lv_at hl 1 rfl) ?_
  refine lv_iload_n hx hb dL_parameter_5 rfl (lv_at hl 2 rfl) ?_
  refine lv_iload_n hx hb dL_parameter_6 rfl (lv_at hl 3 rfl) ?_
  refine cVi [] [(ao, .inl (cJ, 1, .inr (.inl (fun _ => 0))))] (As := [.int 0, .int x2, .int x3]) (ci := 8) S (c_X8_parameter_3 l D cI cZ cJ o u hst ra ga H.size x2 x3 lo_x2) mi_X8_parameter kw_5_213 rfl rfl ⟨Nat.le_of_ble_eq_true rfl, Nat.le_of_ble_eq_true rfl⟩ hP hD hK hS hA hB xW_0 rfl rfl hl.1 (Nat.le_of_ble_eq_true rfl) ⟨Nat.le_of_ble_eq_true rfl, Nat.le_of_ble_eq_true rfl⟩ dL_parameter_7 (fun ce q9 H locs hz hP hD hS hce hcv hcl => ?_)
  refine vx_catch (name := "java/lang/IllegalArgumentException") S.2.2.2.1 [(⟨0, 12, 15, 13⟩ : ExceptionTableEntry)] (⟨0, 12, 19, 15⟩ : ExceptionTableEntry) [(⟨0, 12, 23, 17⟩ : ExceptionTableEntry)] (htab.trans rfl) (List.forall_mem_cons.mpr ⟨Or.inr ⟨by decide, "java/lang/IndexOutOfBoundsException", S.2.2.2.2 _ kw_5_176, hC.1⟩, (fun _ h => absurd h List.not_mem_nil)⟩) (by decide) (by decide) (S.2.2.2.2 _ kw_5_177) (va_Nw.use rfl hB.c1) hce hcv hcl ?_
  have hP : va_P D vwCl ((xW o u cI cZ cJ) ++ [(ao, .inl (cJ, 1, .inr (.inl (fun _ => 0))))]) H := hP
  have hD : va_D A ((xW o u cI cZ cJ) ++ [(ao, .inl (cJ, 1, .inr (.inl (fun _ => 0))))]) := hD
  refine lv_astore (lv' := [(5, .ref q9), (0, .ref o), (1, .int 0), (2, .int x2), (3, .int x3), (4, .ref ao)]) hx hb dL_parameter_19 hl (by decide) rfl (fun ls hl => ?_)
  refine lv_iconst (v := 2) hx hb dL_parameter_21 (by decide) ?_
  exact vx_ret (wEnd S hr hlocks hP hD hS (Nat.le_of_ble_eq_true rfl) (Nat.le_of_ble_eq_true rfl) dL_parameter_22 rfl)

set_option maxHeartbeats 8000000 in
set_option maxRecDepth 100000 in
theorem c_X9_parameter_3 (l : Launch) (D : va_G) (cI cZ cJ : ClassId) (o : Nat) (q : Nat → Nat) (sz : Nat) (x2 : Int32) (x3 : Int32) (lo_x2 : 16 ≤ x2) : Met l yX9_parameter (uW yX9_parameter cX9_parameter 4 (some .int)) ({ frames := 2, cells := 0, slots := 0, locals := 43 }) (va_Pc [.ref o, .int 0, .int x2, .int x3] (wS D (tyL cI cZ cJ) (mW o 0 q cI cZ) sz)) (wQi (0) D (mW o 2 q cI cZ) (va_A (mW o 0 q cI cZ) sz)) 0 0 (va_A (mW o 0 q cI cZ) sz) := by
  refine wStart (lv := [(0, .ref o), (1, .int 0), (2, .int x2), (3, .int x3)]) (Qc := fun A => wQi (0) D (mW o 2 q cI cZ) A) (by decide) (Nat.le_of_ble_eq_true rfl) rfl ?_
  intro p e s m args below meth c ls A H S hr hlocks hnm hl hK hP hD hS hA
  have hx := S.1
  have hb := S.2.1
  refine lv_aload_n hx hb dX9_parameter_0 rfl (lv_at hl 0 rfl) ?_
  refine lv_iconst (v := 0) hx hb dX9_parameter_1 (by decide) ?_
  refine xp (ci := 9) (v := .int 0) S inX9 tyX9 tyX9_ok nmX9 rfl hK hP hD hS mW_0 0 (by decide) kw_6_148 rfl rfl rfl rfl (Nat.le_of_ble_eq_true rfl) dX9_parameter_2 (fun H locs hP hD hS => ?_)
  have hP : va_P D vwCl (mW o 0 q cI cZ) H := hP
  have hD : va_D A (mW o 0 q cI cZ) := hD
  refine lv_aload_n hx hb dX9_parameter_5 rfl (lv_at hl 0 rfl) ?_
  refine lv_iload_n hx hb dX9_parameter_6 rfl (lv_at hl 1 rfl) ?_
  refine rdV (As := [.int 0]) (ci := 9) S (c_X9_isProcedure_2 l D cI cZ cJ o q) mi_X9_isProcedure kw_7_97 ⟨rfl, rfl⟩ ⟨Nat.le_of_ble_eq_true rfl, Nat.le_of_ble_eq_true rfl⟩ hP hK mW_0 rfl rfl hl.1 (Nat.le_of_ble_eq_true rfl) ⟨Nat.le_of_ble_eq_true rfl, Nat.le_of_ble_eq_true rfl⟩ dX9_parameter_7 ?_
  refine lv_if_ne (tgt := 19) hx hb dX9_parameter_10 (by decide) (fun _ => ?_) (fun c => absurd c (by decide))
  refine lv_iload_n hx hb dX9_parameter_19 rfl (lv_at hl 2 rfl) ?_
  refine rdS (As := [.int x2]) S (c_X9_isName_1 l D cI cZ cJ o q x2 lo_x2) ms_X9_isName kw_7_108 ⟨rfl, rfl⟩ ⟨Nat.le_of_ble_eq_true rfl, Nat.le_of_ble_eq_true rfl⟩ hP hK hl.1 (Nat.le_of_ble_eq_true rfl) ⟨Nat.le_of_ble_eq_true rfl, Nat.le_of_ble_eq_true rfl⟩ dX9_parameter_20 ?_
  refine lv_if_eq (tgt := 35) hx hb dX9_parameter_23 (by decide) (fun _ => ?_) (fun c => absurd c (by decide))
  refine lv_aload_n hx hb dX9_parameter_35 rfl (lv_at hl 0 rfl) ?_
  refine lv_iconst (v := 2) hx hb dX9_parameter_36 (by decide) ?_
  refine wrV (As := [.int 2]) (ci := 9) S (c_X9_no_1 l D cI cZ cJ o q H.size) mi_X9_no kw_7_104 rfl rfl ⟨Nat.le_of_ble_eq_true rfl, Nat.le_of_ble_eq_true rfl⟩ hP hD hK hS hA mW_0 rfl rfl hl.1 (Nat.le_of_ble_eq_true rfl) ⟨Nat.le_of_ble_eq_true rfl, Nat.le_of_ble_eq_true rfl⟩ dX9_parameter_37 (fun H locs hz hP hD hS => ?_)
  exact wEnd S hr hlocks hP hD hS (Nat.le_of_ble_eq_true rfl) (Nat.le_of_ble_eq_true rfl) dX9_parameter_40 rfl

set_option maxHeartbeats 8000000 in
set_option maxRecDepth 100000 in
theorem h_parameter_4 (l : Launch) (D : va_G) (cI cZ cJ : ClassId) (o : Nat) (u : Nat → Nat) (ao : Nat) (hst : l.stackTraces = false) (ra ga : Nat → Nat) (sz : Nat) (x2 : Int32) (x3 : Int32) (lo_x2 : 0 ≤ x2) (hi_x2 : x2 ≤ 15) (hi_x3 : x3 ≤ (-1)) : vx_Met l yL_parameter (uWh yL_parameter cL_parameter 6 (some .int) [(0, 12, 15, 13), (0, 12, 19, 15), (0, 12, 23, 17)]) ({ frames := 8, cells := 1, slots := 6, locals := 125 }) (va_Pc [.ref o, .int 0, .int x2, .int x3, .ref ao] (lS ra ga D (tyL cI cZ cJ) ((xW o u cI cZ cJ) ++ [(ao, .inl (cJ, 1, .inr (.inl (fun _ => 0))))]) sz)) (wQi (2) D ((xW o u cI cZ cJ) ++ [(ao, .inl (cJ, 1, .inr (.inl (fun _ => 0))))]) (va_A ((xW o u cI cZ cJ) ++ [(ao, .inl (cJ, 1, .inr (.inl (fun _ => 0))))]) sz)) (xN (va_A ((xW o u cI cZ cJ) ++ [(ao, .inl (cJ, 1, .inr (.inl (fun _ => 0))))]) sz)) 1 6 (va_A ((xW o u cI cZ cJ) ++ [(ao, .inl (cJ, 1, .inr (.inl (fun _ => 0))))]) sz) := by
  refine hStart (l := l) (y := yL_parameter) (b := cL_parameter) (n := 6) (r := (some .int)) (hh := [(0, 12, 15, 13), (0, 12, 19, 15), (0, 12, 23, 17)]) (rm := ({ frames := 8, cells := 1, slots := 6, locals := 125 })) (mc := 1) (ms := 6) (ra := ra) (ga := ga) (D := D) (tys := tyL cI cZ cJ) (ws := ((xW o u cI cZ cJ) ++ [(ao, .inl (cJ, 1, .inr (.inl (fun _ => 0))))])) (av := [.ref o, .int 0, .int x2, .int x3, .ref ao]) (sz := sz) (lv := [(0, .ref o), (1, .int 0), (2, .int x2), (3, .int x3), (4, .ref ao)]) (Qc := fun A => wQi (2) D ((xW o u cI cZ cJ) ++ [(ao, .inl (cJ, 1, .inr (.inl (fun _ => 0))))]) A) (by decide) (Nat.le_of_ble_eq_true rfl) rfl ?_
  intro p e s m args below meth c ls A H S hr hlocks htab hl hK hP hD hS hA hB hC
  have hx := S.1
  have hb := S.2.1
  refine lv_aload hx hb dL_parameter_0 (lv_at hl 4 rfl) ?_
  refine lv_iconst (v := 0) hx hb dL_parameter_2 (by decide) ?_
  refine lv_aload_n hx hb dL_parameter_3 rfl (lv_at hl 0 rfl) ?_
  refine lv_iload_n hx hb dL_parameter_4 rfl (lv_at hl 1 rfl) ?_
  refine lv_iload_n hx hb dL_parameter_5 rfl (lv_at hl 2 rfl) ?_
  refine lv_iload_n hx hb dL_parameter_6 rfl (lv_at hl 3 rfl) ?_
  refine cVi [] [(ao, .inl (cJ, 1, .inr (.inl (fun _ => 0))))] (As := [.int 0, .int x2, .int x3]) (ci := 8) S (c_X8_parameter_4 l D cI cZ cJ o u hst ra ga H.size x2 x3 lo_x2 hi_x2 hi_x3) mi_X8_parameter kw_5_213 rfl rfl ⟨Nat.le_of_ble_eq_true rfl, Nat.le_of_ble_eq_true rfl⟩ hP hD hK hS hA hB xW_0 rfl rfl hl.1 (Nat.le_of_ble_eq_true rfl) ⟨Nat.le_of_ble_eq_true rfl, Nat.le_of_ble_eq_true rfl⟩ dL_parameter_7 (fun ce q9 H locs hz hP hD hS hce hcv hcl => ?_)
  refine vx_catch (name := "java/lang/IllegalArgumentException") S.2.2.2.1 [(⟨0, 12, 15, 13⟩ : ExceptionTableEntry)] (⟨0, 12, 19, 15⟩ : ExceptionTableEntry) [(⟨0, 12, 23, 17⟩ : ExceptionTableEntry)] (htab.trans rfl) (List.forall_mem_cons.mpr ⟨Or.inr ⟨by decide, "java/lang/IndexOutOfBoundsException", S.2.2.2.2 _ kw_5_176, hC.1⟩, (fun _ h => absurd h List.not_mem_nil)⟩) (by decide) (by decide) (S.2.2.2.2 _ kw_5_177) (va_Nw.use rfl hB.c1) hce hcv hcl ?_
  have hP : va_P D vwCl ((xW o u cI cZ cJ) ++ [(ao, .inl (cJ, 1, .inr (.inl (fun _ => 0))))]) H := hP
  have hD : va_D A ((xW o u cI cZ cJ) ++ [(ao, .inl (cJ, 1, .inr (.inl (fun _ => 0))))]) := hD
  refine lv_astore (lv' := [(5, .ref q9), (0, .ref o), (1, .int 0), (2, .int x2), (3, .int x3), (4, .ref ao)]) hx hb dL_parameter_19 hl (by decide) rfl (fun ls hl => ?_)
  refine lv_iconst (v := 2) hx hb dL_parameter_21 (by decide) ?_
  exact vx_ret (wEnd S hr hlocks hP hD hS (Nat.le_of_ble_eq_true rfl) (Nat.le_of_ble_eq_true rfl) dL_parameter_22 rfl)

set_option maxHeartbeats 8000000 in
set_option maxRecDepth 100000 in
theorem c_X9_isIn_6 (l : Launch) (D : va_G) (cI cZ cJ : ClassId) (o : Nat) (q : Nat → Nat) (x3 : Int32) (hi_x3 : x3 ≤ (-1)) : Met l yX9_isIn (uW yX9_isIn cX9_isIn 3 (some .boolean)) ({ frames := 0, cells := 0, slots := 0, locals := 0 }) (va_Pc [.int x3, .int 0, .int 5] (pS D (tyL cI cZ cJ) (mW o 0 q cI cZ))) (QcRead (0)) 0 0 (fun _ => False) := by
  refine rdStart (lv := [(0, .int x3), (1, .int 0), (2, .int 5)]) (by decide) (Nat.le_of_ble_eq_true rfl) rfl ?_
  intro p e s m args below meth c ls S hr hlocks hl hP hK
  have hx := S.1
  have hb := S.2.1
  refine lv_iload_n hx hb dX9_isIn_0 rfl (lv_at hl 0 rfl) ?_
  refine lv_iload_n hx hb dX9_isIn_1 rfl (lv_at hl 1 rfl) ?_
  refine lv_icmp_lt (tgt := 14) hx hb dX9_isIn_2 (by decide) (fun _ => ?_) (fun c => absurd (b_lt hi_x3 (by decide)) c)
  refine lv_iconst (v := 0) hx hb dX9_isIn_14 (by decide) ?_
  exact rdEndZ S hr hlocks dX9_isIn_15 rfl rfl

set_option maxHeartbeats 8000000 in
set_option maxRecDepth 100000 in
theorem c_X9_parameter_4 (l : Launch) (D : va_G) (cI cZ cJ : ClassId) (o : Nat) (q : Nat → Nat) (sz : Nat) (x2 : Int32) (x3 : Int32) (lo_x2 : 0 ≤ x2) (hi_x2 : x2 ≤ 15) (hi_x3 : x3 ≤ (-1)) : Met l yX9_parameter (uW yX9_parameter cX9_parameter 4 (some .int)) ({ frames := 2, cells := 0, slots := 0, locals := 43 }) (va_Pc [.ref o, .int 0, .int x2, .int x3] (wS D (tyL cI cZ cJ) (mW o 0 q cI cZ) sz)) (wQi (0) D (mW o 2 q cI cZ) (va_A (mW o 0 q cI cZ) sz)) 0 0 (va_A (mW o 0 q cI cZ) sz) := by
  refine wStart (lv := [(0, .ref o), (1, .int 0), (2, .int x2), (3, .int x3)]) (Qc := fun A => wQi (0) D (mW o 2 q cI cZ) A) (by decide) (Nat.le_of_ble_eq_true rfl) rfl ?_
  intro p e s m args below meth c ls A H S hr hlocks hnm hl hK hP hD hS hA
  have hx := S.1
  have hb := S.2.1
  refine lv_aload_n hx hb dX9_parameter_0 rfl (lv_at hl 0 rfl) ?_
  refine lv_iconst (v := 0) hx hb dX9_parameter_1 (by decide) ?_
  refine xp (ci := 9) (v := .int 0) S inX9 tyX9 tyX9_ok nmX9 rfl hK hP hD hS mW_0 0 (by decide) kw_6_148 rfl rfl rfl rfl (Nat.le_of_ble_eq_true rfl) dX9_parameter_2 (fun H locs hP hD hS => ?_)
  have hP : va_P D vwCl (mW o 0 q cI cZ) H := hP
  have hD : va_D A (mW o 0 q cI cZ) := hD
  refine lv_aload_n hx hb dX9_parameter_5 rfl (lv_at hl 0 rfl) ?_
  refine lv_iload_n hx hb dX9_parameter_6 rfl (lv_at hl 1 rfl) ?_
  refine rdV (As := [.int 0]) (ci := 9) S (c_X9_isProcedure_2 l D cI cZ cJ o q) mi_X9_isProcedure kw_7_97 ⟨rfl, rfl⟩ ⟨Nat.le_of_ble_eq_true rfl, Nat.le_of_ble_eq_true rfl⟩ hP hK mW_0 rfl rfl hl.1 (Nat.le_of_ble_eq_true rfl) ⟨Nat.le_of_ble_eq_true rfl, Nat.le_of_ble_eq_true rfl⟩ dX9_parameter_7 ?_
  refine lv_if_ne (tgt := 19) hx hb dX9_parameter_10 (by decide) (fun _ => ?_) (fun c => absurd c (by decide))
  refine lv_iload_n hx hb dX9_parameter_19 rfl (lv_at hl 2 rfl) ?_
  refine rdS (As := [.int x2]) S (c_X9_isName_2 l D cI cZ cJ o q x2 lo_x2 hi_x2) ms_X9_isName kw_7_108 ⟨rfl, rfl⟩ ⟨Nat.le_of_ble_eq_true rfl, Nat.le_of_ble_eq_true rfl⟩ hP hK hl.1 (Nat.le_of_ble_eq_true rfl) ⟨Nat.le_of_ble_eq_true rfl, Nat.le_of_ble_eq_true rfl⟩ dX9_parameter_20 ?_
  refine lv_if_eq (tgt := 35) hx hb dX9_parameter_23 (by decide) (fun c => absurd c (by decide)) (fun _ => ?_)
  refine lv_iload_n hx hb dX9_parameter_26 rfl (lv_at hl 3 rfl) ?_
  refine lv_iconst (v := 0) hx hb dX9_parameter_27 (by decide) ?_
  refine lv_iconst (v := 5) hx hb dX9_parameter_28 (by decide) ?_
  refine rdS (As := [.int x3, .int 0, .int 5]) S (c_X9_isIn_6 l D cI cZ cJ o q x3 hi_x3) ms_X9_isIn kw_7_101 ⟨rfl, rfl⟩ ⟨Nat.le_of_ble_eq_true rfl, Nat.le_of_ble_eq_true rfl⟩ hP hK hl.1 (Nat.le_of_ble_eq_true rfl) ⟨Nat.le_of_ble_eq_true rfl, Nat.le_of_ble_eq_true rfl⟩ dX9_parameter_29 ?_
  refine lv_if_ne (tgt := 41) hx hb dX9_parameter_32 (by decide) (fun c => absurd c (by decide)) (fun _ => ?_)
  refine lv_aload_n hx hb dX9_parameter_35 rfl (lv_at hl 0 rfl) ?_
  refine lv_iconst (v := 2) hx hb dX9_parameter_36 (by decide) ?_
  refine wrV (As := [.int 2]) (ci := 9) S (c_X9_no_1 l D cI cZ cJ o q H.size) mi_X9_no kw_7_104 rfl rfl ⟨Nat.le_of_ble_eq_true rfl, Nat.le_of_ble_eq_true rfl⟩ hP hD hK hS hA mW_0 rfl rfl hl.1 (Nat.le_of_ble_eq_true rfl) ⟨Nat.le_of_ble_eq_true rfl, Nat.le_of_ble_eq_true rfl⟩ dX9_parameter_37 (fun H locs hz hP hD hS => ?_)
  exact wEnd S hr hlocks hP hD hS (Nat.le_of_ble_eq_true rfl) (Nat.le_of_ble_eq_true rfl) dX9_parameter_40 rfl

set_option maxHeartbeats 8000000 in
set_option maxRecDepth 100000 in
theorem h_parameter_5 (l : Launch) (D : va_G) (cI cZ cJ : ClassId) (o : Nat) (u : Nat → Nat) (ao : Nat) (hst : l.stackTraces = false) (ra ga : Nat → Nat) (sz : Nat) (x2 : Int32) (x3 : Int32) (lo_x2 : 0 ≤ x2) (hi_x2 : x2 ≤ 15) (lo_x3 : 6 ≤ x3) : vx_Met l yL_parameter (uWh yL_parameter cL_parameter 6 (some .int) [(0, 12, 15, 13), (0, 12, 19, 15), (0, 12, 23, 17)]) ({ frames := 8, cells := 1, slots := 6, locals := 125 }) (va_Pc [.ref o, .int 0, .int x2, .int x3, .ref ao] (lS ra ga D (tyL cI cZ cJ) ((xW o u cI cZ cJ) ++ [(ao, .inl (cJ, 1, .inr (.inl (fun _ => 0))))]) sz)) (wQi (2) D ((xW o u cI cZ cJ) ++ [(ao, .inl (cJ, 1, .inr (.inl (fun _ => 0))))]) (va_A ((xW o u cI cZ cJ) ++ [(ao, .inl (cJ, 1, .inr (.inl (fun _ => 0))))]) sz)) (xN (va_A ((xW o u cI cZ cJ) ++ [(ao, .inl (cJ, 1, .inr (.inl (fun _ => 0))))]) sz)) 1 6 (va_A ((xW o u cI cZ cJ) ++ [(ao, .inl (cJ, 1, .inr (.inl (fun _ => 0))))]) sz) := by
  refine hStart (l := l) (y := yL_parameter) (b := cL_parameter) (n := 6) (r := (some .int)) (hh := [(0, 12, 15, 13), (0, 12, 19, 15), (0, 12, 23, 17)]) (rm := ({ frames := 8, cells := 1, slots := 6, locals := 125 })) (mc := 1) (ms := 6) (ra := ra) (ga := ga) (D := D) (tys := tyL cI cZ cJ) (ws := ((xW o u cI cZ cJ) ++ [(ao, .inl (cJ, 1, .inr (.inl (fun _ => 0))))])) (av := [.ref o, .int 0, .int x2, .int x3, .ref ao]) (sz := sz) (lv := [(0, .ref o), (1, .int 0), (2, .int x2), (3, .int x3), (4, .ref ao)]) (Qc := fun A => wQi (2) D ((xW o u cI cZ cJ) ++ [(ao, .inl (cJ, 1, .inr (.inl (fun _ => 0))))]) A) (by decide) (Nat.le_of_ble_eq_true rfl) rfl ?_
  intro p e s m args below meth c ls A H S hr hlocks htab hl hK hP hD hS hA hB hC
  have hx := S.1
  have hb := S.2.1
  refine lv_aload hx hb dL_parameter_0 (lv_at hl 4 rfl) ?_
  refine lv_iconst (v := 0) hx hb dL_parameter_2 (by decide) ?_
  refine lv_aload_n hx hb dL_parameter_3 rfl (lv_at hl 0 rfl) ?_
  refine lv_iload_n hx hb dL_parameter_4 rfl (lv_at hl 1 rfl) ?_
  refine lv_iload_n hx hb dL_parameter_5 rfl (lv_at hl 2 rfl) ?_
  refine lv_iload_n hx hb dL_parameter_6 rfl (lv_at hl 3 rfl) ?_
  refine cVi [] [(ao, .inl (cJ, 1, .inr (.inl (fun _ => 0))))] (As := [.int 0, .int x2, .int x3]) (ci := 8) S (c_X8_parameter_5 l D cI cZ cJ o u hst ra ga H.size x2 x3 lo_x2 hi_x2 lo_x3) mi_X8_parameter kw_5_213 rfl rfl ⟨Nat.le_of_ble_eq_true rfl, Nat.le_of_ble_eq_true rfl⟩ hP hD hK hS hA hB xW_0 rfl rfl hl.1 (Nat.le_of_ble_eq_true rfl) ⟨Nat.le_of_ble_eq_true rfl, Nat.le_of_ble_eq_true rfl⟩ dL_parameter_7 (fun ce q9 H locs hz hP hD hS hce hcv hcl => ?_)
  refine vx_catch (name := "java/lang/IllegalArgumentException") S.2.2.2.1 [(⟨0, 12, 15, 13⟩ : ExceptionTableEntry)] (⟨0, 12, 19, 15⟩ : ExceptionTableEntry) [(⟨0, 12, 23, 17⟩ : ExceptionTableEntry)] (htab.trans rfl) (List.forall_mem_cons.mpr ⟨Or.inr ⟨by decide, "java/lang/IndexOutOfBoundsException", S.2.2.2.2 _ kw_5_176, hC.1⟩, (fun _ h => absurd h List.not_mem_nil)⟩) (by decide) (by decide) (S.2.2.2.2 _ kw_5_177) (va_Nw.use rfl hB.c1) hce hcv hcl ?_
  have hP : va_P D vwCl ((xW o u cI cZ cJ) ++ [(ao, .inl (cJ, 1, .inr (.inl (fun _ => 0))))]) H := hP
  have hD : va_D A ((xW o u cI cZ cJ) ++ [(ao, .inl (cJ, 1, .inr (.inl (fun _ => 0))))]) := hD
  refine lv_astore (lv' := [(5, .ref q9), (0, .ref o), (1, .int 0), (2, .int x2), (3, .int x3), (4, .ref ao)]) hx hb dL_parameter_19 hl (by decide) rfl (fun ls hl => ?_)
  refine lv_iconst (v := 2) hx hb dL_parameter_21 (by decide) ?_
  exact vx_ret (wEnd S hr hlocks hP hD hS (Nat.le_of_ble_eq_true rfl) (Nat.le_of_ble_eq_true rfl) dL_parameter_22 rfl)

set_option maxHeartbeats 8000000 in
set_option maxRecDepth 100000 in
theorem c_X9_isIn_7 (l : Launch) (D : va_G) (cI cZ cJ : ClassId) (o : Nat) (q : Nat → Nat) (x3 : Int32) (lo_x3 : 6 ≤ x3) : Met l yX9_isIn (uW yX9_isIn cX9_isIn 3 (some .boolean)) ({ frames := 0, cells := 0, slots := 0, locals := 0 }) (va_Pc [.int x3, .int 0, .int 5] (pS D (tyL cI cZ cJ) (mW o 0 q cI cZ))) (QcRead (0)) 0 0 (fun _ => False) := by
  refine rdStart (lv := [(0, .int x3), (1, .int 0), (2, .int 5)]) (by decide) (Nat.le_of_ble_eq_true rfl) rfl ?_
  intro p e s m args below meth c ls S hr hlocks hl hP hK
  have hx := S.1
  have hb := S.2.1
  refine lv_iload_n hx hb dX9_isIn_0 rfl (lv_at hl 0 rfl) ?_
  refine lv_iload_n hx hb dX9_isIn_1 rfl (lv_at hl 1 rfl) ?_
  refine lv_icmp_lt (tgt := 14) hx hb dX9_isIn_2 (by decide) (fun c => absurd c (b_nlt lo_x3 (by decide))) (fun _ => ?_)
  refine lv_iload_n hx hb dX9_isIn_5 rfl (lv_at hl 0 rfl) ?_
  refine lv_iload_n hx hb dX9_isIn_6 rfl (lv_at hl 2 rfl) ?_
  refine lv_icmp_gt (tgt := 14) hx hb dX9_isIn_7 (by decide) (fun _ => ?_) (fun c => absurd (b_gt lo_x3 (by decide)) c)
  refine lv_iconst (v := 0) hx hb dX9_isIn_14 (by decide) ?_
  exact rdEndZ S hr hlocks dX9_isIn_15 rfl rfl

set_option maxHeartbeats 8000000 in
set_option maxRecDepth 100000 in
theorem c_X9_parameter_5 (l : Launch) (D : va_G) (cI cZ cJ : ClassId) (o : Nat) (q : Nat → Nat) (sz : Nat) (x2 : Int32) (x3 : Int32) (lo_x2 : 0 ≤ x2) (hi_x2 : x2 ≤ 15) (lo_x3 : 6 ≤ x3) : Met l yX9_parameter (uW yX9_parameter cX9_parameter 4 (some .int)) ({ frames := 2, cells := 0, slots := 0, locals := 43 }) (va_Pc [.ref o, .int 0, .int x2, .int x3] (wS D (tyL cI cZ cJ) (mW o 0 q cI cZ) sz)) (wQi (0) D (mW o 2 q cI cZ) (va_A (mW o 0 q cI cZ) sz)) 0 0 (va_A (mW o 0 q cI cZ) sz) := by
  refine wStart (lv := [(0, .ref o), (1, .int 0), (2, .int x2), (3, .int x3)]) (Qc := fun A => wQi (0) D (mW o 2 q cI cZ) A) (by decide) (Nat.le_of_ble_eq_true rfl) rfl ?_
  intro p e s m args below meth c ls A H S hr hlocks hnm hl hK hP hD hS hA
  have hx := S.1
  have hb := S.2.1
  refine lv_aload_n hx hb dX9_parameter_0 rfl (lv_at hl 0 rfl) ?_
  refine lv_iconst (v := 0) hx hb dX9_parameter_1 (by decide) ?_
  refine xp (ci := 9) (v := .int 0) S inX9 tyX9 tyX9_ok nmX9 rfl hK hP hD hS mW_0 0 (by decide) kw_6_148 rfl rfl rfl rfl (Nat.le_of_ble_eq_true rfl) dX9_parameter_2 (fun H locs hP hD hS => ?_)
  have hP : va_P D vwCl (mW o 0 q cI cZ) H := hP
  have hD : va_D A (mW o 0 q cI cZ) := hD
  refine lv_aload_n hx hb dX9_parameter_5 rfl (lv_at hl 0 rfl) ?_
  refine lv_iload_n hx hb dX9_parameter_6 rfl (lv_at hl 1 rfl) ?_
  refine rdV (As := [.int 0]) (ci := 9) S (c_X9_isProcedure_2 l D cI cZ cJ o q) mi_X9_isProcedure kw_7_97 ⟨rfl, rfl⟩ ⟨Nat.le_of_ble_eq_true rfl, Nat.le_of_ble_eq_true rfl⟩ hP hK mW_0 rfl rfl hl.1 (Nat.le_of_ble_eq_true rfl) ⟨Nat.le_of_ble_eq_true rfl, Nat.le_of_ble_eq_true rfl⟩ dX9_parameter_7 ?_
  refine lv_if_ne (tgt := 19) hx hb dX9_parameter_10 (by decide) (fun _ => ?_) (fun c => absurd c (by decide))
  refine lv_iload_n hx hb dX9_parameter_19 rfl (lv_at hl 2 rfl) ?_
  refine rdS (As := [.int x2]) S (c_X9_isName_2 l D cI cZ cJ o q x2 lo_x2 hi_x2) ms_X9_isName kw_7_108 ⟨rfl, rfl⟩ ⟨Nat.le_of_ble_eq_true rfl, Nat.le_of_ble_eq_true rfl⟩ hP hK hl.1 (Nat.le_of_ble_eq_true rfl) ⟨Nat.le_of_ble_eq_true rfl, Nat.le_of_ble_eq_true rfl⟩ dX9_parameter_20 ?_
  refine lv_if_eq (tgt := 35) hx hb dX9_parameter_23 (by decide) (fun c => absurd c (by decide)) (fun _ => ?_)
  refine lv_iload_n hx hb dX9_parameter_26 rfl (lv_at hl 3 rfl) ?_
  refine lv_iconst (v := 0) hx hb dX9_parameter_27 (by decide) ?_
  refine lv_iconst (v := 5) hx hb dX9_parameter_28 (by decide) ?_
  refine rdS (As := [.int x3, .int 0, .int 5]) S (c_X9_isIn_7 l D cI cZ cJ o q x3 lo_x3) ms_X9_isIn kw_7_101 ⟨rfl, rfl⟩ ⟨Nat.le_of_ble_eq_true rfl, Nat.le_of_ble_eq_true rfl⟩ hP hK hl.1 (Nat.le_of_ble_eq_true rfl) ⟨Nat.le_of_ble_eq_true rfl, Nat.le_of_ble_eq_true rfl⟩ dX9_parameter_29 ?_
  refine lv_if_ne (tgt := 41) hx hb dX9_parameter_32 (by decide) (fun c => absurd c (by decide)) (fun _ => ?_)
  refine lv_aload_n hx hb dX9_parameter_35 rfl (lv_at hl 0 rfl) ?_
  refine lv_iconst (v := 2) hx hb dX9_parameter_36 (by decide) ?_
  refine wrV (As := [.int 2]) (ci := 9) S (c_X9_no_1 l D cI cZ cJ o q H.size) mi_X9_no kw_7_104 rfl rfl ⟨Nat.le_of_ble_eq_true rfl, Nat.le_of_ble_eq_true rfl⟩ hP hD hK hS hA mW_0 rfl rfl hl.1 (Nat.le_of_ble_eq_true rfl) ⟨Nat.le_of_ble_eq_true rfl, Nat.le_of_ble_eq_true rfl⟩ dX9_parameter_37 (fun H locs hz hP hD hS => ?_)
  exact wEnd S hr hlocks hP hD hS (Nat.le_of_ble_eq_true rfl) (Nat.le_of_ble_eq_true rfl) dX9_parameter_40 rfl

set_option maxHeartbeats 8000000 in
set_option maxRecDepth 100000 in
theorem h_parameter_6 (l : Launch) (D : va_G) (cI cZ cJ : ClassId) (o : Nat) (u : Nat → Nat) (ao : Nat) (hst : l.stackTraces = false) (ra ga : Nat → Nat) (sz : Nat) (x2 : Int32) (x3 : Int32) (lo_x2 : 0 ≤ x2) (hi_x2 : x2 ≤ 15) (lo_x3 : 0 ≤ x3) (hi_x3 : x3 ≤ 5) : vx_Met l yL_parameter (uWh yL_parameter cL_parameter 6 (some .int) [(0, 12, 15, 13), (0, 12, 19, 15), (0, 12, 23, 17)]) ({ frames := 8, cells := 1, slots := 6, locals := 125 }) (va_Pc [.ref o, .int 0, .int x2, .int x3, .ref ao] (lS ra ga D (tyL cI cZ cJ) ((xW o u cI cZ cJ) ++ [(ao, .inl (cJ, 1, .inr (.inl (fun _ => 0))))]) sz)) (wQi (3) D ((xW o u cI cZ cJ) ++ [(ao, .inl (cJ, 1, .inr (.inl (fun _ => 0))))]) (va_A ((xW o u cI cZ cJ) ++ [(ao, .inl (cJ, 1, .inr (.inl (fun _ => 0))))]) sz)) (xN (va_A ((xW o u cI cZ cJ) ++ [(ao, .inl (cJ, 1, .inr (.inl (fun _ => 0))))]) sz)) 1 6 (va_A ((xW o u cI cZ cJ) ++ [(ao, .inl (cJ, 1, .inr (.inl (fun _ => 0))))]) sz) := by
  refine hStart (l := l) (y := yL_parameter) (b := cL_parameter) (n := 6) (r := (some .int)) (hh := [(0, 12, 15, 13), (0, 12, 19, 15), (0, 12, 23, 17)]) (rm := ({ frames := 8, cells := 1, slots := 6, locals := 125 })) (mc := 1) (ms := 6) (ra := ra) (ga := ga) (D := D) (tys := tyL cI cZ cJ) (ws := ((xW o u cI cZ cJ) ++ [(ao, .inl (cJ, 1, .inr (.inl (fun _ => 0))))])) (av := [.ref o, .int 0, .int x2, .int x3, .ref ao]) (sz := sz) (lv := [(0, .ref o), (1, .int 0), (2, .int x2), (3, .int x3), (4, .ref ao)]) (Qc := fun A => wQi (3) D ((xW o u cI cZ cJ) ++ [(ao, .inl (cJ, 1, .inr (.inl (fun _ => 0))))]) A) (by decide) (Nat.le_of_ble_eq_true rfl) rfl ?_
  intro p e s m args below meth c ls A H S hr hlocks htab hl hK hP hD hS hA hB hC
  have hx := S.1
  have hb := S.2.1
  refine lv_aload hx hb dL_parameter_0 (lv_at hl 4 rfl) ?_
  refine lv_iconst (v := 0) hx hb dL_parameter_2 (by decide) ?_
  refine lv_aload_n hx hb dL_parameter_3 rfl (lv_at hl 0 rfl) ?_
  refine lv_iload_n hx hb dL_parameter_4 rfl (lv_at hl 1 rfl) ?_
  refine lv_iload_n hx hb dL_parameter_5 rfl (lv_at hl 2 rfl) ?_
  refine lv_iload_n hx hb dL_parameter_6 rfl (lv_at hl 3 rfl) ?_
  refine cVi [] [(ao, .inl (cJ, 1, .inr (.inl (fun _ => 0))))] (As := [.int 0, .int x2, .int x3]) (ci := 8) S (c_X8_parameter_6 l D cI cZ cJ o u hst ra ga H.size x2 x3 lo_x2 hi_x2 lo_x3 hi_x3) mi_X8_parameter kw_5_213 rfl rfl ⟨Nat.le_of_ble_eq_true rfl, Nat.le_of_ble_eq_true rfl⟩ hP hD hK hS hA hB xW_0 rfl rfl hl.1 (Nat.le_of_ble_eq_true rfl) ⟨Nat.le_of_ble_eq_true rfl, Nat.le_of_ble_eq_true rfl⟩ dL_parameter_7 (fun ce q9 H locs hz hP hD hS hce hcv hcl => ?_)
  refine vx_catch (name := "java/lang/IllegalStateException") S.2.2.2.1 [(⟨0, 12, 15, 13⟩ : ExceptionTableEntry), (⟨0, 12, 19, 15⟩ : ExceptionTableEntry)] (⟨0, 12, 23, 17⟩ : ExceptionTableEntry) [] (htab.trans rfl) (List.forall_mem_cons.mpr ⟨Or.inr ⟨by decide, "java/lang/IndexOutOfBoundsException", S.2.2.2.2 _ kw_5_176, hC.2.1⟩, (List.forall_mem_cons.mpr ⟨Or.inr ⟨by decide, "java/lang/IllegalArgumentException", S.2.2.2.2 _ kw_5_177, hC.2.2⟩, (fun _ h => absurd h List.not_mem_nil)⟩)⟩) (by decide) (by decide) (S.2.2.2.2 _ kw_5_178) (va_Nw.use rfl hB.c2) hce hcv hcl ?_
  have hP : va_P D vwCl ((xW o u cI cZ cJ) ++ [(ao, .inl (cJ, 1, .inr (.inl (fun _ => 0))))]) H := hP
  have hD : va_D A ((xW o u cI cZ cJ) ++ [(ao, .inl (cJ, 1, .inr (.inl (fun _ => 0))))]) := hD
  refine lv_astore (lv' := [(5, .ref q9), (0, .ref o), (1, .int 0), (2, .int x2), (3, .int x3), (4, .ref ao)]) hx hb dL_parameter_23 hl (by decide) rfl (fun ls hl => ?_)
  refine lv_iconst (v := 3) hx hb dL_parameter_25 (by decide) ?_
  exact vx_ret (wEnd S hr hlocks hP hD hS (Nat.le_of_ble_eq_true rfl) (Nat.le_of_ble_eq_true rfl) dL_parameter_26 rfl)

set_option maxHeartbeats 8000000 in
set_option maxRecDepth 100000 in
theorem c_X9_isIn_8 (l : Launch) (D : va_G) (cI cZ cJ : ClassId) (o : Nat) (q : Nat → Nat) (x3 : Int32) (lo_x3 : 0 ≤ x3) (hi_x3 : x3 ≤ 5) : Met l yX9_isIn (uW yX9_isIn cX9_isIn 3 (some .boolean)) ({ frames := 0, cells := 0, slots := 0, locals := 0 }) (va_Pc [.int x3, .int 0, .int 5] (pS D (tyL cI cZ cJ) (mW o 0 q cI cZ))) (QcRead (1)) 0 0 (fun _ => False) := by
  refine rdStart (lv := [(0, .int x3), (1, .int 0), (2, .int 5)]) (by decide) (Nat.le_of_ble_eq_true rfl) rfl ?_
  intro p e s m args below meth c ls S hr hlocks hl hP hK
  have hx := S.1
  have hb := S.2.1
  refine lv_iload_n hx hb dX9_isIn_0 rfl (lv_at hl 0 rfl) ?_
  refine lv_iload_n hx hb dX9_isIn_1 rfl (lv_at hl 1 rfl) ?_
  refine lv_icmp_lt (tgt := 14) hx hb dX9_isIn_2 (by decide) (fun c => absurd c (b_nlt lo_x3 (by decide))) (fun _ => ?_)
  refine lv_iload_n hx hb dX9_isIn_5 rfl (lv_at hl 0 rfl) ?_
  refine lv_iload_n hx hb dX9_isIn_6 rfl (lv_at hl 2 rfl) ?_
  refine lv_icmp_gt (tgt := 14) hx hb dX9_isIn_7 (by decide) (fun c => absurd c (b_ngt hi_x3 (by decide))) (fun _ => ?_)
  refine lv_iconst (v := 1) hx hb dX9_isIn_10 (by decide) ?_
  refine lv_goto (tgt := 15) hx hb dX9_isIn_11 (by decide) ?_
  exact rdEndZ S hr hlocks dX9_isIn_15 rfl rfl

set_option maxHeartbeats 8000000 in
set_option maxRecDepth 100000 in
theorem c_X9_no_2 (l : Launch) (D : va_G) (cI cZ cJ : ClassId) (o : Nat) (q : Nat → Nat) (sz : Nat) : Met l yX9_no (uW yX9_no cX9_no 2 (some .int)) ({ frames := 0, cells := 0, slots := 0, locals := 0 }) (va_Pc [.ref o, .int 3] (wS D (tyL cI cZ cJ) (mW o 0 q cI cZ) sz)) (wQi (0) D (mW o 3 q cI cZ) (va_A (mW o 0 q cI cZ) sz)) 0 0 (va_A (mW o 0 q cI cZ) sz) := by
  refine wStart (lv := [(0, .ref o), (1, .int 3)]) (Qc := fun A => wQi (0) D (mW o 3 q cI cZ) A) (by decide) (Nat.le_of_ble_eq_true rfl) rfl ?_
  intro p e s m args below meth c ls A H S hr hlocks hnm hl hK hP hD hS hA
  have hx := S.1
  have hb := S.2.1
  refine lv_aload_n hx hb dX9_no_0 rfl (lv_at hl 0 rfl) ?_
  refine lv_iload_n hx hb dX9_no_1 rfl (lv_at hl 1 rfl) ?_
  refine xp (ci := 9) (v := .int 3) S inX9 tyX9 tyX9_ok nmX9 rfl hK hP hD hS mW_0 0 (by decide) kw_6_148 rfl rfl rfl rfl (Nat.le_of_ble_eq_true rfl) dX9_no_2 (fun H locs hP hD hS => ?_)
  have hP : va_P D vwCl (mW o 3 q cI cZ) H := hP
  have hD : va_D A (mW o 3 q cI cZ) := hD
  refine lv_iconst (v := 0) hx hb dX9_no_5 (by decide) ?_
  exact wEnd S hr hlocks hP hD hS (Nat.le_of_ble_eq_true rfl) (Nat.le_of_ble_eq_true rfl) dX9_no_6 rfl

set_option maxHeartbeats 8000000 in
set_option maxRecDepth 100000 in
theorem c_X9_parameter_6 (l : Launch) (D : va_G) (cI cZ cJ : ClassId) (o : Nat) (q : Nat → Nat) (sz : Nat) (x2 : Int32) (x3 : Int32) (lo_x2 : 0 ≤ x2) (hi_x2 : x2 ≤ 15) (lo_x3 : 0 ≤ x3) (hi_x3 : x3 ≤ 5) : Met l yX9_parameter (uW yX9_parameter cX9_parameter 4 (some .int)) ({ frames := 2, cells := 0, slots := 0, locals := 43 }) (va_Pc [.ref o, .int 0, .int x2, .int x3] (wS D (tyL cI cZ cJ) (mW o 0 q cI cZ) sz)) (wQi (0) D (mW o 3 q cI cZ) (va_A (mW o 0 q cI cZ) sz)) 0 0 (va_A (mW o 0 q cI cZ) sz) := by
  refine wStart (lv := [(0, .ref o), (1, .int 0), (2, .int x2), (3, .int x3)]) (Qc := fun A => wQi (0) D (mW o 3 q cI cZ) A) (by decide) (Nat.le_of_ble_eq_true rfl) rfl ?_
  intro p e s m args below meth c ls A H S hr hlocks hnm hl hK hP hD hS hA
  have hx := S.1
  have hb := S.2.1
  refine lv_aload_n hx hb dX9_parameter_0 rfl (lv_at hl 0 rfl) ?_
  refine lv_iconst (v := 0) hx hb dX9_parameter_1 (by decide) ?_
  refine xp (ci := 9) (v := .int 0) S inX9 tyX9 tyX9_ok nmX9 rfl hK hP hD hS mW_0 0 (by decide) kw_6_148 rfl rfl rfl rfl (Nat.le_of_ble_eq_true rfl) dX9_parameter_2 (fun H locs hP hD hS => ?_)
  have hP : va_P D vwCl (mW o 0 q cI cZ) H := hP
  have hD : va_D A (mW o 0 q cI cZ) := hD
  refine lv_aload_n hx hb dX9_parameter_5 rfl (lv_at hl 0 rfl) ?_
  refine lv_iload_n hx hb dX9_parameter_6 rfl (lv_at hl 1 rfl) ?_
  refine rdV (As := [.int 0]) (ci := 9) S (c_X9_isProcedure_2 l D cI cZ cJ o q) mi_X9_isProcedure kw_7_97 ⟨rfl, rfl⟩ ⟨Nat.le_of_ble_eq_true rfl, Nat.le_of_ble_eq_true rfl⟩ hP hK mW_0 rfl rfl hl.1 (Nat.le_of_ble_eq_true rfl) ⟨Nat.le_of_ble_eq_true rfl, Nat.le_of_ble_eq_true rfl⟩ dX9_parameter_7 ?_
  refine lv_if_ne (tgt := 19) hx hb dX9_parameter_10 (by decide) (fun _ => ?_) (fun c => absurd c (by decide))
  refine lv_iload_n hx hb dX9_parameter_19 rfl (lv_at hl 2 rfl) ?_
  refine rdS (As := [.int x2]) S (c_X9_isName_2 l D cI cZ cJ o q x2 lo_x2 hi_x2) ms_X9_isName kw_7_108 ⟨rfl, rfl⟩ ⟨Nat.le_of_ble_eq_true rfl, Nat.le_of_ble_eq_true rfl⟩ hP hK hl.1 (Nat.le_of_ble_eq_true rfl) ⟨Nat.le_of_ble_eq_true rfl, Nat.le_of_ble_eq_true rfl⟩ dX9_parameter_20 ?_
  refine lv_if_eq (tgt := 35) hx hb dX9_parameter_23 (by decide) (fun c => absurd c (by decide)) (fun _ => ?_)
  refine lv_iload_n hx hb dX9_parameter_26 rfl (lv_at hl 3 rfl) ?_
  refine lv_iconst (v := 0) hx hb dX9_parameter_27 (by decide) ?_
  refine lv_iconst (v := 5) hx hb dX9_parameter_28 (by decide) ?_
  refine rdS (As := [.int x3, .int 0, .int 5]) S (c_X9_isIn_8 l D cI cZ cJ o q x3 lo_x3 hi_x3) ms_X9_isIn kw_7_101 ⟨rfl, rfl⟩ ⟨Nat.le_of_ble_eq_true rfl, Nat.le_of_ble_eq_true rfl⟩ hP hK hl.1 (Nat.le_of_ble_eq_true rfl) ⟨Nat.le_of_ble_eq_true rfl, Nat.le_of_ble_eq_true rfl⟩ dX9_parameter_29 ?_
  refine lv_if_ne (tgt := 41) hx hb dX9_parameter_32 (by decide) (fun _ => ?_) (fun c => absurd c (by decide))
  refine lv_iload_n hx hb dX9_parameter_41 rfl (lv_at hl 1 rfl) ?_
  refine lv_if_eq (tgt := 79) hx hb dX9_parameter_42 (by decide) (fun _ => ?_) (fun c => absurd c (by decide))
  refine lv_aload_n hx hb dX9_parameter_79 rfl (lv_at hl 0 rfl) ?_
  refine lv_iconst (v := 3) hx hb dX9_parameter_80 (by decide) ?_
  refine wrV (As := [.int 3]) (ci := 9) S (c_X9_no_2 l D cI cZ cJ o q H.size) mi_X9_no kw_7_104 rfl rfl ⟨Nat.le_of_ble_eq_true rfl, Nat.le_of_ble_eq_true rfl⟩ hP hD hK hS hA mW_0 rfl rfl hl.1 (Nat.le_of_ble_eq_true rfl) ⟨Nat.le_of_ble_eq_true rfl, Nat.le_of_ble_eq_true rfl⟩ dX9_parameter_81 (fun H locs hz hP hD hS => ?_)
  exact wEnd S hr hlocks hP hD hS (Nat.le_of_ble_eq_true rfl) (Nat.le_of_ble_eq_true rfl) dX9_parameter_84 rfl

set_option maxHeartbeats 8000000 in
set_option maxRecDepth 100000 in
theorem c_X9_thrown_3 (l : Launch) (D : va_G) (cI cZ cJ : ClassId) (o : Nat) (q : Nat → Nat) : Met l yX9_thrown (uW yX9_thrown cX9_thrown 1 (some .int)) ({ frames := 0, cells := 0, slots := 0, locals := 0 }) (va_Pc [.ref o] (pS D (tyL cI cZ cJ) (mW o 3 q cI cZ))) (QcRead (3)) 0 0 (fun _ => False) := by
  refine rdStart (lv := [(0, .ref o)]) (by decide) (Nat.le_of_ble_eq_true rfl) rfl ?_
  intro p e s m args below meth c ls S hr hlocks hl hP hK
  have hx := S.1
  have hb := S.2.1
  refine lv_aload_n hx hb dX9_thrown_0 rfl (lv_at hl 0 rfl) ?_
  refine xg (ci := 9) S inX9 rfl hK hP mW_0 0 (by decide) mF_0 kw_6_148 rfl dX9_thrown_1 ?_
  exact rdEnd S hr hlocks dX9_thrown_4 rfl

set_option maxHeartbeats 8000000 in
set_option maxRecDepth 100000 in
theorem c_X8_isSizeOf_0 (l : Launch) (D : va_G) (cI cZ cJ : ClassId) (o : Nat) (u : Nat → Nat) (x3 : Int32) (x4 : Int32) (hi_x3 : x3 ≤ (-1)) : Met l yX8_isSizeOf (uW yX8_isSizeOf cX8_isSizeOf 2 (some .boolean)) ({ frames := 0, cells := 0, slots := 0, locals := 0 }) (va_Pc [.int x3, .int x4] (pS D (tyL cI cZ cJ) (xW o u cI cZ cJ))) (QcRead (0)) 0 0 (fun _ => False) := by
  refine rdStart (lv := [(0, .int x3), (1, .int x4)]) (by decide) (Nat.le_of_ble_eq_true rfl) rfl ?_
  intro p e s m args below meth c ls S hr hlocks hl hP hK
  have hx := S.1
  have hb := S.2.1
  refine lv_iload_n hx hb dX8_isSizeOf_0 rfl (lv_at hl 0 rfl) ?_
  refine lv_bipush (v := 6) hx hb dX8_isSizeOf_1 (by decide) ?_
  refine xiadd (v := x3 + 6) S dX8_isSizeOf_3 rfl ?_
  refine lv_tableOut (tgt := 81) hx hb dX8_isSizeOf_4 (t_out6 (fun c => absurd (Int32.le_trans c.1 hi_x3) (by decide))) (by decide) ?_
  refine lv_iconst (v := 0) hx hb dX8_isSizeOf_81 (by decide) ?_
  exact rdEndZ S hr hlocks dX8_isSizeOf_82 rfl rfl

set_option maxHeartbeats 8000000 in
set_option maxRecDepth 100000 in
theorem c_X8_isSizeOf_1 (l : Launch) (D : va_G) (cI cZ cJ : ClassId) (o : Nat) (u : Nat → Nat) (x3 : Int32) (x4 : Int32) (lo_x3 : 4 ≤ x3) : Met l yX8_isSizeOf (uW yX8_isSizeOf cX8_isSizeOf 2 (some .boolean)) ({ frames := 0, cells := 0, slots := 0, locals := 0 }) (va_Pc [.int x3, .int x4] (pS D (tyL cI cZ cJ) (xW o u cI cZ cJ))) (QcRead (0)) 0 0 (fun _ => False) := by
  refine rdStart (lv := [(0, .int x3), (1, .int x4)]) (by decide) (Nat.le_of_ble_eq_true rfl) rfl ?_
  intro p e s m args below meth c ls S hr hlocks hl hP hK
  have hx := S.1
  have hb := S.2.1
  refine lv_iload_n hx hb dX8_isSizeOf_0 rfl (lv_at hl 0 rfl) ?_
  refine lv_bipush (v := 6) hx hb dX8_isSizeOf_1 (by decide) ?_
  refine xiadd (v := x3 + 6) S dX8_isSizeOf_3 rfl ?_
  refine lv_tableOut (tgt := 81) hx hb dX8_isSizeOf_4 (t_out6 (fun c => absurd (Int32.le_trans lo_x3 c.2) (by decide))) (by decide) ?_
  refine lv_iconst (v := 0) hx hb dX8_isSizeOf_81 (by decide) ?_
  exact rdEndZ S hr hlocks dX8_isSizeOf_82 rfl rfl

set_option maxHeartbeats 8000000 in
set_option maxRecDepth 100000 in
theorem c_X8_isSizeOf_2 (l : Launch) (D : va_G) (cI cZ cJ : ClassId) (o : Nat) (u : Nat → Nat) : Met l yX8_isSizeOf (uW yX8_isSizeOf cX8_isSizeOf 2 (some .boolean)) ({ frames := 0, cells := 0, slots := 0, locals := 0 }) (va_Pc [.int 0, .int 0] (pS D (tyL cI cZ cJ) (xW o u cI cZ cJ))) (QcRead (1)) 0 0 (fun _ => False) := by
  refine rdStart (lv := [(0, .int 0), (1, .int 0)]) (by decide) (Nat.le_of_ble_eq_true rfl) rfl ?_
  intro p e s m args below meth c ls S hr hlocks hl hP hK
  have hx := S.1
  have hb := S.2.1
  refine lv_iload_n hx hb dX8_isSizeOf_0 rfl (lv_at hl 0 rfl) ?_
  refine lv_bipush (v := 6) hx hb dX8_isSizeOf_1 (by decide) ?_
  refine xiadd (v := 6) S dX8_isSizeOf_3 (by decide) ?_
  refine lv_tableIn (off := 32) (tgt := 36) hx hb dX8_isSizeOf_4 (by decide) (by decide) (by decide) (by decide) ?_
  refine lv_iload_n hx hb dX8_isSizeOf_36 rfl (lv_at hl 1 rfl) ?_
  refine lv_if_ne (tgt := 44) hx hb dX8_isSizeOf_37 (by decide) (fun c => absurd c (by decide)) (fun _ => ?_)
  refine lv_iconst (v := 1) hx hb dX8_isSizeOf_40 (by decide) ?_
  refine lv_goto (tgt := 45) hx hb dX8_isSizeOf_41 (by decide) ?_
  exact rdEndZ S hr hlocks dX8_isSizeOf_45 rfl rfl

set_option maxHeartbeats 8000000 in
set_option maxRecDepth 100000 in
theorem c_X1_takesVariable_0 (l : Launch) (D : va_G) (cI cZ cJ : ClassId) (o : Nat) (u : Nat → Nat) (x2 : Int32) (lo_x2 : 0 ≤ x2) (hi_x2 : x2 ≤ 15) : Met l yX1_takesVariable (uW yX1_takesVariable cX1_takesVariable 3 (some .boolean)) ({ frames := 1, cells := 0, slots := 0, locals := 22 }) (va_Pc [.ref (u 0), .int 0, .int x2] (pS D (tyL cI cZ cJ) (xW o u cI cZ cJ))) (QcRead (1)) 0 0 (fun _ => False) := by
  refine rdStart (lv := [(0, .ref (u 0)), (1, .int 0), (2, .int x2)]) (by decide) (Nat.le_of_ble_eq_true rfl) rfl ?_
  intro p e s m args below meth c ls S hr hlocks hl hP hK
  have hx := S.1
  have hb := S.2.1
  refine lv_aload_n hx hb dX1_takesVariable_0 rfl (lv_at hl 0 rfl) ?_
  refine xg (ci := 1) S inX1 rfl hK hP xW_1 4 (by decide) rfl kw_1_53 rfl dX1_takesVariable_1 ?_
  refine lv_iload_n hx hb dX1_takesVariable_4 rfl (lv_at hl 1 rfl) ?_
  refine xiald (t0 := 0) (v := 0) S hK hP xW_5 rfl (vin rfl) rfl dX1_takesVariable_5 ?_
  refine lv_bipush (v := 6) hx hb dX1_takesVariable_6 (by decide) ?_
  refine lv_icmp_ge (tgt := 24) hx hb dX1_takesVariable_8 (by decide) (fun c => absurd c (by decide)) (fun _ => ?_)
  refine lv_aload_n hx hb dX1_takesVariable_11 rfl (lv_at hl 0 rfl) ?_
  refine lv_iload_n hx hb dX1_takesVariable_12 rfl (lv_at hl 1 rfl) ?_
  refine lv_iload_n hx hb dX1_takesVariable_13 rfl (lv_at hl 2 rfl) ?_
  refine rdV (As := [.int 0, .int x2]) (ci := 1) S (c_X1_declares_0 l D cI cZ cJ o u x2 lo_x2 hi_x2) mi_X1_declares kw_3_97 ⟨rfl, rfl⟩ ⟨Nat.le_of_ble_eq_true rfl, Nat.le_of_ble_eq_true rfl⟩ hP hK xW_1 rfl rfl hl.1 (Nat.le_of_ble_eq_true rfl) ⟨Nat.le_of_ble_eq_true rfl, Nat.le_of_ble_eq_true rfl⟩ dX1_takesVariable_14 ?_
  refine lv_if_ne (tgt := 24) hx hb dX1_takesVariable_17 (by decide) (fun c => absurd c (by decide)) (fun _ => ?_)
  refine lv_iconst (v := 1) hx hb dX1_takesVariable_20 (by decide) ?_
  refine lv_goto (tgt := 25) hx hb dX1_takesVariable_21 (by decide) ?_
  exact rdEndZ S hr hlocks dX1_takesVariable_25 rfl rfl

set_option maxHeartbeats 8000000 in
set_option maxRecDepth 100000 in
theorem c_X1_declare_1 (l : Launch) (D : va_G) (cI cZ cJ : ClassId) (o : Nat) (u : Nat → Nat) (ra ga : Nat → Nat) (sz : Nat) (x2 : Int32) (lo_x2 : 0 ≤ x2) (hi_x2 : x2 ≤ 15) : Met l yX1_declare (uW yX1_declare cX1_declare 6 none) ({ frames := 0, cells := 0, slots := 0, locals := 0 }) (va_Pc [.ref (u 0), .int 0, .int x2, .int 6, .int 0] (aS ra ga D (tyL cI cZ cJ) (((xW o u cI cZ cJ).set 5 ((u 4), .inl (cI, 10, .inl (upd (fun _ => 0) (0 : Int32).toNatClampNeg 1)))).set 6 ((u 5), .inl (cI, 10, .inl (upd (fun _ => 0) (0 : Int32).toNatClampNeg 1)))) sz)) (wQv D ((((((xW o u cI cZ cJ).set 5 ((u 4), .inl (cI, 10, .inl (upd (fun _ => 0) (0 : Int32).toNatClampNeg 1)))).set 6 ((u 5), .inl (cI, 10, .inl (upd (fun _ => 0) (0 : Int32).toNatClampNeg 1)))).set 8 ((u 7), .inl (cI, 160, .inl (upd (fun _ => (-1)) (x2 : Int32).toNatClampNeg 6)))).set 9 ((u 8), .inl (cI, 160, .inl (upd (fun _ => 0) (x2 : Int32).toNatClampNeg (-1))))).set 10 ((u 9), .inl (cI, 160, .inl (upd (fun _ => 0) (x2 : Int32).toNatClampNeg 0)))) (va_A (((xW o u cI cZ cJ).set 5 ((u 4), .inl (cI, 10, .inl (upd (fun _ => 0) (0 : Int32).toNatClampNeg 1)))).set 6 ((u 5), .inl (cI, 10, .inl (upd (fun _ => 0) (0 : Int32).toNatClampNeg 1)))) sz)) 0 0 (va_A (((xW o u cI cZ cJ).set 5 ((u 4), .inl (cI, 10, .inl (upd (fun _ => 0) (0 : Int32).toNatClampNeg 1)))).set 6 ((u 5), .inl (cI, 10, .inl (upd (fun _ => 0) (0 : Int32).toNatClampNeg 1)))) sz) := by
  refine aStart (lv := [(0, .ref (u 0)), (1, .int 0), (2, .int x2), (3, .int 6), (4, .int 0)]) (Qc := fun A => wQv D ((((((xW o u cI cZ cJ).set 5 ((u 4), .inl (cI, 10, .inl (upd (fun _ => 0) (0 : Int32).toNatClampNeg 1)))).set 6 ((u 5), .inl (cI, 10, .inl (upd (fun _ => 0) (0 : Int32).toNatClampNeg 1)))).set 8 ((u 7), .inl (cI, 160, .inl (upd (fun _ => (-1)) (x2 : Int32).toNatClampNeg 6)))).set 9 ((u 8), .inl (cI, 160, .inl (upd (fun _ => 0) (x2 : Int32).toNatClampNeg (-1))))).set 10 ((u 9), .inl (cI, 160, .inl (upd (fun _ => 0) (x2 : Int32).toNatClampNeg 0)))) A) (by decide) (Nat.le_of_ble_eq_true rfl) rfl ?_
  intro p e s m args below meth c ls A H S hr hlocks hnm hl hK hP hD hS hA hB
  have hx := S.1
  have hb := S.2.1
  refine lv_iload_n hx hb dX1_declare_0 rfl (lv_at hl 1 rfl) ?_
  refine lv_bipush (v := 16) hx hb dX1_declare_1 (by decide) ?_
  refine ximul (v := 0) S dX1_declare_3 (by decide) ?_
  refine lv_iload_n hx hb dX1_declare_4 rfl (lv_at hl 2 rfl) ?_
  refine xiadd (v := x2) S dX1_declare_5 (Int32.zero_add _) ?_
  refine lv_istore (lv' := [(5, .int x2), (0, .ref (u 0)), (1, .int 0), (2, .int x2), (3, .int 6), (4, .int 0)]) hx hb dX1_declare_6 hl (by decide) rfl (fun ls hl => ?_)
  refine lv_aload_n hx hb dX1_declare_8 rfl (lv_at hl 1 rfl) ?_
  refine xg (ci := 1) S inX1 rfl hK hP (q0 := 1) rfl 7 (by decide) rfl kw_1_61 rfl dX1_declare_9 ?_
  refine lv_iload hx hb dX1_declare_12 (lv_at hl 0 rfl) ?_
  refine lv_iload_n hx hb dX1_declare_14 rfl (lv_at hl 4 rfl) ?_
  refine xiast (t0 := 0) S hK hP hD hS (q0 := 8) rfl rfl (b_in lo_x2 hi_x2 (by decide) (by decide)) dX1_declare_15 (fun H locs hP hD hS => ?_)
  have hP : va_P D vwCl ((((xW o u cI cZ cJ).set 5 ((u 4), .inl (cI, 10, .inl (upd (fun _ => 0) (0 : Int32).toNatClampNeg 1)))).set 6 ((u 5), .inl (cI, 10, .inl (upd (fun _ => 0) (0 : Int32).toNatClampNeg 1)))).set 8 ((u 7), .inl (cI, 160, .inl (upd (fun _ => (-1)) (x2 : Int32).toNatClampNeg 6)))) H := hP
  have hD : va_D A ((((xW o u cI cZ cJ).set 5 ((u 4), .inl (cI, 10, .inl (upd (fun _ => 0) (0 : Int32).toNatClampNeg 1)))).set 6 ((u 5), .inl (cI, 10, .inl (upd (fun _ => 0) (0 : Int32).toNatClampNeg 1)))).set 8 ((u 7), .inl (cI, 160, .inl (upd (fun _ => (-1)) (x2 : Int32).toNatClampNeg 6)))) := hD
  refine lv_aload_n hx hb dX1_declare_16 rfl (lv_at hl 1 rfl) ?_
  refine xg (ci := 1) S inX1 rfl hK hP (q0 := 1) rfl 8 (by decide) rfl kw_1_64 rfl dX1_declare_17 ?_
  refine lv_iload hx hb dX1_declare_20 (lv_at hl 0 rfl) ?_
  refine lv_iconst (v := (-1)) hx hb dX1_declare_22 (by decide) ?_
  refine xiast (t0 := 0) S hK hP hD hS (q0 := 9) rfl rfl (b_in lo_x2 hi_x2 (by decide) (by decide)) dX1_declare_23 (fun H locs hP hD hS => ?_)
  have hP : va_P D vwCl (((((xW o u cI cZ cJ).set 5 ((u 4), .inl (cI, 10, .inl (upd (fun _ => 0) (0 : Int32).toNatClampNeg 1)))).set 6 ((u 5), .inl (cI, 10, .inl (upd (fun _ => 0) (0 : Int32).toNatClampNeg 1)))).set 8 ((u 7), .inl (cI, 160, .inl (upd (fun _ => (-1)) (x2 : Int32).toNatClampNeg 6)))).set 9 ((u 8), .inl (cI, 160, .inl (upd (fun _ => 0) (x2 : Int32).toNatClampNeg (-1))))) H := hP
  have hD : va_D A (((((xW o u cI cZ cJ).set 5 ((u 4), .inl (cI, 10, .inl (upd (fun _ => 0) (0 : Int32).toNatClampNeg 1)))).set 6 ((u 5), .inl (cI, 10, .inl (upd (fun _ => 0) (0 : Int32).toNatClampNeg 1)))).set 8 ((u 7), .inl (cI, 160, .inl (upd (fun _ => (-1)) (x2 : Int32).toNatClampNeg 6)))).set 9 ((u 8), .inl (cI, 160, .inl (upd (fun _ => 0) (x2 : Int32).toNatClampNeg (-1))))) := hD
  refine lv_aload_n hx hb dX1_declare_24 rfl (lv_at hl 1 rfl) ?_
  refine xg (ci := 1) S inX1 rfl hK hP (q0 := 1) rfl 9 (by decide) rfl kw_1_67 rfl dX1_declare_25 ?_
  refine lv_iload hx hb dX1_declare_28 (lv_at hl 0 rfl) ?_
  refine lv_iload hx hb dX1_declare_30 (lv_at hl 5 rfl) ?_
  refine xiast (t0 := 0) S hK hP hD hS (q0 := 10) rfl rfl (b_in lo_x2 hi_x2 (by decide) (by decide)) dX1_declare_32 (fun H locs hP hD hS => ?_)
  have hP : va_P D vwCl ((((((xW o u cI cZ cJ).set 5 ((u 4), .inl (cI, 10, .inl (upd (fun _ => 0) (0 : Int32).toNatClampNeg 1)))).set 6 ((u 5), .inl (cI, 10, .inl (upd (fun _ => 0) (0 : Int32).toNatClampNeg 1)))).set 8 ((u 7), .inl (cI, 160, .inl (upd (fun _ => (-1)) (x2 : Int32).toNatClampNeg 6)))).set 9 ((u 8), .inl (cI, 160, .inl (upd (fun _ => 0) (x2 : Int32).toNatClampNeg (-1))))).set 10 ((u 9), .inl (cI, 160, .inl (upd (fun _ => 0) (x2 : Int32).toNatClampNeg 0)))) H := hP
  have hD : va_D A ((((((xW o u cI cZ cJ).set 5 ((u 4), .inl (cI, 10, .inl (upd (fun _ => 0) (0 : Int32).toNatClampNeg 1)))).set 6 ((u 5), .inl (cI, 10, .inl (upd (fun _ => 0) (0 : Int32).toNatClampNeg 1)))).set 8 ((u 7), .inl (cI, 160, .inl (upd (fun _ => (-1)) (x2 : Int32).toNatClampNeg 6)))).set 9 ((u 8), .inl (cI, 160, .inl (upd (fun _ => 0) (x2 : Int32).toNatClampNeg (-1))))).set 10 ((u 9), .inl (cI, 160, .inl (upd (fun _ => 0) (x2 : Int32).toNatClampNeg 0)))) := hD
  exact wEndv S hr hlocks hP hD hS (Nat.le_of_ble_eq_true rfl) (Nat.le_of_ble_eq_true rfl) dX1_declare_33

set_option maxHeartbeats 8000000 in
set_option maxRecDepth 100000 in
theorem c_X1_declarePlace_0 (l : Launch) (D : va_G) (cI cZ cJ : ClassId) (o : Nat) (u : Nat → Nat) (ra ga : Nat → Nat) (sz : Nat) (x2 : Int32) (lo_x2 : 0 ≤ x2) (hi_x2 : x2 ≤ 15) : Met l yX1_declarePlace (uW yX1_declarePlace cX1_declarePlace 6 (some .int)) ({ frames := 1, cells := 0, slots := 0, locals := 25 }) (va_Pc [.ref (u 0), .int 0, .int x2, .int 6, .int 0] (aS ra ga D (tyL cI cZ cJ) ((xW o u cI cZ cJ).set 5 ((u 4), .inl (cI, 10, .inl (upd (fun _ => 0) (0 : Int32).toNatClampNeg 1)))) sz)) (wQi (0) D ((((((((xW o u cI cZ cJ).set 5 ((u 4), .inl (cI, 10, .inl (upd (fun _ => 0) (0 : Int32).toNatClampNeg 1)))).set 6 ((u 5), .inl (cI, 10, .inl (upd (fun _ => 0) (0 : Int32).toNatClampNeg 1)))).set 8 ((u 7), .inl (cI, 160, .inl (upd (fun _ => (-1)) (x2 : Int32).toNatClampNeg 6)))).set 9 ((u 8), .inl (cI, 160, .inl (upd (upd (fun _ => 0) (x2 : Int32).toNatClampNeg (-1)) (x2 : Int32).toNatClampNeg 0)))).set 10 ((u 9), .inl (cI, 160, .inl (upd (fun _ => 0) (x2 : Int32).toNatClampNeg 0)))).set 11 ((u 10), .inl (cI, 100, .inl (upd (fun _ => 0) (0 : Int32).toNatClampNeg 6)))).set 12 ((u 11), .inl (cI, 100, .inl (upd (fun _ => 0) (0 : Int32).toNatClampNeg 0)))) (va_A ((xW o u cI cZ cJ).set 5 ((u 4), .inl (cI, 10, .inl (upd (fun _ => 0) (0 : Int32).toNatClampNeg 1)))) sz)) 0 0 (va_A ((xW o u cI cZ cJ).set 5 ((u 4), .inl (cI, 10, .inl (upd (fun _ => 0) (0 : Int32).toNatClampNeg 1)))) sz) := by
  refine aStart (lv := [(0, .ref (u 0)), (1, .int 0), (2, .int x2), (3, .int 6), (4, .int 0)]) (Qc := fun A => wQi (0) D ((((((((xW o u cI cZ cJ).set 5 ((u 4), .inl (cI, 10, .inl (upd (fun _ => 0) (0 : Int32).toNatClampNeg 1)))).set 6 ((u 5), .inl (cI, 10, .inl (upd (fun _ => 0) (0 : Int32).toNatClampNeg 1)))).set 8 ((u 7), .inl (cI, 160, .inl (upd (fun _ => (-1)) (x2 : Int32).toNatClampNeg 6)))).set 9 ((u 8), .inl (cI, 160, .inl (upd (upd (fun _ => 0) (x2 : Int32).toNatClampNeg (-1)) (x2 : Int32).toNatClampNeg 0)))).set 10 ((u 9), .inl (cI, 160, .inl (upd (fun _ => 0) (x2 : Int32).toNatClampNeg 0)))).set 11 ((u 10), .inl (cI, 100, .inl (upd (fun _ => 0) (0 : Int32).toNatClampNeg 6)))).set 12 ((u 11), .inl (cI, 100, .inl (upd (fun _ => 0) (0 : Int32).toNatClampNeg 0)))) A) (by decide) (Nat.le_of_ble_eq_true rfl) rfl ?_
  intro p e s m args below meth c ls A H S hr hlocks hnm hl hK hP hD hS hA hB
  have hx := S.1
  have hb := S.2.1
  refine lv_aload_n hx hb dX1_declarePlace_0 rfl (lv_at hl 0 rfl) ?_
  refine xg (ci := 1) S inX1 rfl hK hP (q0 := 1) rfl 5 (by decide) rfl kw_1_55 rfl dX1_declarePlace_1 ?_
  refine lv_iload_n hx hb dX1_declarePlace_4 rfl (lv_at hl 1 rfl) ?_
  refine xiald (t0 := 0) (v := 0) S hK hP (q0 := 6) rfl rfl (vin rfl) rfl dX1_declarePlace_5 ?_
  refine lv_istore (lv' := [(5, .int 0), (0, .ref (u 0)), (1, .int 0), (2, .int x2), (3, .int 6), (4, .int 0)]) hx hb dX1_declarePlace_6 hl (by decide) rfl (fun ls hl => ?_)
  refine lv_aload_n hx hb dX1_declarePlace_8 rfl (lv_at hl 1 rfl) ?_
  refine xg (ci := 1) S inX1 rfl hK hP (q0 := 1) rfl 5 (by decide) rfl kw_1_55 rfl dX1_declarePlace_9 ?_
  refine lv_iload_n hx hb dX1_declarePlace_12 rfl (lv_at hl 2 rfl) ?_
  refine lv_dup2_11 hx hb dX1_declarePlace_13 rfl rfl ?_
  refine xiald (t0 := 0) (v := 0) S hK hP (q0 := 6) rfl rfl (vin rfl) rfl dX1_declarePlace_14 ?_
  refine lv_iconst (v := 1) hx hb dX1_declarePlace_15 (by decide) ?_
  refine xiadd (v := 1) S dX1_declarePlace_16 (by decide) ?_
  refine xiast (t0 := 0) S hK hP hD hS (q0 := 6) rfl rfl (vin rfl) dX1_declarePlace_17 (fun H locs hP hD hS => ?_)
  have hP : va_P D vwCl (((xW o u cI cZ cJ).set 5 ((u 4), .inl (cI, 10, .inl (upd (fun _ => 0) (0 : Int32).toNatClampNeg 1)))).set 6 ((u 5), .inl (cI, 10, .inl (upd (fun _ => 0) (0 : Int32).toNatClampNeg 1)))) H := hP
  have hD : va_D A (((xW o u cI cZ cJ).set 5 ((u 4), .inl (cI, 10, .inl (upd (fun _ => 0) (0 : Int32).toNatClampNeg 1)))).set 6 ((u 5), .inl (cI, 10, .inl (upd (fun _ => 0) (0 : Int32).toNatClampNeg 1)))) := hD
  refine lv_aload_n hx hb dX1_declarePlace_18 rfl (lv_at hl 1 rfl) ?_
  refine lv_iload_n hx hb dX1_declarePlace_19 rfl (lv_at hl 2 rfl) ?_
  refine lv_iload_n hx hb dX1_declarePlace_20 rfl (lv_at hl 3 rfl) ?_
  refine lv_iload_n hx hb dX1_declarePlace_21 rfl (lv_at hl 4 rfl) ?_
  refine lv_iload hx hb dX1_declarePlace_22 (lv_at hl 5 rfl) ?_
  refine aVv (As := [.int 0, .int x2, .int 6, .int 0]) (ci := 1) S (c_X1_declare_1 l D cI cZ cJ o u ra ga H.size x2 lo_x2 hi_x2) mi_X1_declare kw_5_206 rfl rfl ⟨Nat.le_of_ble_eq_true rfl, Nat.le_of_ble_eq_true rfl⟩ hP hD hK hS hA hB (k := 1) rfl rfl rfl hl.1 (Nat.le_of_ble_eq_true rfl) ⟨Nat.le_of_ble_eq_true rfl, Nat.le_of_ble_eq_true rfl⟩ dX1_declarePlace_24 (fun H locs hz hP hD hS => ?_)
  refine lv_aload_n hx hb dX1_declarePlace_27 rfl (lv_at hl 1 rfl) ?_
  refine xg (ci := 1) S inX1 rfl hK hP (q0 := 1) rfl 8 (by decide) rfl kw_1_64 rfl dX1_declarePlace_28 ?_
  refine lv_iload_n hx hb dX1_declarePlace_31 rfl (lv_at hl 2 rfl) ?_
  refine lv_bipush (v := 16) hx hb dX1_declarePlace_32 (by decide) ?_
  refine ximul (v := 0) S dX1_declarePlace_34 (by decide) ?_
  refine lv_iload_n hx hb dX1_declarePlace_35 rfl (lv_at hl 3 rfl) ?_
  refine xiadd (v := x2) S dX1_declarePlace_36 (Int32.zero_add _) ?_
  refine lv_iload hx hb dX1_declarePlace_37 (lv_at hl 0 rfl) ?_
  refine xiast (t0 := 0) S hK hP hD hS (q0 := 9) rfl rfl (b_in lo_x2 hi_x2 (by decide) (by decide)) dX1_declarePlace_39 (fun H locs hP hD hS => ?_)
  have hP : va_P D vwCl ((((((xW o u cI cZ cJ).set 5 ((u 4), .inl (cI, 10, .inl (upd (fun _ => 0) (0 : Int32).toNatClampNeg 1)))).set 6 ((u 5), .inl (cI, 10, .inl (upd (fun _ => 0) (0 : Int32).toNatClampNeg 1)))).set 8 ((u 7), .inl (cI, 160, .inl (upd (fun _ => (-1)) (x2 : Int32).toNatClampNeg 6)))).set 9 ((u 8), .inl (cI, 160, .inl (upd (upd (fun _ => 0) (x2 : Int32).toNatClampNeg (-1)) (x2 : Int32).toNatClampNeg 0)))).set 10 ((u 9), .inl (cI, 160, .inl (upd (fun _ => 0) (x2 : Int32).toNatClampNeg 0)))) H := hP
  have hD : va_D A ((((((xW o u cI cZ cJ).set 5 ((u 4), .inl (cI, 10, .inl (upd (fun _ => 0) (0 : Int32).toNatClampNeg 1)))).set 6 ((u 5), .inl (cI, 10, .inl (upd (fun _ => 0) (0 : Int32).toNatClampNeg 1)))).set 8 ((u 7), .inl (cI, 160, .inl (upd (fun _ => (-1)) (x2 : Int32).toNatClampNeg 6)))).set 9 ((u 8), .inl (cI, 160, .inl (upd (upd (fun _ => 0) (x2 : Int32).toNatClampNeg (-1)) (x2 : Int32).toNatClampNeg 0)))).set 10 ((u 9), .inl (cI, 160, .inl (upd (fun _ => 0) (x2 : Int32).toNatClampNeg 0)))) := hD
  refine lv_aload_n hx hb dX1_declarePlace_40 rfl (lv_at hl 1 rfl) ?_
  refine xg (ci := 1) S inX1 rfl hK hP (q0 := 1) rfl 10 (by decide) rfl kw_1_70 rfl dX1_declarePlace_41 ?_
  refine lv_iload_n hx hb dX1_declarePlace_44 rfl (lv_at hl 2 rfl) ?_
  refine lv_bipush (v := 10) hx hb dX1_declarePlace_45 (by decide) ?_
  refine ximul (v := 0) S dX1_declarePlace_47 (by decide) ?_
  refine lv_iload hx hb dX1_declarePlace_48 (lv_at hl 0 rfl) ?_
  refine xiadd (v := 0) S dX1_declarePlace_50 (by decide) ?_
  refine lv_iload_n hx hb dX1_declarePlace_51 rfl (lv_at hl 4 rfl) ?_
  refine xiast (t0 := 0) S hK hP hD hS (q0 := 11) rfl rfl (vin rfl) dX1_declarePlace_52 (fun H locs hP hD hS => ?_)
  have hP : va_P D vwCl (((((((xW o u cI cZ cJ).set 5 ((u 4), .inl (cI, 10, .inl (upd (fun _ => 0) (0 : Int32).toNatClampNeg 1)))).set 6 ((u 5), .inl (cI, 10, .inl (upd (fun _ => 0) (0 : Int32).toNatClampNeg 1)))).set 8 ((u 7), .inl (cI, 160, .inl (upd (fun _ => (-1)) (x2 : Int32).toNatClampNeg 6)))).set 9 ((u 8), .inl (cI, 160, .inl (upd (upd (fun _ => 0) (x2 : Int32).toNatClampNeg (-1)) (x2 : Int32).toNatClampNeg 0)))).set 10 ((u 9), .inl (cI, 160, .inl (upd (fun _ => 0) (x2 : Int32).toNatClampNeg 0)))).set 11 ((u 10), .inl (cI, 100, .inl (upd (fun _ => 0) (0 : Int32).toNatClampNeg 6)))) H := hP
  have hD : va_D A (((((((xW o u cI cZ cJ).set 5 ((u 4), .inl (cI, 10, .inl (upd (fun _ => 0) (0 : Int32).toNatClampNeg 1)))).set 6 ((u 5), .inl (cI, 10, .inl (upd (fun _ => 0) (0 : Int32).toNatClampNeg 1)))).set 8 ((u 7), .inl (cI, 160, .inl (upd (fun _ => (-1)) (x2 : Int32).toNatClampNeg 6)))).set 9 ((u 8), .inl (cI, 160, .inl (upd (upd (fun _ => 0) (x2 : Int32).toNatClampNeg (-1)) (x2 : Int32).toNatClampNeg 0)))).set 10 ((u 9), .inl (cI, 160, .inl (upd (fun _ => 0) (x2 : Int32).toNatClampNeg 0)))).set 11 ((u 10), .inl (cI, 100, .inl (upd (fun _ => 0) (0 : Int32).toNatClampNeg 6)))) := hD
  refine lv_aload_n hx hb dX1_declarePlace_53 rfl (lv_at hl 1 rfl) ?_
  refine xg (ci := 1) S inX1 rfl hK hP (q0 := 1) rfl 11 (by decide) rfl kw_1_73 rfl dX1_declarePlace_54 ?_
  refine lv_iload_n hx hb dX1_declarePlace_57 rfl (lv_at hl 2 rfl) ?_
  refine lv_bipush (v := 10) hx hb dX1_declarePlace_58 (by decide) ?_
  refine ximul (v := 0) S dX1_declarePlace_60 (by decide) ?_
  refine lv_iload hx hb dX1_declarePlace_61 (lv_at hl 0 rfl) ?_
  refine xiadd (v := 0) S dX1_declarePlace_63 (by decide) ?_
  refine lv_iload hx hb dX1_declarePlace_64 (lv_at hl 5 rfl) ?_
  refine xiast (t0 := 0) S hK hP hD hS (q0 := 12) rfl rfl (vin rfl) dX1_declarePlace_66 (fun H locs hP hD hS => ?_)
  have hP : va_P D vwCl ((((((((xW o u cI cZ cJ).set 5 ((u 4), .inl (cI, 10, .inl (upd (fun _ => 0) (0 : Int32).toNatClampNeg 1)))).set 6 ((u 5), .inl (cI, 10, .inl (upd (fun _ => 0) (0 : Int32).toNatClampNeg 1)))).set 8 ((u 7), .inl (cI, 160, .inl (upd (fun _ => (-1)) (x2 : Int32).toNatClampNeg 6)))).set 9 ((u 8), .inl (cI, 160, .inl (upd (upd (fun _ => 0) (x2 : Int32).toNatClampNeg (-1)) (x2 : Int32).toNatClampNeg 0)))).set 10 ((u 9), .inl (cI, 160, .inl (upd (fun _ => 0) (x2 : Int32).toNatClampNeg 0)))).set 11 ((u 10), .inl (cI, 100, .inl (upd (fun _ => 0) (0 : Int32).toNatClampNeg 6)))).set 12 ((u 11), .inl (cI, 100, .inl (upd (fun _ => 0) (0 : Int32).toNatClampNeg 0)))) H := hP
  have hD : va_D A ((((((((xW o u cI cZ cJ).set 5 ((u 4), .inl (cI, 10, .inl (upd (fun _ => 0) (0 : Int32).toNatClampNeg 1)))).set 6 ((u 5), .inl (cI, 10, .inl (upd (fun _ => 0) (0 : Int32).toNatClampNeg 1)))).set 8 ((u 7), .inl (cI, 160, .inl (upd (fun _ => (-1)) (x2 : Int32).toNatClampNeg 6)))).set 9 ((u 8), .inl (cI, 160, .inl (upd (upd (fun _ => 0) (x2 : Int32).toNatClampNeg (-1)) (x2 : Int32).toNatClampNeg 0)))).set 10 ((u 9), .inl (cI, 160, .inl (upd (fun _ => 0) (x2 : Int32).toNatClampNeg 0)))).set 11 ((u 10), .inl (cI, 100, .inl (upd (fun _ => 0) (0 : Int32).toNatClampNeg 6)))).set 12 ((u 11), .inl (cI, 100, .inl (upd (fun _ => 0) (0 : Int32).toNatClampNeg 0)))) := hD
  refine lv_iload hx hb dX1_declarePlace_67 (lv_at hl 0 rfl) ?_
  exact wEnd S hr hlocks hP hD hS (Nat.le_of_ble_eq_true rfl) (Nat.le_of_ble_eq_true rfl) dX1_declarePlace_69 rfl

set_option maxHeartbeats 8000000 in
set_option maxRecDepth 100000 in
theorem c_X1_addVariable_0 (l : Launch) (D : va_G) (cI cZ cJ : ClassId) (o : Nat) (u : Nat → Nat) (ra ga : Nat → Nat) (sz : Nat) (x2 : Int32) (lo_x2 : 0 ≤ x2) (hi_x2 : x2 ≤ 15) : Met l yX1_addVariable (uW yX1_addVariable cX1_addVariable 5 (some .int)) ({ frames := 2, cells := 0, slots := 0, locals := 50 }) (va_Pc [.ref (u 0), .int 0, .int x2, .int 6, .int 0] (aS ra ga D (tyL cI cZ cJ) (xW o u cI cZ cJ) sz)) (wQi (0) D ((((((((xW o u cI cZ cJ).set 5 ((u 4), .inl (cI, 10, .inl (upd (fun _ => 0) (0 : Int32).toNatClampNeg 1)))).set 6 ((u 5), .inl (cI, 10, .inl (upd (fun _ => 0) (0 : Int32).toNatClampNeg 1)))).set 8 ((u 7), .inl (cI, 160, .inl (upd (fun _ => (-1)) (x2 : Int32).toNatClampNeg 6)))).set 9 ((u 8), .inl (cI, 160, .inl (upd (upd (fun _ => 0) (x2 : Int32).toNatClampNeg (-1)) (x2 : Int32).toNatClampNeg 0)))).set 10 ((u 9), .inl (cI, 160, .inl (upd (fun _ => 0) (x2 : Int32).toNatClampNeg 0)))).set 11 ((u 10), .inl (cI, 100, .inl (upd (fun _ => 0) (0 : Int32).toNatClampNeg 6)))).set 12 ((u 11), .inl (cI, 100, .inl (upd (fun _ => 0) (0 : Int32).toNatClampNeg 0)))) (va_A (xW o u cI cZ cJ) sz)) 0 0 (va_A (xW o u cI cZ cJ) sz) := by
  refine aStart (lv := [(0, .ref (u 0)), (1, .int 0), (2, .int x2), (3, .int 6), (4, .int 0)]) (Qc := fun A => wQi (0) D ((((((((xW o u cI cZ cJ).set 5 ((u 4), .inl (cI, 10, .inl (upd (fun _ => 0) (0 : Int32).toNatClampNeg 1)))).set 6 ((u 5), .inl (cI, 10, .inl (upd (fun _ => 0) (0 : Int32).toNatClampNeg 1)))).set 8 ((u 7), .inl (cI, 160, .inl (upd (fun _ => (-1)) (x2 : Int32).toNatClampNeg 6)))).set 9 ((u 8), .inl (cI, 160, .inl (upd (upd (fun _ => 0) (x2 : Int32).toNatClampNeg (-1)) (x2 : Int32).toNatClampNeg 0)))).set 10 ((u 9), .inl (cI, 160, .inl (upd (fun _ => 0) (x2 : Int32).toNatClampNeg 0)))).set 11 ((u 10), .inl (cI, 100, .inl (upd (fun _ => 0) (0 : Int32).toNatClampNeg 6)))).set 12 ((u 11), .inl (cI, 100, .inl (upd (fun _ => 0) (0 : Int32).toNatClampNeg 0)))) A) (by decide) (Nat.le_of_ble_eq_true rfl) rfl ?_
  intro p e s m args below meth c ls A H S hr hlocks hnm hl hK hP hD hS hA hB
  have hx := S.1
  have hb := S.2.1
  refine lv_aload_n hx hb dX1_addVariable_0 rfl (lv_at hl 0 rfl) ?_
  refine xg (ci := 1) S inX1 rfl hK hP xW_1 4 (by decide) rfl kw_1_53 rfl dX1_addVariable_1 ?_
  refine lv_iload_n hx hb dX1_addVariable_4 rfl (lv_at hl 1 rfl) ?_
  refine lv_dup2_11 hx hb dX1_addVariable_5 rfl rfl ?_
  refine xiald (t0 := 0) (v := 0) S hK hP xW_5 rfl (vin rfl) rfl dX1_addVariable_6 ?_
  refine lv_iconst (v := 1) hx hb dX1_addVariable_7 (by decide) ?_
  refine xiadd (v := 1) S dX1_addVariable_8 (by decide) ?_
  refine xiast (t0 := 0) S hK hP hD hS xW_5 rfl (vin rfl) dX1_addVariable_9 (fun H locs hP hD hS => ?_)
  have hP : va_P D vwCl ((xW o u cI cZ cJ).set 5 ((u 4), .inl (cI, 10, .inl (upd (fun _ => 0) (0 : Int32).toNatClampNeg 1)))) H := hP
  have hD : va_D A ((xW o u cI cZ cJ).set 5 ((u 4), .inl (cI, 10, .inl (upd (fun _ => 0) (0 : Int32).toNatClampNeg 1)))) := hD
  refine lv_iload_n hx hb dX1_addVariable_10 rfl (lv_at hl 3 rfl) ?_
  refine lv_bipush (v := 9) hx hb dX1_addVariable_11 (by decide) ?_
  refine lv_icmp_ne (tgt := 27) hx hb dX1_addVariable_13 (by decide) (fun _ => ?_) (fun c => absurd c (by decide))
  refine lv_aload_n hx hb dX1_addVariable_27 rfl (lv_at hl 0 rfl) ?_
  refine lv_iload_n hx hb dX1_addVariable_28 rfl (lv_at hl 1 rfl) ?_
  refine lv_iload_n hx hb dX1_addVariable_29 rfl (lv_at hl 2 rfl) ?_
  refine lv_iload_n hx hb dX1_addVariable_30 rfl (lv_at hl 3 rfl) ?_
  refine lv_iload hx hb dX1_addVariable_31 (lv_at hl 4 rfl) ?_
  refine aVi (As := [.int 0, .int x2, .int 6, .int 0]) (ci := 1) S (c_X1_declarePlace_0 l D cI cZ cJ o u ra ga H.size x2 lo_x2 hi_x2) mi_X1_declarePlace kw_5_225 rfl rfl ⟨Nat.le_of_ble_eq_true rfl, Nat.le_of_ble_eq_true rfl⟩ hP hD hK hS hA hB (k := 1) rfl rfl rfl hl.1 (Nat.le_of_ble_eq_true rfl) ⟨Nat.le_of_ble_eq_true rfl, Nat.le_of_ble_eq_true rfl⟩ dX1_addVariable_33 (fun H locs hz hP hD hS => ?_)
  exact wEnd S hr hlocks hP hD hS (Nat.le_of_ble_eq_true rfl) (Nat.le_of_ble_eq_true rfl) dX1_addVariable_36 rfl

set_option maxHeartbeats 8000000 in
set_option maxRecDepth 100000 in
theorem c_X8_variable_0 (l : Launch) (D : va_G) (cI cZ cJ : ClassId) (o : Nat) (u : Nat → Nat) (hst : l.stackTraces = false) (ra ga : Nat → Nat) (sz : Nat) (x1 : Int32) (x2 : Int32) (x3 : Int32) (x4 : Int32) (hi_x1 : x1 ≤ (-1)) : vx_Met l yX8_variable (uW yX8_variable cX8_variable 5 (some .int)) ({ frames := 7, cells := 1, slots := 6, locals := 103 }) (va_Pc [.ref o, .int x1, .int x2, .int x3, .int x4] (aS ra ga D (tyL cI cZ cJ) (xW o u cI cZ cJ) sz)) (nQi (va_A (xW o u cI cZ cJ) sz)) (wX "java/lang/IndexOutOfBoundsException" D (xW o u cI cZ cJ) (va_A (xW o u cI cZ cJ) sz)) 1 6 (va_A (xW o u cI cZ cJ) sz) := by
  refine xStart (lv := [(0, .ref o), (1, .int x1), (2, .int x2), (3, .int x3), (4, .int x4)]) (Qc := fun A => nQi A) (XC := fun A => wX "java/lang/IndexOutOfBoundsException" D (xW o u cI cZ cJ) A) (by decide) (Nat.le_of_ble_eq_true rfl) rfl ?_
  intro p e s m args below meth c ls A H S hr hlocks hnm hl hK hP hD hS hA hB hnt
  have hx := S.1
  have hb := S.2.1
  refine lv_aload_n hx hb dX8_variable_0 rfl (lv_at hl 0 rfl) ?_
  refine lv_iload_n hx hb dX8_variable_1 rfl (lv_at hl 1 rfl) ?_
  exact tVv (As := [.int x1]) (ci := 8) S (c_X8_needProcedure_0 l D cI cZ cJ o u hst ra ga H.size x1 hi_x1) mi_X8_needProcedure kw_4_166 rfl rfl ⟨Nat.le_of_ble_eq_true rfl, Nat.le_of_ble_eq_true rfl⟩ hP hD hK hS hA hB xW_0 rfl rfl hl.1 (Nat.le_of_ble_eq_true rfl) ⟨Nat.le_of_ble_eq_true rfl, Nat.le_of_ble_eq_true rfl⟩ dX8_variable_2 hnt hlocks (Nat.le_of_ble_eq_true rfl) (Nat.le_of_ble_eq_true rfl)

set_option maxHeartbeats 8000000 in
set_option maxRecDepth 100000 in
theorem c_X8_variable_1 (l : Launch) (D : va_G) (cI cZ cJ : ClassId) (o : Nat) (u : Nat → Nat) (hst : l.stackTraces = false) (ra ga : Nat → Nat) (sz : Nat) (x1 : Int32) (x2 : Int32) (x3 : Int32) (x4 : Int32) (lo_x1 : 1 ≤ x1) : vx_Met l yX8_variable (uW yX8_variable cX8_variable 5 (some .int)) ({ frames := 7, cells := 1, slots := 6, locals := 103 }) (va_Pc [.ref o, .int x1, .int x2, .int x3, .int x4] (aS ra ga D (tyL cI cZ cJ) (xW o u cI cZ cJ) sz)) (nQi (va_A (xW o u cI cZ cJ) sz)) (wX "java/lang/IndexOutOfBoundsException" D (xW o u cI cZ cJ) (va_A (xW o u cI cZ cJ) sz)) 1 6 (va_A (xW o u cI cZ cJ) sz) := by
  refine xStart (lv := [(0, .ref o), (1, .int x1), (2, .int x2), (3, .int x3), (4, .int x4)]) (Qc := fun A => nQi A) (XC := fun A => wX "java/lang/IndexOutOfBoundsException" D (xW o u cI cZ cJ) A) (by decide) (Nat.le_of_ble_eq_true rfl) rfl ?_
  intro p e s m args below meth c ls A H S hr hlocks hnm hl hK hP hD hS hA hB hnt
  have hx := S.1
  have hb := S.2.1
  refine lv_aload_n hx hb dX8_variable_0 rfl (lv_at hl 0 rfl) ?_
  refine lv_iload_n hx hb dX8_variable_1 rfl (lv_at hl 1 rfl) ?_
  exact tVv (As := [.int x1]) (ci := 8) S (c_X8_needProcedure_1 l D cI cZ cJ o u hst ra ga H.size x1 lo_x1) mi_X8_needProcedure kw_4_166 rfl rfl ⟨Nat.le_of_ble_eq_true rfl, Nat.le_of_ble_eq_true rfl⟩ hP hD hK hS hA hB xW_0 rfl rfl hl.1 (Nat.le_of_ble_eq_true rfl) ⟨Nat.le_of_ble_eq_true rfl, Nat.le_of_ble_eq_true rfl⟩ dX8_variable_2 hnt hlocks (Nat.le_of_ble_eq_true rfl) (Nat.le_of_ble_eq_true rfl)

set_option maxHeartbeats 8000000 in
set_option maxRecDepth 100000 in
theorem c_X8_variable_2 (l : Launch) (D : va_G) (cI cZ cJ : ClassId) (o : Nat) (u : Nat → Nat) (hst : l.stackTraces = false) (ra ga : Nat → Nat) (sz : Nat) (x2 : Int32) (x3 : Int32) (x4 : Int32) (hi_x2 : x2 ≤ (-1)) : vx_Met l yX8_variable (uW yX8_variable cX8_variable 5 (some .int)) ({ frames := 7, cells := 1, slots := 6, locals := 102 }) (va_Pc [.ref o, .int 0, .int x2, .int x3, .int x4] (aS ra ga D (tyL cI cZ cJ) (xW o u cI cZ cJ) sz)) (nQi (va_A (xW o u cI cZ cJ) sz)) (wX "java/lang/IllegalArgumentException" D (xW o u cI cZ cJ) (va_A (xW o u cI cZ cJ) sz)) 1 6 (va_A (xW o u cI cZ cJ) sz) := by
  refine xStart (lv := [(0, .ref o), (1, .int 0), (2, .int x2), (3, .int x3), (4, .int x4)]) (Qc := fun A => nQi A) (XC := fun A => wX "java/lang/IllegalArgumentException" D (xW o u cI cZ cJ) A) (by decide) (Nat.le_of_ble_eq_true rfl) rfl ?_
  intro p e s m args below meth c ls A H S hr hlocks hnm hl hK hP hD hS hA hB hnt
  have hx := S.1
  have hb := S.2.1
  refine lv_aload_n hx hb dX8_variable_0 rfl (lv_at hl 0 rfl) ?_
  refine lv_iload_n hx hb dX8_variable_1 rfl (lv_at hl 1 rfl) ?_
  refine aVv (As := [.int 0]) (ci := 8) S (c_X8_needProcedure_2 l D cI cZ cJ o u ra ga H.size) mi_X8_needProcedure kw_4_166 rfl rfl ⟨Nat.le_of_ble_eq_true rfl, Nat.le_of_ble_eq_true rfl⟩ hP hD hK hS hA hB xW_0 rfl rfl hl.1 (Nat.le_of_ble_eq_true rfl) ⟨Nat.le_of_ble_eq_true rfl, Nat.le_of_ble_eq_true rfl⟩ dX8_variable_2 (fun H locs hz hP hD hS => ?_)
  refine lv_iload_n hx hb dX8_variable_5 rfl (lv_at hl 2 rfl) ?_
  refine rdS (As := [.int x2]) S (c_X8_isName_0 l D cI cZ cJ o u x2 hi_x2) ms_X8_isName kw_4_198 ⟨rfl, rfl⟩ ⟨Nat.le_of_ble_eq_true rfl, Nat.le_of_ble_eq_true rfl⟩ hP hK hl.1 (Nat.le_of_ble_eq_true rfl) ⟨Nat.le_of_ble_eq_true rfl, Nat.le_of_ble_eq_true rfl⟩ dX8_variable_6 ?_
  refine lv_if_eq (tgt := 25) hx hb dX8_variable_9 (by decide) (fun _ => ?_) (fun c => absurd c (by decide))
  refine lv_iconst (v := 0) hx hb dX8_variable_25 (by decide) ?_
  exact tSv (As := [.int 0]) S (c_X8_needArgument_0 l D cI cZ cJ o u hst ra ga H.size) ms_X8_needArgument kw_4_4 rfl rfl ⟨Nat.le_of_ble_eq_true rfl, Nat.le_of_ble_eq_true rfl⟩ hP hD hK hS hA hB hl.1 (Nat.le_of_ble_eq_true rfl) ⟨Nat.le_of_ble_eq_true rfl, Nat.le_of_ble_eq_true rfl⟩ dX8_variable_26 hnt hlocks (Nat.le_of_ble_eq_true rfl) (Nat.le_of_ble_eq_true rfl)

set_option maxHeartbeats 8000000 in
set_option maxRecDepth 100000 in
theorem c_X8_variable_3 (l : Launch) (D : va_G) (cI cZ cJ : ClassId) (o : Nat) (u : Nat → Nat) (hst : l.stackTraces = false) (ra ga : Nat → Nat) (sz : Nat) (x2 : Int32) (x3 : Int32) (x4 : Int32) (lo_x2 : 16 ≤ x2) : vx_Met l yX8_variable (uW yX8_variable cX8_variable 5 (some .int)) ({ frames := 7, cells := 1, slots := 6, locals := 102 }) (va_Pc [.ref o, .int 0, .int x2, .int x3, .int x4] (aS ra ga D (tyL cI cZ cJ) (xW o u cI cZ cJ) sz)) (nQi (va_A (xW o u cI cZ cJ) sz)) (wX "java/lang/IllegalArgumentException" D (xW o u cI cZ cJ) (va_A (xW o u cI cZ cJ) sz)) 1 6 (va_A (xW o u cI cZ cJ) sz) := by
  refine xStart (lv := [(0, .ref o), (1, .int 0), (2, .int x2), (3, .int x3), (4, .int x4)]) (Qc := fun A => nQi A) (XC := fun A => wX "java/lang/IllegalArgumentException" D (xW o u cI cZ cJ) A) (by decide) (Nat.le_of_ble_eq_true rfl) rfl ?_
  intro p e s m args below meth c ls A H S hr hlocks hnm hl hK hP hD hS hA hB hnt
  have hx := S.1
  have hb := S.2.1
  refine lv_aload_n hx hb dX8_variable_0 rfl (lv_at hl 0 rfl) ?_
  refine lv_iload_n hx hb dX8_variable_1 rfl (lv_at hl 1 rfl) ?_
  refine aVv (As := [.int 0]) (ci := 8) S (c_X8_needProcedure_2 l D cI cZ cJ o u ra ga H.size) mi_X8_needProcedure kw_4_166 rfl rfl ⟨Nat.le_of_ble_eq_true rfl, Nat.le_of_ble_eq_true rfl⟩ hP hD hK hS hA hB xW_0 rfl rfl hl.1 (Nat.le_of_ble_eq_true rfl) ⟨Nat.le_of_ble_eq_true rfl, Nat.le_of_ble_eq_true rfl⟩ dX8_variable_2 (fun H locs hz hP hD hS => ?_)
  refine lv_iload_n hx hb dX8_variable_5 rfl (lv_at hl 2 rfl) ?_
  refine rdS (As := [.int x2]) S (c_X8_isName_1 l D cI cZ cJ o u x2 lo_x2) ms_X8_isName kw_4_198 ⟨rfl, rfl⟩ ⟨Nat.le_of_ble_eq_true rfl, Nat.le_of_ble_eq_true rfl⟩ hP hK hl.1 (Nat.le_of_ble_eq_true rfl) ⟨Nat.le_of_ble_eq_true rfl, Nat.le_of_ble_eq_true rfl⟩ dX8_variable_6 ?_
  refine lv_if_eq (tgt := 25) hx hb dX8_variable_9 (by decide) (fun _ => ?_) (fun c => absurd c (by decide))
  refine lv_iconst (v := 0) hx hb dX8_variable_25 (by decide) ?_
  exact tSv (As := [.int 0]) S (c_X8_needArgument_0 l D cI cZ cJ o u hst ra ga H.size) ms_X8_needArgument kw_4_4 rfl rfl ⟨Nat.le_of_ble_eq_true rfl, Nat.le_of_ble_eq_true rfl⟩ hP hD hK hS hA hB hl.1 (Nat.le_of_ble_eq_true rfl) ⟨Nat.le_of_ble_eq_true rfl, Nat.le_of_ble_eq_true rfl⟩ dX8_variable_26 hnt hlocks (Nat.le_of_ble_eq_true rfl) (Nat.le_of_ble_eq_true rfl)

set_option maxHeartbeats 8000000 in
set_option maxRecDepth 100000 in
theorem c_X8_variable_4 (l : Launch) (D : va_G) (cI cZ cJ : ClassId) (o : Nat) (u : Nat → Nat) (hst : l.stackTraces = false) (ra ga : Nat → Nat) (sz : Nat) (x2 : Int32) (x3 : Int32) (x4 : Int32) (lo_x2 : 0 ≤ x2) (hi_x2 : x2 ≤ 15) (hi_x3 : x3 ≤ (-1)) : vx_Met l yX8_variable (uW yX8_variable cX8_variable 5 (some .int)) ({ frames := 7, cells := 1, slots := 6, locals := 102 }) (va_Pc [.ref o, .int 0, .int x2, .int x3, .int x4] (aS ra ga D (tyL cI cZ cJ) (xW o u cI cZ cJ) sz)) (nQi (va_A (xW o u cI cZ cJ) sz)) (wX "java/lang/IllegalArgumentException" D (xW o u cI cZ cJ) (va_A (xW o u cI cZ cJ) sz)) 1 6 (va_A (xW o u cI cZ cJ) sz) := by
  refine xStart (lv := [(0, .ref o), (1, .int 0), (2, .int x2), (3, .int x3), (4, .int x4)]) (Qc := fun A => nQi A) (XC := fun A => wX "java/lang/IllegalArgumentException" D (xW o u cI cZ cJ) A) (by decide) (Nat.le_of_ble_eq_true rfl) rfl ?_
  intro p e s m args below meth c ls A H S hr hlocks hnm hl hK hP hD hS hA hB hnt
  have hx := S.1
  have hb := S.2.1
  refine lv_aload_n hx hb dX8_variable_0 rfl (lv_at hl 0 rfl) ?_
  refine lv_iload_n hx hb dX8_variable_1 rfl (lv_at hl 1 rfl) ?_
  refine aVv (As := [.int 0]) (ci := 8) S (c_X8_needProcedure_2 l D cI cZ cJ o u ra ga H.size) mi_X8_needProcedure kw_4_166 rfl rfl ⟨Nat.le_of_ble_eq_true rfl, Nat.le_of_ble_eq_true rfl⟩ hP hD hK hS hA hB xW_0 rfl rfl hl.1 (Nat.le_of_ble_eq_true rfl) ⟨Nat.le_of_ble_eq_true rfl, Nat.le_of_ble_eq_true rfl⟩ dX8_variable_2 (fun H locs hz hP hD hS => ?_)
  refine lv_iload_n hx hb dX8_variable_5 rfl (lv_at hl 2 rfl) ?_
  refine rdS (As := [.int x2]) S (c_X8_isName_2 l D cI cZ cJ o u x2 lo_x2 hi_x2) ms_X8_isName kw_4_198 ⟨rfl, rfl⟩ ⟨Nat.le_of_ble_eq_true rfl, Nat.le_of_ble_eq_true rfl⟩ hP hK hl.1 (Nat.le_of_ble_eq_true rfl) ⟨Nat.le_of_ble_eq_true rfl, Nat.le_of_ble_eq_true rfl⟩ dX8_variable_6 ?_
  refine lv_if_eq (tgt := 25) hx hb dX8_variable_9 (by decide) (fun c => absurd c (by decide)) (fun _ => ?_)
  refine lv_iload_n hx hb dX8_variable_12 rfl (lv_at hl 3 rfl) ?_
  refine lv_iload hx hb dX8_variable_13 (lv_at hl 4 rfl) ?_
  refine rdS (As := [.int x3, .int x4]) S (c_X8_isSizeOf_0 l D cI cZ cJ o u x3 x4 hi_x3) ms_X8_isSizeOf kw_5_236 ⟨rfl, rfl⟩ ⟨Nat.le_of_ble_eq_true rfl, Nat.le_of_ble_eq_true rfl⟩ hP hK hl.1 (Nat.le_of_ble_eq_true rfl) ⟨Nat.le_of_ble_eq_true rfl, Nat.le_of_ble_eq_true rfl⟩ dX8_variable_15 ?_
  refine lv_if_eq (tgt := 25) hx hb dX8_variable_18 (by decide) (fun _ => ?_) (fun c => absurd c (by decide))
  refine lv_iconst (v := 0) hx hb dX8_variable_25 (by decide) ?_
  exact tSv (As := [.int 0]) S (c_X8_needArgument_0 l D cI cZ cJ o u hst ra ga H.size) ms_X8_needArgument kw_4_4 rfl rfl ⟨Nat.le_of_ble_eq_true rfl, Nat.le_of_ble_eq_true rfl⟩ hP hD hK hS hA hB hl.1 (Nat.le_of_ble_eq_true rfl) ⟨Nat.le_of_ble_eq_true rfl, Nat.le_of_ble_eq_true rfl⟩ dX8_variable_26 hnt hlocks (Nat.le_of_ble_eq_true rfl) (Nat.le_of_ble_eq_true rfl)

set_option maxHeartbeats 8000000 in
set_option maxRecDepth 100000 in
theorem c_X8_variable_5 (l : Launch) (D : va_G) (cI cZ cJ : ClassId) (o : Nat) (u : Nat → Nat) (hst : l.stackTraces = false) (ra ga : Nat → Nat) (sz : Nat) (x2 : Int32) (x3 : Int32) (x4 : Int32) (lo_x2 : 0 ≤ x2) (hi_x2 : x2 ≤ 15) (lo_x3 : 4 ≤ x3) : vx_Met l yX8_variable (uW yX8_variable cX8_variable 5 (some .int)) ({ frames := 7, cells := 1, slots := 6, locals := 102 }) (va_Pc [.ref o, .int 0, .int x2, .int x3, .int x4] (aS ra ga D (tyL cI cZ cJ) (xW o u cI cZ cJ) sz)) (nQi (va_A (xW o u cI cZ cJ) sz)) (wX "java/lang/IllegalArgumentException" D (xW o u cI cZ cJ) (va_A (xW o u cI cZ cJ) sz)) 1 6 (va_A (xW o u cI cZ cJ) sz) := by
  refine xStart (lv := [(0, .ref o), (1, .int 0), (2, .int x2), (3, .int x3), (4, .int x4)]) (Qc := fun A => nQi A) (XC := fun A => wX "java/lang/IllegalArgumentException" D (xW o u cI cZ cJ) A) (by decide) (Nat.le_of_ble_eq_true rfl) rfl ?_
  intro p e s m args below meth c ls A H S hr hlocks hnm hl hK hP hD hS hA hB hnt
  have hx := S.1
  have hb := S.2.1
  refine lv_aload_n hx hb dX8_variable_0 rfl (lv_at hl 0 rfl) ?_
  refine lv_iload_n hx hb dX8_variable_1 rfl (lv_at hl 1 rfl) ?_
  refine aVv (As := [.int 0]) (ci := 8) S (c_X8_needProcedure_2 l D cI cZ cJ o u ra ga H.size) mi_X8_needProcedure kw_4_166 rfl rfl ⟨Nat.le_of_ble_eq_true rfl, Nat.le_of_ble_eq_true rfl⟩ hP hD hK hS hA hB xW_0 rfl rfl hl.1 (Nat.le_of_ble_eq_true rfl) ⟨Nat.le_of_ble_eq_true rfl, Nat.le_of_ble_eq_true rfl⟩ dX8_variable_2 (fun H locs hz hP hD hS => ?_)
  refine lv_iload_n hx hb dX8_variable_5 rfl (lv_at hl 2 rfl) ?_
  refine rdS (As := [.int x2]) S (c_X8_isName_2 l D cI cZ cJ o u x2 lo_x2 hi_x2) ms_X8_isName kw_4_198 ⟨rfl, rfl⟩ ⟨Nat.le_of_ble_eq_true rfl, Nat.le_of_ble_eq_true rfl⟩ hP hK hl.1 (Nat.le_of_ble_eq_true rfl) ⟨Nat.le_of_ble_eq_true rfl, Nat.le_of_ble_eq_true rfl⟩ dX8_variable_6 ?_
  refine lv_if_eq (tgt := 25) hx hb dX8_variable_9 (by decide) (fun c => absurd c (by decide)) (fun _ => ?_)
  refine lv_iload_n hx hb dX8_variable_12 rfl (lv_at hl 3 rfl) ?_
  refine lv_iload hx hb dX8_variable_13 (lv_at hl 4 rfl) ?_
  refine rdS (As := [.int x3, .int x4]) S (c_X8_isSizeOf_1 l D cI cZ cJ o u x3 x4 lo_x3) ms_X8_isSizeOf kw_5_236 ⟨rfl, rfl⟩ ⟨Nat.le_of_ble_eq_true rfl, Nat.le_of_ble_eq_true rfl⟩ hP hK hl.1 (Nat.le_of_ble_eq_true rfl) ⟨Nat.le_of_ble_eq_true rfl, Nat.le_of_ble_eq_true rfl⟩ dX8_variable_15 ?_
  refine lv_if_eq (tgt := 25) hx hb dX8_variable_18 (by decide) (fun _ => ?_) (fun c => absurd c (by decide))
  refine lv_iconst (v := 0) hx hb dX8_variable_25 (by decide) ?_
  exact tSv (As := [.int 0]) S (c_X8_needArgument_0 l D cI cZ cJ o u hst ra ga H.size) ms_X8_needArgument kw_4_4 rfl rfl ⟨Nat.le_of_ble_eq_true rfl, Nat.le_of_ble_eq_true rfl⟩ hP hD hK hS hA hB hl.1 (Nat.le_of_ble_eq_true rfl) ⟨Nat.le_of_ble_eq_true rfl, Nat.le_of_ble_eq_true rfl⟩ dX8_variable_26 hnt hlocks (Nat.le_of_ble_eq_true rfl) (Nat.le_of_ble_eq_true rfl)

set_option maxHeartbeats 8000000 in
set_option maxRecDepth 100000 in
theorem c_X8_isSizeOf_3 (l : Launch) (D : va_G) (cI cZ cJ : ClassId) (o : Nat) (u : Nat → Nat) (x4 : Int32) (ne_x4_0 : ¬ x4 = 0) : Met l yX8_isSizeOf (uW yX8_isSizeOf cX8_isSizeOf 2 (some .boolean)) ({ frames := 0, cells := 0, slots := 0, locals := 0 }) (va_Pc [.int 0, .int x4] (pS D (tyL cI cZ cJ) (xW o u cI cZ cJ))) (QcRead (0)) 0 0 (fun _ => False) := by
  refine rdStart (lv := [(0, .int 0), (1, .int x4)]) (by decide) (Nat.le_of_ble_eq_true rfl) rfl ?_
  intro p e s m args below meth c ls S hr hlocks hl hP hK
  have hx := S.1
  have hb := S.2.1
  refine lv_iload_n hx hb dX8_isSizeOf_0 rfl (lv_at hl 0 rfl) ?_
  refine lv_bipush (v := 6) hx hb dX8_isSizeOf_1 (by decide) ?_
  refine xiadd (v := 6) S dX8_isSizeOf_3 (by decide) ?_
  refine lv_tableIn (off := 32) (tgt := 36) hx hb dX8_isSizeOf_4 (by decide) (by decide) (by decide) (by decide) ?_
  refine lv_iload_n hx hb dX8_isSizeOf_36 rfl (lv_at hl 1 rfl) ?_
  refine lv_if_ne (tgt := 44) hx hb dX8_isSizeOf_37 (by decide) (fun _ => ?_) (fun c => absurd c ne_x4_0)
  refine lv_iconst (v := 0) hx hb dX8_isSizeOf_44 (by decide) ?_
  exact rdEndZ S hr hlocks dX8_isSizeOf_45 rfl rfl

set_option maxHeartbeats 8000000 in
set_option maxRecDepth 100000 in
theorem c_X8_variable_6 (l : Launch) (D : va_G) (cI cZ cJ : ClassId) (o : Nat) (u : Nat → Nat) (ra ga : Nat → Nat) (sz : Nat) (x2 : Int32) (lo_x2 : 0 ≤ x2) (hi_x2 : x2 ≤ 15) : Met l yX8_variable (uW yX8_variable cX8_variable 5 (some .int)) ({ frames := 3, cells := 0, slots := 0, locals := 74 }) (va_Pc [.ref o, .int 0, .int x2, .int 0, .int 0] (aS ra ga D (tyL cI cZ cJ) (xW o u cI cZ cJ) sz)) (wQi (0) D ((((((((xW o u cI cZ cJ).set 5 ((u 4), .inl (cI, 10, .inl (upd (fun _ => 0) (0 : Int32).toNatClampNeg 1)))).set 6 ((u 5), .inl (cI, 10, .inl (upd (fun _ => 0) (0 : Int32).toNatClampNeg 1)))).set 8 ((u 7), .inl (cI, 160, .inl (upd (fun _ => (-1)) (x2 : Int32).toNatClampNeg 6)))).set 9 ((u 8), .inl (cI, 160, .inl (upd (upd (fun _ => 0) (x2 : Int32).toNatClampNeg (-1)) (x2 : Int32).toNatClampNeg 0)))).set 10 ((u 9), .inl (cI, 160, .inl (upd (fun _ => 0) (x2 : Int32).toNatClampNeg 0)))).set 11 ((u 10), .inl (cI, 100, .inl (upd (fun _ => 0) (0 : Int32).toNatClampNeg 6)))).set 12 ((u 11), .inl (cI, 100, .inl (upd (fun _ => 0) (0 : Int32).toNatClampNeg 0)))) (va_A (xW o u cI cZ cJ) sz)) 0 0 (va_A (xW o u cI cZ cJ) sz) := by
  refine aStart (lv := [(0, .ref o), (1, .int 0), (2, .int x2), (3, .int 0), (4, .int 0)]) (Qc := fun A => wQi (0) D ((((((((xW o u cI cZ cJ).set 5 ((u 4), .inl (cI, 10, .inl (upd (fun _ => 0) (0 : Int32).toNatClampNeg 1)))).set 6 ((u 5), .inl (cI, 10, .inl (upd (fun _ => 0) (0 : Int32).toNatClampNeg 1)))).set 8 ((u 7), .inl (cI, 160, .inl (upd (fun _ => (-1)) (x2 : Int32).toNatClampNeg 6)))).set 9 ((u 8), .inl (cI, 160, .inl (upd (upd (fun _ => 0) (x2 : Int32).toNatClampNeg (-1)) (x2 : Int32).toNatClampNeg 0)))).set 10 ((u 9), .inl (cI, 160, .inl (upd (fun _ => 0) (x2 : Int32).toNatClampNeg 0)))).set 11 ((u 10), .inl (cI, 100, .inl (upd (fun _ => 0) (0 : Int32).toNatClampNeg 6)))).set 12 ((u 11), .inl (cI, 100, .inl (upd (fun _ => 0) (0 : Int32).toNatClampNeg 0)))) A) (by decide) (Nat.le_of_ble_eq_true rfl) rfl ?_
  intro p e s m args below meth c ls A H S hr hlocks hnm hl hK hP hD hS hA hB
  have hx := S.1
  have hb := S.2.1
  refine lv_aload_n hx hb dX8_variable_0 rfl (lv_at hl 0 rfl) ?_
  refine lv_iload_n hx hb dX8_variable_1 rfl (lv_at hl 1 rfl) ?_
  refine aVv (As := [.int 0]) (ci := 8) S (c_X8_needProcedure_2 l D cI cZ cJ o u ra ga H.size) mi_X8_needProcedure kw_4_166 rfl rfl ⟨Nat.le_of_ble_eq_true rfl, Nat.le_of_ble_eq_true rfl⟩ hP hD hK hS hA hB xW_0 rfl rfl hl.1 (Nat.le_of_ble_eq_true rfl) ⟨Nat.le_of_ble_eq_true rfl, Nat.le_of_ble_eq_true rfl⟩ dX8_variable_2 (fun H locs hz hP hD hS => ?_)
  refine lv_iload_n hx hb dX8_variable_5 rfl (lv_at hl 2 rfl) ?_
  refine rdS (As := [.int x2]) S (c_X8_isName_2 l D cI cZ cJ o u x2 lo_x2 hi_x2) ms_X8_isName kw_4_198 ⟨rfl, rfl⟩ ⟨Nat.le_of_ble_eq_true rfl, Nat.le_of_ble_eq_true rfl⟩ hP hK hl.1 (Nat.le_of_ble_eq_true rfl) ⟨Nat.le_of_ble_eq_true rfl, Nat.le_of_ble_eq_true rfl⟩ dX8_variable_6 ?_
  refine lv_if_eq (tgt := 25) hx hb dX8_variable_9 (by decide) (fun c => absurd c (by decide)) (fun _ => ?_)
  refine lv_iload_n hx hb dX8_variable_12 rfl (lv_at hl 3 rfl) ?_
  refine lv_iload hx hb dX8_variable_13 (lv_at hl 4 rfl) ?_
  refine rdS (As := [.int 0, .int 0]) S (c_X8_isSizeOf_2 l D cI cZ cJ o u) ms_X8_isSizeOf kw_5_236 ⟨rfl, rfl⟩ ⟨Nat.le_of_ble_eq_true rfl, Nat.le_of_ble_eq_true rfl⟩ hP hK hl.1 (Nat.le_of_ble_eq_true rfl) ⟨Nat.le_of_ble_eq_true rfl, Nat.le_of_ble_eq_true rfl⟩ dX8_variable_15 ?_
  refine lv_if_eq (tgt := 25) hx hb dX8_variable_18 (by decide) (fun c => absurd c (by decide)) (fun _ => ?_)
  refine lv_iconst (v := 1) hx hb dX8_variable_21 (by decide) ?_
  refine lv_goto (tgt := 26) hx hb dX8_variable_22 (by decide) ?_
  refine aSv (As := [.int 1]) S (c_X8_needArgument_1 l D cI cZ cJ o u ra ga H.size) ms_X8_needArgument kw_4_4 rfl rfl ⟨Nat.le_of_ble_eq_true rfl, Nat.le_of_ble_eq_true rfl⟩ hP hD hK hS hA hB hl.1 (Nat.le_of_ble_eq_true rfl) ⟨Nat.le_of_ble_eq_true rfl, Nat.le_of_ble_eq_true rfl⟩ dX8_variable_26 (fun H locs hz hP hD hS => ?_)
  refine lv_aload_n hx hb dX8_variable_29 rfl (lv_at hl 0 rfl) ?_
  refine xg (ci := 8) S inX8 rfl hK hP xW_0 0 (by decide) rfl kw_3_20 rfl dX8_variable_30 ?_
  refine lv_iload_n hx hb dX8_variable_33 rfl (lv_at hl 1 rfl) ?_
  refine lv_iload_n hx hb dX8_variable_34 rfl (lv_at hl 2 rfl) ?_
  refine rdV (As := [.int 0, .int x2]) (ci := 1) S (c_X1_takesVariable_0 l D cI cZ cJ o u x2 lo_x2 hi_x2) mi_X1_takesVariable kw_5_239 ⟨rfl, rfl⟩ ⟨Nat.le_of_ble_eq_true rfl, Nat.le_of_ble_eq_true rfl⟩ hP hK xW_1 rfl rfl hl.1 (Nat.le_of_ble_eq_true rfl) ⟨Nat.le_of_ble_eq_true rfl, Nat.le_of_ble_eq_true rfl⟩ dX8_variable_35 ?_
  refine aSv (As := [.int 1]) S (c_X8_needState_0 l D cI cZ cJ o u ra ga H.size) ms_X8_needState kw_5_183 rfl rfl ⟨Nat.le_of_ble_eq_true rfl, Nat.le_of_ble_eq_true rfl⟩ hP hD hK hS hA hB hl.1 (Nat.le_of_ble_eq_true rfl) ⟨Nat.le_of_ble_eq_true rfl, Nat.le_of_ble_eq_true rfl⟩ dX8_variable_38 (fun H locs hz hP hD hS => ?_)
  refine lv_aload_n hx hb dX8_variable_41 rfl (lv_at hl 0 rfl) ?_
  refine lv_iconst (v := 1) hx hb dX8_variable_42 (by decide) ?_
  refine xp (ci := 8) (v := .int 1) S inX8 tyX8 tyX8_ok nmX8 rfl hK hP hD hS xW_0 9 (by decide) kw_3_29 rfl rfl rfl rfl (Nat.le_of_ble_eq_true rfl) dX8_variable_43 (fun H locs hP hD hS => ?_)
  have hP : va_P D vwCl (xW o u cI cZ cJ) H := hP
  have hD : va_D A (xW o u cI cZ cJ) := hD
  refine lv_aload_n hx hb dX8_variable_46 rfl (lv_at hl 0 rfl) ?_
  refine xg (ci := 8) S inX8 rfl hK hP xW_0 0 (by decide) rfl kw_3_20 rfl dX8_variable_47 ?_
  refine lv_iload_n hx hb dX8_variable_50 rfl (lv_at hl 1 rfl) ?_
  refine lv_iload_n hx hb dX8_variable_51 rfl (lv_at hl 2 rfl) ?_
  refine lv_iload_n hx hb dX8_variable_52 rfl (lv_at hl 3 rfl) ?_
  refine lv_bipush (v := 6) hx hb dX8_variable_53 (by decide) ?_
  refine xiadd (v := 6) S dX8_variable_55 (by decide) ?_
  refine lv_iload hx hb dX8_variable_56 (lv_at hl 4 rfl) ?_
  refine aVi (As := [.int 0, .int x2, .int 6, .int 0]) (ci := 1) S (c_X1_addVariable_0 l D cI cZ cJ o u ra ga H.size x2 lo_x2 hi_x2) mi_X1_addVariable kw_6_3 rfl rfl ⟨Nat.le_of_ble_eq_true rfl, Nat.le_of_ble_eq_true rfl⟩ hP hD hK hS hA hB xW_1 rfl rfl hl.1 (Nat.le_of_ble_eq_true rfl) ⟨Nat.le_of_ble_eq_true rfl, Nat.le_of_ble_eq_true rfl⟩ dX8_variable_58 (fun H locs hz hP hD hS => ?_)
  exact wEnd S hr hlocks hP hD hS (Nat.le_of_ble_eq_true rfl) (Nat.le_of_ble_eq_true rfl) dX8_variable_61 rfl

set_option maxHeartbeats 8000000 in
set_option maxRecDepth 100000 in
theorem c_X8_variable_7 (l : Launch) (D : va_G) (cI cZ cJ : ClassId) (o : Nat) (u : Nat → Nat) (hst : l.stackTraces = false) (ra ga : Nat → Nat) (sz : Nat) (x2 : Int32) (x4 : Int32) (lo_x2 : 0 ≤ x2) (hi_x2 : x2 ≤ 15) (ne_x4_0 : ¬ x4 = 0) : vx_Met l yX8_variable (uW yX8_variable cX8_variable 5 (some .int)) ({ frames := 7, cells := 1, slots := 6, locals := 102 }) (va_Pc [.ref o, .int 0, .int x2, .int 0, .int x4] (aS ra ga D (tyL cI cZ cJ) (xW o u cI cZ cJ) sz)) (nQi (va_A (xW o u cI cZ cJ) sz)) (wX "java/lang/IllegalArgumentException" D (xW o u cI cZ cJ) (va_A (xW o u cI cZ cJ) sz)) 1 6 (va_A (xW o u cI cZ cJ) sz) := by
  refine xStart (lv := [(0, .ref o), (1, .int 0), (2, .int x2), (3, .int 0), (4, .int x4)]) (Qc := fun A => nQi A) (XC := fun A => wX "java/lang/IllegalArgumentException" D (xW o u cI cZ cJ) A) (by decide) (Nat.le_of_ble_eq_true rfl) rfl ?_
  intro p e s m args below meth c ls A H S hr hlocks hnm hl hK hP hD hS hA hB hnt
  have hx := S.1
  have hb := S.2.1
  refine lv_aload_n hx hb dX8_variable_0 rfl (lv_at hl 0 rfl) ?_
  refine lv_iload_n hx hb dX8_variable_1 rfl (lv_at hl 1 rfl) ?_
  refine aVv (As := [.int 0]) (ci := 8) S (c_X8_needProcedure_2 l D cI cZ cJ o u ra ga H.size) mi_X8_needProcedure kw_4_166 rfl rfl ⟨Nat.le_of_ble_eq_true rfl, Nat.le_of_ble_eq_true rfl⟩ hP hD hK hS hA hB xW_0 rfl rfl hl.1 (Nat.le_of_ble_eq_true rfl) ⟨Nat.le_of_ble_eq_true rfl, Nat.le_of_ble_eq_true rfl⟩ dX8_variable_2 (fun H locs hz hP hD hS => ?_)
  refine lv_iload_n hx hb dX8_variable_5 rfl (lv_at hl 2 rfl) ?_
  refine rdS (As := [.int x2]) S (c_X8_isName_2 l D cI cZ cJ o u x2 lo_x2 hi_x2) ms_X8_isName kw_4_198 ⟨rfl, rfl⟩ ⟨Nat.le_of_ble_eq_true rfl, Nat.le_of_ble_eq_true rfl⟩ hP hK hl.1 (Nat.le_of_ble_eq_true rfl) ⟨Nat.le_of_ble_eq_true rfl, Nat.le_of_ble_eq_true rfl⟩ dX8_variable_6 ?_
  refine lv_if_eq (tgt := 25) hx hb dX8_variable_9 (by decide) (fun c => absurd c (by decide)) (fun _ => ?_)
  refine lv_iload_n hx hb dX8_variable_12 rfl (lv_at hl 3 rfl) ?_
  refine lv_iload hx hb dX8_variable_13 (lv_at hl 4 rfl) ?_
  refine rdS (As := [.int 0, .int x4]) S (c_X8_isSizeOf_3 l D cI cZ cJ o u x4 ne_x4_0) ms_X8_isSizeOf kw_5_236 ⟨rfl, rfl⟩ ⟨Nat.le_of_ble_eq_true rfl, Nat.le_of_ble_eq_true rfl⟩ hP hK hl.1 (Nat.le_of_ble_eq_true rfl) ⟨Nat.le_of_ble_eq_true rfl, Nat.le_of_ble_eq_true rfl⟩ dX8_variable_15 ?_
  refine lv_if_eq (tgt := 25) hx hb dX8_variable_18 (by decide) (fun _ => ?_) (fun c => absurd c (by decide))
  refine lv_iconst (v := 0) hx hb dX8_variable_25 (by decide) ?_
  exact tSv (As := [.int 0]) S (c_X8_needArgument_0 l D cI cZ cJ o u hst ra ga H.size) ms_X8_needArgument kw_4_4 rfl rfl ⟨Nat.le_of_ble_eq_true rfl, Nat.le_of_ble_eq_true rfl⟩ hP hD hK hS hA hB hl.1 (Nat.le_of_ble_eq_true rfl) ⟨Nat.le_of_ble_eq_true rfl, Nat.le_of_ble_eq_true rfl⟩ dX8_variable_26 hnt hlocks (Nat.le_of_ble_eq_true rfl) (Nat.le_of_ble_eq_true rfl)

set_option maxHeartbeats 8000000 in
set_option maxRecDepth 100000 in
theorem c_X8_isSizeOf_4 (l : Launch) (D : va_G) (cI cZ cJ : ClassId) (o : Nat) (u : Nat → Nat) (x4 : Int32) (hi_x4 : x4 ≤ 0) : Met l yX8_isSizeOf (uW yX8_isSizeOf cX8_isSizeOf 2 (some .boolean)) ({ frames := 0, cells := 0, slots := 0, locals := 0 }) (va_Pc [.int 1, .int x4] (pS D (tyL cI cZ cJ) (xW o u cI cZ cJ))) (QcRead (0)) 0 0 (fun _ => False) := by
  refine rdStart (lv := [(0, .int 1), (1, .int x4)]) (by decide) (Nat.le_of_ble_eq_true rfl) rfl ?_
  intro p e s m args below meth c ls S hr hlocks hl hP hK
  have hx := S.1
  have hb := S.2.1
  refine lv_iload_n hx hb dX8_isSizeOf_0 rfl (lv_at hl 0 rfl) ?_
  refine lv_bipush (v := 6) hx hb dX8_isSizeOf_1 (by decide) ?_
  refine xiadd (v := 7) S dX8_isSizeOf_3 (by decide) ?_
  refine lv_tableIn (off := 42) (tgt := 46) hx hb dX8_isSizeOf_4 (by decide) (by decide) (by decide) (by decide) ?_
  refine lv_iload_n hx hb dX8_isSizeOf_46 rfl (lv_at hl 1 rfl) ?_
  refine lv_iconst (v := 1) hx hb dX8_isSizeOf_47 (by decide) ?_
  refine lv_icmp_lt (tgt := 61) hx hb dX8_isSizeOf_48 (by decide) (fun _ => ?_) (fun c => absurd (b_lt hi_x4 (by decide)) c)
  refine lv_iconst (v := 0) hx hb dX8_isSizeOf_61 (by decide) ?_
  exact rdEndZ S hr hlocks dX8_isSizeOf_62 rfl rfl

set_option maxHeartbeats 8000000 in
set_option maxRecDepth 100000 in
theorem c_X8_isSizeOf_5 (l : Launch) (D : va_G) (cI cZ cJ : ClassId) (o : Nat) (u : Nat → Nat) (x4 : Int32) (lo_x4 : 9 ≤ x4) : Met l yX8_isSizeOf (uW yX8_isSizeOf cX8_isSizeOf 2 (some .boolean)) ({ frames := 0, cells := 0, slots := 0, locals := 0 }) (va_Pc [.int 1, .int x4] (pS D (tyL cI cZ cJ) (xW o u cI cZ cJ))) (QcRead (0)) 0 0 (fun _ => False) := by
  refine rdStart (lv := [(0, .int 1), (1, .int x4)]) (by decide) (Nat.le_of_ble_eq_true rfl) rfl ?_
  intro p e s m args below meth c ls S hr hlocks hl hP hK
  have hx := S.1
  have hb := S.2.1
  refine lv_iload_n hx hb dX8_isSizeOf_0 rfl (lv_at hl 0 rfl) ?_
  refine lv_bipush (v := 6) hx hb dX8_isSizeOf_1 (by decide) ?_
  refine xiadd (v := 7) S dX8_isSizeOf_3 (by decide) ?_
  refine lv_tableIn (off := 42) (tgt := 46) hx hb dX8_isSizeOf_4 (by decide) (by decide) (by decide) (by decide) ?_
  refine lv_iload_n hx hb dX8_isSizeOf_46 rfl (lv_at hl 1 rfl) ?_
  refine lv_iconst (v := 1) hx hb dX8_isSizeOf_47 (by decide) ?_
  refine lv_icmp_lt (tgt := 61) hx hb dX8_isSizeOf_48 (by decide) (fun c => absurd c (b_nlt lo_x4 (by decide))) (fun _ => ?_)
  refine lv_iload_n hx hb dX8_isSizeOf_51 rfl (lv_at hl 1 rfl) ?_
  refine lv_bipush (v := 8) hx hb dX8_isSizeOf_52 (by decide) ?_
  refine lv_icmp_gt (tgt := 61) hx hb dX8_isSizeOf_54 (by decide) (fun _ => ?_) (fun c => absurd (b_gt lo_x4 (by decide)) c)
  refine lv_iconst (v := 0) hx hb dX8_isSizeOf_61 (by decide) ?_
  exact rdEndZ S hr hlocks dX8_isSizeOf_62 rfl rfl

set_option maxHeartbeats 8000000 in
set_option maxRecDepth 100000 in
theorem c_X8_isSizeOf_6 (l : Launch) (D : va_G) (cI cZ cJ : ClassId) (o : Nat) (u : Nat → Nat) (x4 : Int32) (lo_x4 : 1 ≤ x4) (hi_x4 : x4 ≤ 8) : Met l yX8_isSizeOf (uW yX8_isSizeOf cX8_isSizeOf 2 (some .boolean)) ({ frames := 0, cells := 0, slots := 0, locals := 0 }) (va_Pc [.int 1, .int x4] (pS D (tyL cI cZ cJ) (xW o u cI cZ cJ))) (QcRead (1)) 0 0 (fun _ => False) := by
  refine rdStart (lv := [(0, .int 1), (1, .int x4)]) (by decide) (Nat.le_of_ble_eq_true rfl) rfl ?_
  intro p e s m args below meth c ls S hr hlocks hl hP hK
  have hx := S.1
  have hb := S.2.1
  refine lv_iload_n hx hb dX8_isSizeOf_0 rfl (lv_at hl 0 rfl) ?_
  refine lv_bipush (v := 6) hx hb dX8_isSizeOf_1 (by decide) ?_
  refine xiadd (v := 7) S dX8_isSizeOf_3 (by decide) ?_
  refine lv_tableIn (off := 42) (tgt := 46) hx hb dX8_isSizeOf_4 (by decide) (by decide) (by decide) (by decide) ?_
  refine lv_iload_n hx hb dX8_isSizeOf_46 rfl (lv_at hl 1 rfl) ?_
  refine lv_iconst (v := 1) hx hb dX8_isSizeOf_47 (by decide) ?_
  refine lv_icmp_lt (tgt := 61) hx hb dX8_isSizeOf_48 (by decide) (fun c => absurd c (b_nlt lo_x4 (by decide))) (fun _ => ?_)
  refine lv_iload_n hx hb dX8_isSizeOf_51 rfl (lv_at hl 1 rfl) ?_
  refine lv_bipush (v := 8) hx hb dX8_isSizeOf_52 (by decide) ?_
  refine lv_icmp_gt (tgt := 61) hx hb dX8_isSizeOf_54 (by decide) (fun c => absurd c (b_ngt hi_x4 (by decide))) (fun _ => ?_)
  refine lv_iconst (v := 1) hx hb dX8_isSizeOf_57 (by decide) ?_
  refine lv_goto (tgt := 62) hx hb dX8_isSizeOf_58 (by decide) ?_
  exact rdEndZ S hr hlocks dX8_isSizeOf_62 rfl rfl

set_option maxHeartbeats 8000000 in
set_option maxRecDepth 100000 in
theorem c_X1_declare_2 (l : Launch) (D : va_G) (cI cZ cJ : ClassId) (o : Nat) (u : Nat → Nat) (ra ga : Nat → Nat) (sz : Nat) (x2 : Int32) (x4 : Int32) (lo_x2 : 0 ≤ x2) (hi_x2 : x2 ≤ 15) (lo_x4 : 1 ≤ x4) (hi_x4 : x4 ≤ 8) : Met l yX1_declare (uW yX1_declare cX1_declare 6 none) ({ frames := 0, cells := 0, slots := 0, locals := 0 }) (va_Pc [.ref (u 0), .int 0, .int x2, .int 7, .int x4] (aS ra ga D (tyL cI cZ cJ) (((xW o u cI cZ cJ).set 5 ((u 4), .inl (cI, 10, .inl (upd (fun _ => 0) (0 : Int32).toNatClampNeg 1)))).set 6 ((u 5), .inl (cI, 10, .inl (upd (fun _ => 0) (0 : Int32).toNatClampNeg 1)))) sz)) (wQv D ((((((xW o u cI cZ cJ).set 5 ((u 4), .inl (cI, 10, .inl (upd (fun _ => 0) (0 : Int32).toNatClampNeg 1)))).set 6 ((u 5), .inl (cI, 10, .inl (upd (fun _ => 0) (0 : Int32).toNatClampNeg 1)))).set 8 ((u 7), .inl (cI, 160, .inl (upd (fun _ => (-1)) (x2 : Int32).toNatClampNeg 7)))).set 9 ((u 8), .inl (cI, 160, .inl (upd (fun _ => 0) (x2 : Int32).toNatClampNeg (-1))))).set 10 ((u 9), .inl (cI, 160, .inl (upd (fun _ => 0) (x2 : Int32).toNatClampNeg x4)))) (va_A (((xW o u cI cZ cJ).set 5 ((u 4), .inl (cI, 10, .inl (upd (fun _ => 0) (0 : Int32).toNatClampNeg 1)))).set 6 ((u 5), .inl (cI, 10, .inl (upd (fun _ => 0) (0 : Int32).toNatClampNeg 1)))) sz)) 0 0 (va_A (((xW o u cI cZ cJ).set 5 ((u 4), .inl (cI, 10, .inl (upd (fun _ => 0) (0 : Int32).toNatClampNeg 1)))).set 6 ((u 5), .inl (cI, 10, .inl (upd (fun _ => 0) (0 : Int32).toNatClampNeg 1)))) sz) := by
  refine aStart (lv := [(0, .ref (u 0)), (1, .int 0), (2, .int x2), (3, .int 7), (4, .int x4)]) (Qc := fun A => wQv D ((((((xW o u cI cZ cJ).set 5 ((u 4), .inl (cI, 10, .inl (upd (fun _ => 0) (0 : Int32).toNatClampNeg 1)))).set 6 ((u 5), .inl (cI, 10, .inl (upd (fun _ => 0) (0 : Int32).toNatClampNeg 1)))).set 8 ((u 7), .inl (cI, 160, .inl (upd (fun _ => (-1)) (x2 : Int32).toNatClampNeg 7)))).set 9 ((u 8), .inl (cI, 160, .inl (upd (fun _ => 0) (x2 : Int32).toNatClampNeg (-1))))).set 10 ((u 9), .inl (cI, 160, .inl (upd (fun _ => 0) (x2 : Int32).toNatClampNeg x4)))) A) (by decide) (Nat.le_of_ble_eq_true rfl) rfl ?_
  intro p e s m args below meth c ls A H S hr hlocks hnm hl hK hP hD hS hA hB
  have hx := S.1
  have hb := S.2.1
  refine lv_iload_n hx hb dX1_declare_0 rfl (lv_at hl 1 rfl) ?_
  refine lv_bipush (v := 16) hx hb dX1_declare_1 (by decide) ?_
  refine ximul (v := 0) S dX1_declare_3 (by decide) ?_
  refine lv_iload_n hx hb dX1_declare_4 rfl (lv_at hl 2 rfl) ?_
  refine xiadd (v := x2) S dX1_declare_5 (Int32.zero_add _) ?_
  refine lv_istore (lv' := [(5, .int x2), (0, .ref (u 0)), (1, .int 0), (2, .int x2), (3, .int 7), (4, .int x4)]) hx hb dX1_declare_6 hl (by decide) rfl (fun ls hl => ?_)
  refine lv_aload_n hx hb dX1_declare_8 rfl (lv_at hl 1 rfl) ?_
  refine xg (ci := 1) S inX1 rfl hK hP (q0 := 1) rfl 7 (by decide) rfl kw_1_61 rfl dX1_declare_9 ?_
  refine lv_iload hx hb dX1_declare_12 (lv_at hl 0 rfl) ?_
  refine lv_iload_n hx hb dX1_declare_14 rfl (lv_at hl 4 rfl) ?_
  refine xiast (t0 := 0) S hK hP hD hS (q0 := 8) rfl rfl (b_in lo_x2 hi_x2 (by decide) (by decide)) dX1_declare_15 (fun H locs hP hD hS => ?_)
  have hP : va_P D vwCl ((((xW o u cI cZ cJ).set 5 ((u 4), .inl (cI, 10, .inl (upd (fun _ => 0) (0 : Int32).toNatClampNeg 1)))).set 6 ((u 5), .inl (cI, 10, .inl (upd (fun _ => 0) (0 : Int32).toNatClampNeg 1)))).set 8 ((u 7), .inl (cI, 160, .inl (upd (fun _ => (-1)) (x2 : Int32).toNatClampNeg 7)))) H := hP
  have hD : va_D A ((((xW o u cI cZ cJ).set 5 ((u 4), .inl (cI, 10, .inl (upd (fun _ => 0) (0 : Int32).toNatClampNeg 1)))).set 6 ((u 5), .inl (cI, 10, .inl (upd (fun _ => 0) (0 : Int32).toNatClampNeg 1)))).set 8 ((u 7), .inl (cI, 160, .inl (upd (fun _ => (-1)) (x2 : Int32).toNatClampNeg 7)))) := hD
  refine lv_aload_n hx hb dX1_declare_16 rfl (lv_at hl 1 rfl) ?_
  refine xg (ci := 1) S inX1 rfl hK hP (q0 := 1) rfl 8 (by decide) rfl kw_1_64 rfl dX1_declare_17 ?_
  refine lv_iload hx hb dX1_declare_20 (lv_at hl 0 rfl) ?_
  refine lv_iconst (v := (-1)) hx hb dX1_declare_22 (by decide) ?_
  refine xiast (t0 := 0) S hK hP hD hS (q0 := 9) rfl rfl (b_in lo_x2 hi_x2 (by decide) (by decide)) dX1_declare_23 (fun H locs hP hD hS => ?_)
  have hP : va_P D vwCl (((((xW o u cI cZ cJ).set 5 ((u 4), .inl (cI, 10, .inl (upd (fun _ => 0) (0 : Int32).toNatClampNeg 1)))).set 6 ((u 5), .inl (cI, 10, .inl (upd (fun _ => 0) (0 : Int32).toNatClampNeg 1)))).set 8 ((u 7), .inl (cI, 160, .inl (upd (fun _ => (-1)) (x2 : Int32).toNatClampNeg 7)))).set 9 ((u 8), .inl (cI, 160, .inl (upd (fun _ => 0) (x2 : Int32).toNatClampNeg (-1))))) H := hP
  have hD : va_D A (((((xW o u cI cZ cJ).set 5 ((u 4), .inl (cI, 10, .inl (upd (fun _ => 0) (0 : Int32).toNatClampNeg 1)))).set 6 ((u 5), .inl (cI, 10, .inl (upd (fun _ => 0) (0 : Int32).toNatClampNeg 1)))).set 8 ((u 7), .inl (cI, 160, .inl (upd (fun _ => (-1)) (x2 : Int32).toNatClampNeg 7)))).set 9 ((u 8), .inl (cI, 160, .inl (upd (fun _ => 0) (x2 : Int32).toNatClampNeg (-1))))) := hD
  refine lv_aload_n hx hb dX1_declare_24 rfl (lv_at hl 1 rfl) ?_
  refine xg (ci := 1) S inX1 rfl hK hP (q0 := 1) rfl 9 (by decide) rfl kw_1_67 rfl dX1_declare_25 ?_
  refine lv_iload hx hb dX1_declare_28 (lv_at hl 0 rfl) ?_
  refine lv_iload hx hb dX1_declare_30 (lv_at hl 5 rfl) ?_
  refine xiast (t0 := 0) S hK hP hD hS (q0 := 10) rfl rfl (b_in lo_x2 hi_x2 (by decide) (by decide)) dX1_declare_32 (fun H locs hP hD hS => ?_)
  have hP : va_P D vwCl ((((((xW o u cI cZ cJ).set 5 ((u 4), .inl (cI, 10, .inl (upd (fun _ => 0) (0 : Int32).toNatClampNeg 1)))).set 6 ((u 5), .inl (cI, 10, .inl (upd (fun _ => 0) (0 : Int32).toNatClampNeg 1)))).set 8 ((u 7), .inl (cI, 160, .inl (upd (fun _ => (-1)) (x2 : Int32).toNatClampNeg 7)))).set 9 ((u 8), .inl (cI, 160, .inl (upd (fun _ => 0) (x2 : Int32).toNatClampNeg (-1))))).set 10 ((u 9), .inl (cI, 160, .inl (upd (fun _ => 0) (x2 : Int32).toNatClampNeg x4)))) H := hP
  have hD : va_D A ((((((xW o u cI cZ cJ).set 5 ((u 4), .inl (cI, 10, .inl (upd (fun _ => 0) (0 : Int32).toNatClampNeg 1)))).set 6 ((u 5), .inl (cI, 10, .inl (upd (fun _ => 0) (0 : Int32).toNatClampNeg 1)))).set 8 ((u 7), .inl (cI, 160, .inl (upd (fun _ => (-1)) (x2 : Int32).toNatClampNeg 7)))).set 9 ((u 8), .inl (cI, 160, .inl (upd (fun _ => 0) (x2 : Int32).toNatClampNeg (-1))))).set 10 ((u 9), .inl (cI, 160, .inl (upd (fun _ => 0) (x2 : Int32).toNatClampNeg x4)))) := hD
  exact wEndv S hr hlocks hP hD hS (Nat.le_of_ble_eq_true rfl) (Nat.le_of_ble_eq_true rfl) dX1_declare_33

set_option maxHeartbeats 8000000 in
set_option maxRecDepth 100000 in
theorem c_X1_declarePlace_1 (l : Launch) (D : va_G) (cI cZ cJ : ClassId) (o : Nat) (u : Nat → Nat) (ra ga : Nat → Nat) (sz : Nat) (x2 : Int32) (x4 : Int32) (lo_x2 : 0 ≤ x2) (hi_x2 : x2 ≤ 15) (lo_x4 : 1 ≤ x4) (hi_x4 : x4 ≤ 8) : Met l yX1_declarePlace (uW yX1_declarePlace cX1_declarePlace 6 (some .int)) ({ frames := 1, cells := 0, slots := 0, locals := 25 }) (va_Pc [.ref (u 0), .int 0, .int x2, .int 7, .int x4] (aS ra ga D (tyL cI cZ cJ) ((xW o u cI cZ cJ).set 5 ((u 4), .inl (cI, 10, .inl (upd (fun _ => 0) (0 : Int32).toNatClampNeg 1)))) sz)) (wQi (0) D ((((((((xW o u cI cZ cJ).set 5 ((u 4), .inl (cI, 10, .inl (upd (fun _ => 0) (0 : Int32).toNatClampNeg 1)))).set 6 ((u 5), .inl (cI, 10, .inl (upd (fun _ => 0) (0 : Int32).toNatClampNeg 1)))).set 8 ((u 7), .inl (cI, 160, .inl (upd (fun _ => (-1)) (x2 : Int32).toNatClampNeg 7)))).set 9 ((u 8), .inl (cI, 160, .inl (upd (upd (fun _ => 0) (x2 : Int32).toNatClampNeg (-1)) (x2 : Int32).toNatClampNeg 0)))).set 10 ((u 9), .inl (cI, 160, .inl (upd (fun _ => 0) (x2 : Int32).toNatClampNeg x4)))).set 11 ((u 10), .inl (cI, 100, .inl (upd (fun _ => 0) (0 : Int32).toNatClampNeg 7)))).set 12 ((u 11), .inl (cI, 100, .inl (upd (fun _ => 0) (0 : Int32).toNatClampNeg x4)))) (va_A ((xW o u cI cZ cJ).set 5 ((u 4), .inl (cI, 10, .inl (upd (fun _ => 0) (0 : Int32).toNatClampNeg 1)))) sz)) 0 0 (va_A ((xW o u cI cZ cJ).set 5 ((u 4), .inl (cI, 10, .inl (upd (fun _ => 0) (0 : Int32).toNatClampNeg 1)))) sz) := by
  refine aStart (lv := [(0, .ref (u 0)), (1, .int 0), (2, .int x2), (3, .int 7), (4, .int x4)]) (Qc := fun A => wQi (0) D ((((((((xW o u cI cZ cJ).set 5 ((u 4), .inl (cI, 10, .inl (upd (fun _ => 0) (0 : Int32).toNatClampNeg 1)))).set 6 ((u 5), .inl (cI, 10, .inl (upd (fun _ => 0) (0 : Int32).toNatClampNeg 1)))).set 8 ((u 7), .inl (cI, 160, .inl (upd (fun _ => (-1)) (x2 : Int32).toNatClampNeg 7)))).set 9 ((u 8), .inl (cI, 160, .inl (upd (upd (fun _ => 0) (x2 : Int32).toNatClampNeg (-1)) (x2 : Int32).toNatClampNeg 0)))).set 10 ((u 9), .inl (cI, 160, .inl (upd (fun _ => 0) (x2 : Int32).toNatClampNeg x4)))).set 11 ((u 10), .inl (cI, 100, .inl (upd (fun _ => 0) (0 : Int32).toNatClampNeg 7)))).set 12 ((u 11), .inl (cI, 100, .inl (upd (fun _ => 0) (0 : Int32).toNatClampNeg x4)))) A) (by decide) (Nat.le_of_ble_eq_true rfl) rfl ?_
  intro p e s m args below meth c ls A H S hr hlocks hnm hl hK hP hD hS hA hB
  have hx := S.1
  have hb := S.2.1
  refine lv_aload_n hx hb dX1_declarePlace_0 rfl (lv_at hl 0 rfl) ?_
  refine xg (ci := 1) S inX1 rfl hK hP (q0 := 1) rfl 5 (by decide) rfl kw_1_55 rfl dX1_declarePlace_1 ?_
  refine lv_iload_n hx hb dX1_declarePlace_4 rfl (lv_at hl 1 rfl) ?_
  refine xiald (t0 := 0) (v := 0) S hK hP (q0 := 6) rfl rfl (vin rfl) rfl dX1_declarePlace_5 ?_
  refine lv_istore (lv' := [(5, .int 0), (0, .ref (u 0)), (1, .int 0), (2, .int x2), (3, .int 7), (4, .int x4)]) hx hb dX1_declarePlace_6 hl (by decide) rfl (fun ls hl => ?_)
  refine lv_aload_n hx hb dX1_declarePlace_8 rfl (lv_at hl 1 rfl) ?_
  refine xg (ci := 1) S inX1 rfl hK hP (q0 := 1) rfl 5 (by decide) rfl kw_1_55 rfl dX1_declarePlace_9 ?_
  refine lv_iload_n hx hb dX1_declarePlace_12 rfl (lv_at hl 2 rfl) ?_
  refine lv_dup2_11 hx hb dX1_declarePlace_13 rfl rfl ?_
  refine xiald (t0 := 0) (v := 0) S hK hP (q0 := 6) rfl rfl (vin rfl) rfl dX1_declarePlace_14 ?_
  refine lv_iconst (v := 1) hx hb dX1_declarePlace_15 (by decide) ?_
  refine xiadd (v := 1) S dX1_declarePlace_16 (by decide) ?_
  refine xiast (t0 := 0) S hK hP hD hS (q0 := 6) rfl rfl (vin rfl) dX1_declarePlace_17 (fun H locs hP hD hS => ?_)
  have hP : va_P D vwCl (((xW o u cI cZ cJ).set 5 ((u 4), .inl (cI, 10, .inl (upd (fun _ => 0) (0 : Int32).toNatClampNeg 1)))).set 6 ((u 5), .inl (cI, 10, .inl (upd (fun _ => 0) (0 : Int32).toNatClampNeg 1)))) H := hP
  have hD : va_D A (((xW o u cI cZ cJ).set 5 ((u 4), .inl (cI, 10, .inl (upd (fun _ => 0) (0 : Int32).toNatClampNeg 1)))).set 6 ((u 5), .inl (cI, 10, .inl (upd (fun _ => 0) (0 : Int32).toNatClampNeg 1)))) := hD
  refine lv_aload_n hx hb dX1_declarePlace_18 rfl (lv_at hl 1 rfl) ?_
  refine lv_iload_n hx hb dX1_declarePlace_19 rfl (lv_at hl 2 rfl) ?_
  refine lv_iload_n hx hb dX1_declarePlace_20 rfl (lv_at hl 3 rfl) ?_
  refine lv_iload_n hx hb dX1_declarePlace_21 rfl (lv_at hl 4 rfl) ?_
  refine lv_iload hx hb dX1_declarePlace_22 (lv_at hl 5 rfl) ?_
  refine aVv (As := [.int 0, .int x2, .int 7, .int x4]) (ci := 1) S (c_X1_declare_2 l D cI cZ cJ o u ra ga H.size x2 x4 lo_x2 hi_x2 lo_x4 hi_x4) mi_X1_declare kw_5_206 rfl rfl ⟨Nat.le_of_ble_eq_true rfl, Nat.le_of_ble_eq_true rfl⟩ hP hD hK hS hA hB (k := 1) rfl rfl rfl hl.1 (Nat.le_of_ble_eq_true rfl) ⟨Nat.le_of_ble_eq_true rfl, Nat.le_of_ble_eq_true rfl⟩ dX1_declarePlace_24 (fun H locs hz hP hD hS => ?_)
  refine lv_aload_n hx hb dX1_declarePlace_27 rfl (lv_at hl 1 rfl) ?_
  refine xg (ci := 1) S inX1 rfl hK hP (q0 := 1) rfl 8 (by decide) rfl kw_1_64 rfl dX1_declarePlace_28 ?_
  refine lv_iload_n hx hb dX1_declarePlace_31 rfl (lv_at hl 2 rfl) ?_
  refine lv_bipush (v := 16) hx hb dX1_declarePlace_32 (by decide) ?_
  refine ximul (v := 0) S dX1_declarePlace_34 (by decide) ?_
  refine lv_iload_n hx hb dX1_declarePlace_35 rfl (lv_at hl 3 rfl) ?_
  refine xiadd (v := x2) S dX1_declarePlace_36 (Int32.zero_add _) ?_
  refine lv_iload hx hb dX1_declarePlace_37 (lv_at hl 0 rfl) ?_
  refine xiast (t0 := 0) S hK hP hD hS (q0 := 9) rfl rfl (b_in lo_x2 hi_x2 (by decide) (by decide)) dX1_declarePlace_39 (fun H locs hP hD hS => ?_)
  have hP : va_P D vwCl ((((((xW o u cI cZ cJ).set 5 ((u 4), .inl (cI, 10, .inl (upd (fun _ => 0) (0 : Int32).toNatClampNeg 1)))).set 6 ((u 5), .inl (cI, 10, .inl (upd (fun _ => 0) (0 : Int32).toNatClampNeg 1)))).set 8 ((u 7), .inl (cI, 160, .inl (upd (fun _ => (-1)) (x2 : Int32).toNatClampNeg 7)))).set 9 ((u 8), .inl (cI, 160, .inl (upd (upd (fun _ => 0) (x2 : Int32).toNatClampNeg (-1)) (x2 : Int32).toNatClampNeg 0)))).set 10 ((u 9), .inl (cI, 160, .inl (upd (fun _ => 0) (x2 : Int32).toNatClampNeg x4)))) H := hP
  have hD : va_D A ((((((xW o u cI cZ cJ).set 5 ((u 4), .inl (cI, 10, .inl (upd (fun _ => 0) (0 : Int32).toNatClampNeg 1)))).set 6 ((u 5), .inl (cI, 10, .inl (upd (fun _ => 0) (0 : Int32).toNatClampNeg 1)))).set 8 ((u 7), .inl (cI, 160, .inl (upd (fun _ => (-1)) (x2 : Int32).toNatClampNeg 7)))).set 9 ((u 8), .inl (cI, 160, .inl (upd (upd (fun _ => 0) (x2 : Int32).toNatClampNeg (-1)) (x2 : Int32).toNatClampNeg 0)))).set 10 ((u 9), .inl (cI, 160, .inl (upd (fun _ => 0) (x2 : Int32).toNatClampNeg x4)))) := hD
  refine lv_aload_n hx hb dX1_declarePlace_40 rfl (lv_at hl 1 rfl) ?_
  refine xg (ci := 1) S inX1 rfl hK hP (q0 := 1) rfl 10 (by decide) rfl kw_1_70 rfl dX1_declarePlace_41 ?_
  refine lv_iload_n hx hb dX1_declarePlace_44 rfl (lv_at hl 2 rfl) ?_
  refine lv_bipush (v := 10) hx hb dX1_declarePlace_45 (by decide) ?_
  refine ximul (v := 0) S dX1_declarePlace_47 (by decide) ?_
  refine lv_iload hx hb dX1_declarePlace_48 (lv_at hl 0 rfl) ?_
  refine xiadd (v := 0) S dX1_declarePlace_50 (by decide) ?_
  refine lv_iload_n hx hb dX1_declarePlace_51 rfl (lv_at hl 4 rfl) ?_
  refine xiast (t0 := 0) S hK hP hD hS (q0 := 11) rfl rfl (vin rfl) dX1_declarePlace_52 (fun H locs hP hD hS => ?_)
  have hP : va_P D vwCl (((((((xW o u cI cZ cJ).set 5 ((u 4), .inl (cI, 10, .inl (upd (fun _ => 0) (0 : Int32).toNatClampNeg 1)))).set 6 ((u 5), .inl (cI, 10, .inl (upd (fun _ => 0) (0 : Int32).toNatClampNeg 1)))).set 8 ((u 7), .inl (cI, 160, .inl (upd (fun _ => (-1)) (x2 : Int32).toNatClampNeg 7)))).set 9 ((u 8), .inl (cI, 160, .inl (upd (upd (fun _ => 0) (x2 : Int32).toNatClampNeg (-1)) (x2 : Int32).toNatClampNeg 0)))).set 10 ((u 9), .inl (cI, 160, .inl (upd (fun _ => 0) (x2 : Int32).toNatClampNeg x4)))).set 11 ((u 10), .inl (cI, 100, .inl (upd (fun _ => 0) (0 : Int32).toNatClampNeg 7)))) H := hP
  have hD : va_D A (((((((xW o u cI cZ cJ).set 5 ((u 4), .inl (cI, 10, .inl (upd (fun _ => 0) (0 : Int32).toNatClampNeg 1)))).set 6 ((u 5), .inl (cI, 10, .inl (upd (fun _ => 0) (0 : Int32).toNatClampNeg 1)))).set 8 ((u 7), .inl (cI, 160, .inl (upd (fun _ => (-1)) (x2 : Int32).toNatClampNeg 7)))).set 9 ((u 8), .inl (cI, 160, .inl (upd (upd (fun _ => 0) (x2 : Int32).toNatClampNeg (-1)) (x2 : Int32).toNatClampNeg 0)))).set 10 ((u 9), .inl (cI, 160, .inl (upd (fun _ => 0) (x2 : Int32).toNatClampNeg x4)))).set 11 ((u 10), .inl (cI, 100, .inl (upd (fun _ => 0) (0 : Int32).toNatClampNeg 7)))) := hD
  refine lv_aload_n hx hb dX1_declarePlace_53 rfl (lv_at hl 1 rfl) ?_
  refine xg (ci := 1) S inX1 rfl hK hP (q0 := 1) rfl 11 (by decide) rfl kw_1_73 rfl dX1_declarePlace_54 ?_
  refine lv_iload_n hx hb dX1_declarePlace_57 rfl (lv_at hl 2 rfl) ?_
  refine lv_bipush (v := 10) hx hb dX1_declarePlace_58 (by decide) ?_
  refine ximul (v := 0) S dX1_declarePlace_60 (by decide) ?_
  refine lv_iload hx hb dX1_declarePlace_61 (lv_at hl 0 rfl) ?_
  refine xiadd (v := 0) S dX1_declarePlace_63 (by decide) ?_
  refine lv_iload hx hb dX1_declarePlace_64 (lv_at hl 5 rfl) ?_
  refine xiast (t0 := 0) S hK hP hD hS (q0 := 12) rfl rfl (vin rfl) dX1_declarePlace_66 (fun H locs hP hD hS => ?_)
  have hP : va_P D vwCl ((((((((xW o u cI cZ cJ).set 5 ((u 4), .inl (cI, 10, .inl (upd (fun _ => 0) (0 : Int32).toNatClampNeg 1)))).set 6 ((u 5), .inl (cI, 10, .inl (upd (fun _ => 0) (0 : Int32).toNatClampNeg 1)))).set 8 ((u 7), .inl (cI, 160, .inl (upd (fun _ => (-1)) (x2 : Int32).toNatClampNeg 7)))).set 9 ((u 8), .inl (cI, 160, .inl (upd (upd (fun _ => 0) (x2 : Int32).toNatClampNeg (-1)) (x2 : Int32).toNatClampNeg 0)))).set 10 ((u 9), .inl (cI, 160, .inl (upd (fun _ => 0) (x2 : Int32).toNatClampNeg x4)))).set 11 ((u 10), .inl (cI, 100, .inl (upd (fun _ => 0) (0 : Int32).toNatClampNeg 7)))).set 12 ((u 11), .inl (cI, 100, .inl (upd (fun _ => 0) (0 : Int32).toNatClampNeg x4)))) H := hP
  have hD : va_D A ((((((((xW o u cI cZ cJ).set 5 ((u 4), .inl (cI, 10, .inl (upd (fun _ => 0) (0 : Int32).toNatClampNeg 1)))).set 6 ((u 5), .inl (cI, 10, .inl (upd (fun _ => 0) (0 : Int32).toNatClampNeg 1)))).set 8 ((u 7), .inl (cI, 160, .inl (upd (fun _ => (-1)) (x2 : Int32).toNatClampNeg 7)))).set 9 ((u 8), .inl (cI, 160, .inl (upd (upd (fun _ => 0) (x2 : Int32).toNatClampNeg (-1)) (x2 : Int32).toNatClampNeg 0)))).set 10 ((u 9), .inl (cI, 160, .inl (upd (fun _ => 0) (x2 : Int32).toNatClampNeg x4)))).set 11 ((u 10), .inl (cI, 100, .inl (upd (fun _ => 0) (0 : Int32).toNatClampNeg 7)))).set 12 ((u 11), .inl (cI, 100, .inl (upd (fun _ => 0) (0 : Int32).toNatClampNeg x4)))) := hD
  refine lv_iload hx hb dX1_declarePlace_67 (lv_at hl 0 rfl) ?_
  exact wEnd S hr hlocks hP hD hS (Nat.le_of_ble_eq_true rfl) (Nat.le_of_ble_eq_true rfl) dX1_declarePlace_69 rfl

set_option maxHeartbeats 8000000 in
set_option maxRecDepth 100000 in
theorem c_X1_addVariable_1 (l : Launch) (D : va_G) (cI cZ cJ : ClassId) (o : Nat) (u : Nat → Nat) (ra ga : Nat → Nat) (sz : Nat) (x2 : Int32) (x4 : Int32) (lo_x2 : 0 ≤ x2) (hi_x2 : x2 ≤ 15) (lo_x4 : 1 ≤ x4) (hi_x4 : x4 ≤ 8) : Met l yX1_addVariable (uW yX1_addVariable cX1_addVariable 5 (some .int)) ({ frames := 2, cells := 0, slots := 0, locals := 50 }) (va_Pc [.ref (u 0), .int 0, .int x2, .int 7, .int x4] (aS ra ga D (tyL cI cZ cJ) (xW o u cI cZ cJ) sz)) (wQi (0) D ((((((((xW o u cI cZ cJ).set 5 ((u 4), .inl (cI, 10, .inl (upd (fun _ => 0) (0 : Int32).toNatClampNeg 1)))).set 6 ((u 5), .inl (cI, 10, .inl (upd (fun _ => 0) (0 : Int32).toNatClampNeg 1)))).set 8 ((u 7), .inl (cI, 160, .inl (upd (fun _ => (-1)) (x2 : Int32).toNatClampNeg 7)))).set 9 ((u 8), .inl (cI, 160, .inl (upd (upd (fun _ => 0) (x2 : Int32).toNatClampNeg (-1)) (x2 : Int32).toNatClampNeg 0)))).set 10 ((u 9), .inl (cI, 160, .inl (upd (fun _ => 0) (x2 : Int32).toNatClampNeg x4)))).set 11 ((u 10), .inl (cI, 100, .inl (upd (fun _ => 0) (0 : Int32).toNatClampNeg 7)))).set 12 ((u 11), .inl (cI, 100, .inl (upd (fun _ => 0) (0 : Int32).toNatClampNeg x4)))) (va_A (xW o u cI cZ cJ) sz)) 0 0 (va_A (xW o u cI cZ cJ) sz) := by
  refine aStart (lv := [(0, .ref (u 0)), (1, .int 0), (2, .int x2), (3, .int 7), (4, .int x4)]) (Qc := fun A => wQi (0) D ((((((((xW o u cI cZ cJ).set 5 ((u 4), .inl (cI, 10, .inl (upd (fun _ => 0) (0 : Int32).toNatClampNeg 1)))).set 6 ((u 5), .inl (cI, 10, .inl (upd (fun _ => 0) (0 : Int32).toNatClampNeg 1)))).set 8 ((u 7), .inl (cI, 160, .inl (upd (fun _ => (-1)) (x2 : Int32).toNatClampNeg 7)))).set 9 ((u 8), .inl (cI, 160, .inl (upd (upd (fun _ => 0) (x2 : Int32).toNatClampNeg (-1)) (x2 : Int32).toNatClampNeg 0)))).set 10 ((u 9), .inl (cI, 160, .inl (upd (fun _ => 0) (x2 : Int32).toNatClampNeg x4)))).set 11 ((u 10), .inl (cI, 100, .inl (upd (fun _ => 0) (0 : Int32).toNatClampNeg 7)))).set 12 ((u 11), .inl (cI, 100, .inl (upd (fun _ => 0) (0 : Int32).toNatClampNeg x4)))) A) (by decide) (Nat.le_of_ble_eq_true rfl) rfl ?_
  intro p e s m args below meth c ls A H S hr hlocks hnm hl hK hP hD hS hA hB
  have hx := S.1
  have hb := S.2.1
  refine lv_aload_n hx hb dX1_addVariable_0 rfl (lv_at hl 0 rfl) ?_
  refine xg (ci := 1) S inX1 rfl hK hP xW_1 4 (by decide) rfl kw_1_53 rfl dX1_addVariable_1 ?_
  refine lv_iload_n hx hb dX1_addVariable_4 rfl (lv_at hl 1 rfl) ?_
  refine lv_dup2_11 hx hb dX1_addVariable_5 rfl rfl ?_
  refine xiald (t0 := 0) (v := 0) S hK hP xW_5 rfl (vin rfl) rfl dX1_addVariable_6 ?_
  refine lv_iconst (v := 1) hx hb dX1_addVariable_7 (by decide) ?_
  refine xiadd (v := 1) S dX1_addVariable_8 (by decide) ?_
  refine xiast (t0 := 0) S hK hP hD hS xW_5 rfl (vin rfl) dX1_addVariable_9 (fun H locs hP hD hS => ?_)
  have hP : va_P D vwCl ((xW o u cI cZ cJ).set 5 ((u 4), .inl (cI, 10, .inl (upd (fun _ => 0) (0 : Int32).toNatClampNeg 1)))) H := hP
  have hD : va_D A ((xW o u cI cZ cJ).set 5 ((u 4), .inl (cI, 10, .inl (upd (fun _ => 0) (0 : Int32).toNatClampNeg 1)))) := hD
  refine lv_iload_n hx hb dX1_addVariable_10 rfl (lv_at hl 3 rfl) ?_
  refine lv_bipush (v := 9) hx hb dX1_addVariable_11 (by decide) ?_
  refine lv_icmp_ne (tgt := 27) hx hb dX1_addVariable_13 (by decide) (fun _ => ?_) (fun c => absurd c (by decide))
  refine lv_aload_n hx hb dX1_addVariable_27 rfl (lv_at hl 0 rfl) ?_
  refine lv_iload_n hx hb dX1_addVariable_28 rfl (lv_at hl 1 rfl) ?_
  refine lv_iload_n hx hb dX1_addVariable_29 rfl (lv_at hl 2 rfl) ?_
  refine lv_iload_n hx hb dX1_addVariable_30 rfl (lv_at hl 3 rfl) ?_
  refine lv_iload hx hb dX1_addVariable_31 (lv_at hl 4 rfl) ?_
  refine aVi (As := [.int 0, .int x2, .int 7, .int x4]) (ci := 1) S (c_X1_declarePlace_1 l D cI cZ cJ o u ra ga H.size x2 x4 lo_x2 hi_x2 lo_x4 hi_x4) mi_X1_declarePlace kw_5_225 rfl rfl ⟨Nat.le_of_ble_eq_true rfl, Nat.le_of_ble_eq_true rfl⟩ hP hD hK hS hA hB (k := 1) rfl rfl rfl hl.1 (Nat.le_of_ble_eq_true rfl) ⟨Nat.le_of_ble_eq_true rfl, Nat.le_of_ble_eq_true rfl⟩ dX1_addVariable_33 (fun H locs hz hP hD hS => ?_)
  exact wEnd S hr hlocks hP hD hS (Nat.le_of_ble_eq_true rfl) (Nat.le_of_ble_eq_true rfl) dX1_addVariable_36 rfl

set_option maxHeartbeats 8000000 in
set_option maxRecDepth 100000 in
theorem c_X8_variable_8 (l : Launch) (D : va_G) (cI cZ cJ : ClassId) (o : Nat) (u : Nat → Nat) (hst : l.stackTraces = false) (ra ga : Nat → Nat) (sz : Nat) (x2 : Int32) (x4 : Int32) (lo_x2 : 0 ≤ x2) (hi_x2 : x2 ≤ 15) (hi_x4 : x4 ≤ 0) : vx_Met l yX8_variable (uW yX8_variable cX8_variable 5 (some .int)) ({ frames := 7, cells := 1, slots := 6, locals := 102 }) (va_Pc [.ref o, .int 0, .int x2, .int 1, .int x4] (aS ra ga D (tyL cI cZ cJ) (xW o u cI cZ cJ) sz)) (nQi (va_A (xW o u cI cZ cJ) sz)) (wX "java/lang/IllegalArgumentException" D (xW o u cI cZ cJ) (va_A (xW o u cI cZ cJ) sz)) 1 6 (va_A (xW o u cI cZ cJ) sz) := by
  refine xStart (lv := [(0, .ref o), (1, .int 0), (2, .int x2), (3, .int 1), (4, .int x4)]) (Qc := fun A => nQi A) (XC := fun A => wX "java/lang/IllegalArgumentException" D (xW o u cI cZ cJ) A) (by decide) (Nat.le_of_ble_eq_true rfl) rfl ?_
  intro p e s m args below meth c ls A H S hr hlocks hnm hl hK hP hD hS hA hB hnt
  have hx := S.1
  have hb := S.2.1
  refine lv_aload_n hx hb dX8_variable_0 rfl (lv_at hl 0 rfl) ?_
  refine lv_iload_n hx hb dX8_variable_1 rfl (lv_at hl 1 rfl) ?_
  refine aVv (As := [.int 0]) (ci := 8) S (c_X8_needProcedure_2 l D cI cZ cJ o u ra ga H.size) mi_X8_needProcedure kw_4_166 rfl rfl ⟨Nat.le_of_ble_eq_true rfl, Nat.le_of_ble_eq_true rfl⟩ hP hD hK hS hA hB xW_0 rfl rfl hl.1 (Nat.le_of_ble_eq_true rfl) ⟨Nat.le_of_ble_eq_true rfl, Nat.le_of_ble_eq_true rfl⟩ dX8_variable_2 (fun H locs hz hP hD hS => ?_)
  refine lv_iload_n hx hb dX8_variable_5 rfl (lv_at hl 2 rfl) ?_
  refine rdS (As := [.int x2]) S (c_X8_isName_2 l D cI cZ cJ o u x2 lo_x2 hi_x2) ms_X8_isName kw_4_198 ⟨rfl, rfl⟩ ⟨Nat.le_of_ble_eq_true rfl, Nat.le_of_ble_eq_true rfl⟩ hP hK hl.1 (Nat.le_of_ble_eq_true rfl) ⟨Nat.le_of_ble_eq_true rfl, Nat.le_of_ble_eq_true rfl⟩ dX8_variable_6 ?_
  refine lv_if_eq (tgt := 25) hx hb dX8_variable_9 (by decide) (fun c => absurd c (by decide)) (fun _ => ?_)
  refine lv_iload_n hx hb dX8_variable_12 rfl (lv_at hl 3 rfl) ?_
  refine lv_iload hx hb dX8_variable_13 (lv_at hl 4 rfl) ?_
  refine rdS (As := [.int 1, .int x4]) S (c_X8_isSizeOf_4 l D cI cZ cJ o u x4 hi_x4) ms_X8_isSizeOf kw_5_236 ⟨rfl, rfl⟩ ⟨Nat.le_of_ble_eq_true rfl, Nat.le_of_ble_eq_true rfl⟩ hP hK hl.1 (Nat.le_of_ble_eq_true rfl) ⟨Nat.le_of_ble_eq_true rfl, Nat.le_of_ble_eq_true rfl⟩ dX8_variable_15 ?_
  refine lv_if_eq (tgt := 25) hx hb dX8_variable_18 (by decide) (fun _ => ?_) (fun c => absurd c (by decide))
  refine lv_iconst (v := 0) hx hb dX8_variable_25 (by decide) ?_
  exact tSv (As := [.int 0]) S (c_X8_needArgument_0 l D cI cZ cJ o u hst ra ga H.size) ms_X8_needArgument kw_4_4 rfl rfl ⟨Nat.le_of_ble_eq_true rfl, Nat.le_of_ble_eq_true rfl⟩ hP hD hK hS hA hB hl.1 (Nat.le_of_ble_eq_true rfl) ⟨Nat.le_of_ble_eq_true rfl, Nat.le_of_ble_eq_true rfl⟩ dX8_variable_26 hnt hlocks (Nat.le_of_ble_eq_true rfl) (Nat.le_of_ble_eq_true rfl)

set_option maxHeartbeats 8000000 in
set_option maxRecDepth 100000 in
theorem c_X8_variable_9 (l : Launch) (D : va_G) (cI cZ cJ : ClassId) (o : Nat) (u : Nat → Nat) (hst : l.stackTraces = false) (ra ga : Nat → Nat) (sz : Nat) (x2 : Int32) (x4 : Int32) (lo_x2 : 0 ≤ x2) (hi_x2 : x2 ≤ 15) (lo_x4 : 9 ≤ x4) : vx_Met l yX8_variable (uW yX8_variable cX8_variable 5 (some .int)) ({ frames := 7, cells := 1, slots := 6, locals := 102 }) (va_Pc [.ref o, .int 0, .int x2, .int 1, .int x4] (aS ra ga D (tyL cI cZ cJ) (xW o u cI cZ cJ) sz)) (nQi (va_A (xW o u cI cZ cJ) sz)) (wX "java/lang/IllegalArgumentException" D (xW o u cI cZ cJ) (va_A (xW o u cI cZ cJ) sz)) 1 6 (va_A (xW o u cI cZ cJ) sz) := by
  refine xStart (lv := [(0, .ref o), (1, .int 0), (2, .int x2), (3, .int 1), (4, .int x4)]) (Qc := fun A => nQi A) (XC := fun A => wX "java/lang/IllegalArgumentException" D (xW o u cI cZ cJ) A) (by decide) (Nat.le_of_ble_eq_true rfl) rfl ?_
  intro p e s m args below meth c ls A H S hr hlocks hnm hl hK hP hD hS hA hB hnt
  have hx := S.1
  have hb := S.2.1
  refine lv_aload_n hx hb dX8_variable_0 rfl (lv_at hl 0 rfl) ?_
  refine lv_iload_n hx hb dX8_variable_1 rfl (lv_at hl 1 rfl) ?_
  refine aVv (As := [.int 0]) (ci := 8) S (c_X8_needProcedure_2 l D cI cZ cJ o u ra ga H.size) mi_X8_needProcedure kw_4_166 rfl rfl ⟨Nat.le_of_ble_eq_true rfl, Nat.le_of_ble_eq_true rfl⟩ hP hD hK hS hA hB xW_0 rfl rfl hl.1 (Nat.le_of_ble_eq_true rfl) ⟨Nat.le_of_ble_eq_true rfl, Nat.le_of_ble_eq_true rfl⟩ dX8_variable_2 (fun H locs hz hP hD hS => ?_)
  refine lv_iload_n hx hb dX8_variable_5 rfl (lv_at hl 2 rfl) ?_
  refine rdS (As := [.int x2]) S (c_X8_isName_2 l D cI cZ cJ o u x2 lo_x2 hi_x2) ms_X8_isName kw_4_198 ⟨rfl, rfl⟩ ⟨Nat.le_of_ble_eq_true rfl, Nat.le_of_ble_eq_true rfl⟩ hP hK hl.1 (Nat.le_of_ble_eq_true rfl) ⟨Nat.le_of_ble_eq_true rfl, Nat.le_of_ble_eq_true rfl⟩ dX8_variable_6 ?_
  refine lv_if_eq (tgt := 25) hx hb dX8_variable_9 (by decide) (fun c => absurd c (by decide)) (fun _ => ?_)
  refine lv_iload_n hx hb dX8_variable_12 rfl (lv_at hl 3 rfl) ?_
  refine lv_iload hx hb dX8_variable_13 (lv_at hl 4 rfl) ?_
  refine rdS (As := [.int 1, .int x4]) S (c_X8_isSizeOf_5 l D cI cZ cJ o u x4 lo_x4) ms_X8_isSizeOf kw_5_236 ⟨rfl, rfl⟩ ⟨Nat.le_of_ble_eq_true rfl, Nat.le_of_ble_eq_true rfl⟩ hP hK hl.1 (Nat.le_of_ble_eq_true rfl) ⟨Nat.le_of_ble_eq_true rfl, Nat.le_of_ble_eq_true rfl⟩ dX8_variable_15 ?_
  refine lv_if_eq (tgt := 25) hx hb dX8_variable_18 (by decide) (fun _ => ?_) (fun c => absurd c (by decide))
  refine lv_iconst (v := 0) hx hb dX8_variable_25 (by decide) ?_
  exact tSv (As := [.int 0]) S (c_X8_needArgument_0 l D cI cZ cJ o u hst ra ga H.size) ms_X8_needArgument kw_4_4 rfl rfl ⟨Nat.le_of_ble_eq_true rfl, Nat.le_of_ble_eq_true rfl⟩ hP hD hK hS hA hB hl.1 (Nat.le_of_ble_eq_true rfl) ⟨Nat.le_of_ble_eq_true rfl, Nat.le_of_ble_eq_true rfl⟩ dX8_variable_26 hnt hlocks (Nat.le_of_ble_eq_true rfl) (Nat.le_of_ble_eq_true rfl)

set_option maxHeartbeats 8000000 in
set_option maxRecDepth 100000 in
theorem c_X8_variable_10 (l : Launch) (D : va_G) (cI cZ cJ : ClassId) (o : Nat) (u : Nat → Nat) (ra ga : Nat → Nat) (sz : Nat) (x2 : Int32) (x4 : Int32) (lo_x2 : 0 ≤ x2) (hi_x2 : x2 ≤ 15) (lo_x4 : 1 ≤ x4) (hi_x4 : x4 ≤ 8) : Met l yX8_variable (uW yX8_variable cX8_variable 5 (some .int)) ({ frames := 3, cells := 0, slots := 0, locals := 74 }) (va_Pc [.ref o, .int 0, .int x2, .int 1, .int x4] (aS ra ga D (tyL cI cZ cJ) (xW o u cI cZ cJ) sz)) (wQi (0) D ((((((((xW o u cI cZ cJ).set 5 ((u 4), .inl (cI, 10, .inl (upd (fun _ => 0) (0 : Int32).toNatClampNeg 1)))).set 6 ((u 5), .inl (cI, 10, .inl (upd (fun _ => 0) (0 : Int32).toNatClampNeg 1)))).set 8 ((u 7), .inl (cI, 160, .inl (upd (fun _ => (-1)) (x2 : Int32).toNatClampNeg 7)))).set 9 ((u 8), .inl (cI, 160, .inl (upd (upd (fun _ => 0) (x2 : Int32).toNatClampNeg (-1)) (x2 : Int32).toNatClampNeg 0)))).set 10 ((u 9), .inl (cI, 160, .inl (upd (fun _ => 0) (x2 : Int32).toNatClampNeg x4)))).set 11 ((u 10), .inl (cI, 100, .inl (upd (fun _ => 0) (0 : Int32).toNatClampNeg 7)))).set 12 ((u 11), .inl (cI, 100, .inl (upd (fun _ => 0) (0 : Int32).toNatClampNeg x4)))) (va_A (xW o u cI cZ cJ) sz)) 0 0 (va_A (xW o u cI cZ cJ) sz) := by
  refine aStart (lv := [(0, .ref o), (1, .int 0), (2, .int x2), (3, .int 1), (4, .int x4)]) (Qc := fun A => wQi (0) D ((((((((xW o u cI cZ cJ).set 5 ((u 4), .inl (cI, 10, .inl (upd (fun _ => 0) (0 : Int32).toNatClampNeg 1)))).set 6 ((u 5), .inl (cI, 10, .inl (upd (fun _ => 0) (0 : Int32).toNatClampNeg 1)))).set 8 ((u 7), .inl (cI, 160, .inl (upd (fun _ => (-1)) (x2 : Int32).toNatClampNeg 7)))).set 9 ((u 8), .inl (cI, 160, .inl (upd (upd (fun _ => 0) (x2 : Int32).toNatClampNeg (-1)) (x2 : Int32).toNatClampNeg 0)))).set 10 ((u 9), .inl (cI, 160, .inl (upd (fun _ => 0) (x2 : Int32).toNatClampNeg x4)))).set 11 ((u 10), .inl (cI, 100, .inl (upd (fun _ => 0) (0 : Int32).toNatClampNeg 7)))).set 12 ((u 11), .inl (cI, 100, .inl (upd (fun _ => 0) (0 : Int32).toNatClampNeg x4)))) A) (by decide) (Nat.le_of_ble_eq_true rfl) rfl ?_
  intro p e s m args below meth c ls A H S hr hlocks hnm hl hK hP hD hS hA hB
  have hx := S.1
  have hb := S.2.1
  refine lv_aload_n hx hb dX8_variable_0 rfl (lv_at hl 0 rfl) ?_
  refine lv_iload_n hx hb dX8_variable_1 rfl (lv_at hl 1 rfl) ?_
  refine aVv (As := [.int 0]) (ci := 8) S (c_X8_needProcedure_2 l D cI cZ cJ o u ra ga H.size) mi_X8_needProcedure kw_4_166 rfl rfl ⟨Nat.le_of_ble_eq_true rfl, Nat.le_of_ble_eq_true rfl⟩ hP hD hK hS hA hB xW_0 rfl rfl hl.1 (Nat.le_of_ble_eq_true rfl) ⟨Nat.le_of_ble_eq_true rfl, Nat.le_of_ble_eq_true rfl⟩ dX8_variable_2 (fun H locs hz hP hD hS => ?_)
  refine lv_iload_n hx hb dX8_variable_5 rfl (lv_at hl 2 rfl) ?_
  refine rdS (As := [.int x2]) S (c_X8_isName_2 l D cI cZ cJ o u x2 lo_x2 hi_x2) ms_X8_isName kw_4_198 ⟨rfl, rfl⟩ ⟨Nat.le_of_ble_eq_true rfl, Nat.le_of_ble_eq_true rfl⟩ hP hK hl.1 (Nat.le_of_ble_eq_true rfl) ⟨Nat.le_of_ble_eq_true rfl, Nat.le_of_ble_eq_true rfl⟩ dX8_variable_6 ?_
  refine lv_if_eq (tgt := 25) hx hb dX8_variable_9 (by decide) (fun c => absurd c (by decide)) (fun _ => ?_)
  refine lv_iload_n hx hb dX8_variable_12 rfl (lv_at hl 3 rfl) ?_
  refine lv_iload hx hb dX8_variable_13 (lv_at hl 4 rfl) ?_
  refine rdS (As := [.int 1, .int x4]) S (c_X8_isSizeOf_6 l D cI cZ cJ o u x4 lo_x4 hi_x4) ms_X8_isSizeOf kw_5_236 ⟨rfl, rfl⟩ ⟨Nat.le_of_ble_eq_true rfl, Nat.le_of_ble_eq_true rfl⟩ hP hK hl.1 (Nat.le_of_ble_eq_true rfl) ⟨Nat.le_of_ble_eq_true rfl, Nat.le_of_ble_eq_true rfl⟩ dX8_variable_15 ?_
  refine lv_if_eq (tgt := 25) hx hb dX8_variable_18 (by decide) (fun c => absurd c (by decide)) (fun _ => ?_)
  refine lv_iconst (v := 1) hx hb dX8_variable_21 (by decide) ?_
  refine lv_goto (tgt := 26) hx hb dX8_variable_22 (by decide) ?_
  refine aSv (As := [.int 1]) S (c_X8_needArgument_1 l D cI cZ cJ o u ra ga H.size) ms_X8_needArgument kw_4_4 rfl rfl ⟨Nat.le_of_ble_eq_true rfl, Nat.le_of_ble_eq_true rfl⟩ hP hD hK hS hA hB hl.1 (Nat.le_of_ble_eq_true rfl) ⟨Nat.le_of_ble_eq_true rfl, Nat.le_of_ble_eq_true rfl⟩ dX8_variable_26 (fun H locs hz hP hD hS => ?_)
  refine lv_aload_n hx hb dX8_variable_29 rfl (lv_at hl 0 rfl) ?_
  refine xg (ci := 8) S inX8 rfl hK hP xW_0 0 (by decide) rfl kw_3_20 rfl dX8_variable_30 ?_
  refine lv_iload_n hx hb dX8_variable_33 rfl (lv_at hl 1 rfl) ?_
  refine lv_iload_n hx hb dX8_variable_34 rfl (lv_at hl 2 rfl) ?_
  refine rdV (As := [.int 0, .int x2]) (ci := 1) S (c_X1_takesVariable_0 l D cI cZ cJ o u x2 lo_x2 hi_x2) mi_X1_takesVariable kw_5_239 ⟨rfl, rfl⟩ ⟨Nat.le_of_ble_eq_true rfl, Nat.le_of_ble_eq_true rfl⟩ hP hK xW_1 rfl rfl hl.1 (Nat.le_of_ble_eq_true rfl) ⟨Nat.le_of_ble_eq_true rfl, Nat.le_of_ble_eq_true rfl⟩ dX8_variable_35 ?_
  refine aSv (As := [.int 1]) S (c_X8_needState_0 l D cI cZ cJ o u ra ga H.size) ms_X8_needState kw_5_183 rfl rfl ⟨Nat.le_of_ble_eq_true rfl, Nat.le_of_ble_eq_true rfl⟩ hP hD hK hS hA hB hl.1 (Nat.le_of_ble_eq_true rfl) ⟨Nat.le_of_ble_eq_true rfl, Nat.le_of_ble_eq_true rfl⟩ dX8_variable_38 (fun H locs hz hP hD hS => ?_)
  refine lv_aload_n hx hb dX8_variable_41 rfl (lv_at hl 0 rfl) ?_
  refine lv_iconst (v := 1) hx hb dX8_variable_42 (by decide) ?_
  refine xp (ci := 8) (v := .int 1) S inX8 tyX8 tyX8_ok nmX8 rfl hK hP hD hS xW_0 9 (by decide) kw_3_29 rfl rfl rfl rfl (Nat.le_of_ble_eq_true rfl) dX8_variable_43 (fun H locs hP hD hS => ?_)
  have hP : va_P D vwCl (xW o u cI cZ cJ) H := hP
  have hD : va_D A (xW o u cI cZ cJ) := hD
  refine lv_aload_n hx hb dX8_variable_46 rfl (lv_at hl 0 rfl) ?_
  refine xg (ci := 8) S inX8 rfl hK hP xW_0 0 (by decide) rfl kw_3_20 rfl dX8_variable_47 ?_
  refine lv_iload_n hx hb dX8_variable_50 rfl (lv_at hl 1 rfl) ?_
  refine lv_iload_n hx hb dX8_variable_51 rfl (lv_at hl 2 rfl) ?_
  refine lv_iload_n hx hb dX8_variable_52 rfl (lv_at hl 3 rfl) ?_
  refine lv_bipush (v := 6) hx hb dX8_variable_53 (by decide) ?_
  refine xiadd (v := 7) S dX8_variable_55 (by decide) ?_
  refine lv_iload hx hb dX8_variable_56 (lv_at hl 4 rfl) ?_
  refine aVi (As := [.int 0, .int x2, .int 7, .int x4]) (ci := 1) S (c_X1_addVariable_1 l D cI cZ cJ o u ra ga H.size x2 x4 lo_x2 hi_x2 lo_x4 hi_x4) mi_X1_addVariable kw_6_3 rfl rfl ⟨Nat.le_of_ble_eq_true rfl, Nat.le_of_ble_eq_true rfl⟩ hP hD hK hS hA hB xW_1 rfl rfl hl.1 (Nat.le_of_ble_eq_true rfl) ⟨Nat.le_of_ble_eq_true rfl, Nat.le_of_ble_eq_true rfl⟩ dX8_variable_58 (fun H locs hz hP hD hS => ?_)
  exact wEnd S hr hlocks hP hD hS (Nat.le_of_ble_eq_true rfl) (Nat.le_of_ble_eq_true rfl) dX8_variable_61 rfl

set_option maxHeartbeats 8000000 in
set_option maxRecDepth 100000 in
theorem c_X8_isSizeOf_7 (l : Launch) (D : va_G) (cI cZ cJ : ClassId) (o : Nat) (u : Nat → Nat) : Met l yX8_isSizeOf (uW yX8_isSizeOf cX8_isSizeOf 2 (some .boolean)) ({ frames := 0, cells := 0, slots := 0, locals := 0 }) (va_Pc [.int 2, .int 0] (pS D (tyL cI cZ cJ) (xW o u cI cZ cJ))) (QcRead (1)) 0 0 (fun _ => False) := by
  refine rdStart (lv := [(0, .int 2), (1, .int 0)]) (by decide) (Nat.le_of_ble_eq_true rfl) rfl ?_
  intro p e s m args below meth c ls S hr hlocks hl hP hK
  have hx := S.1
  have hb := S.2.1
  refine lv_iload_n hx hb dX8_isSizeOf_0 rfl (lv_at hl 0 rfl) ?_
  refine lv_bipush (v := 6) hx hb dX8_isSizeOf_1 (by decide) ?_
  refine xiadd (v := 8) S dX8_isSizeOf_3 (by decide) ?_
  refine lv_tableIn (off := 32) (tgt := 36) hx hb dX8_isSizeOf_4 (by decide) (by decide) (by decide) (by decide) ?_
  refine lv_iload_n hx hb dX8_isSizeOf_36 rfl (lv_at hl 1 rfl) ?_
  refine lv_if_ne (tgt := 44) hx hb dX8_isSizeOf_37 (by decide) (fun c => absurd c (by decide)) (fun _ => ?_)
  refine lv_iconst (v := 1) hx hb dX8_isSizeOf_40 (by decide) ?_
  refine lv_goto (tgt := 45) hx hb dX8_isSizeOf_41 (by decide) ?_
  exact rdEndZ S hr hlocks dX8_isSizeOf_45 rfl rfl

set_option maxHeartbeats 8000000 in
set_option maxRecDepth 100000 in
theorem c_X1_declare_3 (l : Launch) (D : va_G) (cI cZ cJ : ClassId) (o : Nat) (u : Nat → Nat) (ra ga : Nat → Nat) (sz : Nat) (x2 : Int32) (lo_x2 : 0 ≤ x2) (hi_x2 : x2 ≤ 15) : Met l yX1_declare (uW yX1_declare cX1_declare 6 none) ({ frames := 0, cells := 0, slots := 0, locals := 0 }) (va_Pc [.ref (u 0), .int 0, .int x2, .int 8, .int 0] (aS ra ga D (tyL cI cZ cJ) (((xW o u cI cZ cJ).set 5 ((u 4), .inl (cI, 10, .inl (upd (fun _ => 0) (0 : Int32).toNatClampNeg 1)))).set 6 ((u 5), .inl (cI, 10, .inl (upd (fun _ => 0) (0 : Int32).toNatClampNeg 1)))) sz)) (wQv D ((((((xW o u cI cZ cJ).set 5 ((u 4), .inl (cI, 10, .inl (upd (fun _ => 0) (0 : Int32).toNatClampNeg 1)))).set 6 ((u 5), .inl (cI, 10, .inl (upd (fun _ => 0) (0 : Int32).toNatClampNeg 1)))).set 8 ((u 7), .inl (cI, 160, .inl (upd (fun _ => (-1)) (x2 : Int32).toNatClampNeg 8)))).set 9 ((u 8), .inl (cI, 160, .inl (upd (fun _ => 0) (x2 : Int32).toNatClampNeg (-1))))).set 10 ((u 9), .inl (cI, 160, .inl (upd (fun _ => 0) (x2 : Int32).toNatClampNeg 0)))) (va_A (((xW o u cI cZ cJ).set 5 ((u 4), .inl (cI, 10, .inl (upd (fun _ => 0) (0 : Int32).toNatClampNeg 1)))).set 6 ((u 5), .inl (cI, 10, .inl (upd (fun _ => 0) (0 : Int32).toNatClampNeg 1)))) sz)) 0 0 (va_A (((xW o u cI cZ cJ).set 5 ((u 4), .inl (cI, 10, .inl (upd (fun _ => 0) (0 : Int32).toNatClampNeg 1)))).set 6 ((u 5), .inl (cI, 10, .inl (upd (fun _ => 0) (0 : Int32).toNatClampNeg 1)))) sz) := by
  refine aStart (lv := [(0, .ref (u 0)), (1, .int 0), (2, .int x2), (3, .int 8), (4, .int 0)]) (Qc := fun A => wQv D ((((((xW o u cI cZ cJ).set 5 ((u 4), .inl (cI, 10, .inl (upd (fun _ => 0) (0 : Int32).toNatClampNeg 1)))).set 6 ((u 5), .inl (cI, 10, .inl (upd (fun _ => 0) (0 : Int32).toNatClampNeg 1)))).set 8 ((u 7), .inl (cI, 160, .inl (upd (fun _ => (-1)) (x2 : Int32).toNatClampNeg 8)))).set 9 ((u 8), .inl (cI, 160, .inl (upd (fun _ => 0) (x2 : Int32).toNatClampNeg (-1))))).set 10 ((u 9), .inl (cI, 160, .inl (upd (fun _ => 0) (x2 : Int32).toNatClampNeg 0)))) A) (by decide) (Nat.le_of_ble_eq_true rfl) rfl ?_
  intro p e s m args below meth c ls A H S hr hlocks hnm hl hK hP hD hS hA hB
  have hx := S.1
  have hb := S.2.1
  refine lv_iload_n hx hb dX1_declare_0 rfl (lv_at hl 1 rfl) ?_
  refine lv_bipush (v := 16) hx hb dX1_declare_1 (by decide) ?_
  refine ximul (v := 0) S dX1_declare_3 (by decide) ?_
  refine lv_iload_n hx hb dX1_declare_4 rfl (lv_at hl 2 rfl) ?_
  refine xiadd (v := x2) S dX1_declare_5 (Int32.zero_add _) ?_
  refine lv_istore (lv' := [(5, .int x2), (0, .ref (u 0)), (1, .int 0), (2, .int x2), (3, .int 8), (4, .int 0)]) hx hb dX1_declare_6 hl (by decide) rfl (fun ls hl => ?_)
  refine lv_aload_n hx hb dX1_declare_8 rfl (lv_at hl 1 rfl) ?_
  refine xg (ci := 1) S inX1 rfl hK hP (q0 := 1) rfl 7 (by decide) rfl kw_1_61 rfl dX1_declare_9 ?_
  refine lv_iload hx hb dX1_declare_12 (lv_at hl 0 rfl) ?_
  refine lv_iload_n hx hb dX1_declare_14 rfl (lv_at hl 4 rfl) ?_
  refine xiast (t0 := 0) S hK hP hD hS (q0 := 8) rfl rfl (b_in lo_x2 hi_x2 (by decide) (by decide)) dX1_declare_15 (fun H locs hP hD hS => ?_)
  have hP : va_P D vwCl ((((xW o u cI cZ cJ).set 5 ((u 4), .inl (cI, 10, .inl (upd (fun _ => 0) (0 : Int32).toNatClampNeg 1)))).set 6 ((u 5), .inl (cI, 10, .inl (upd (fun _ => 0) (0 : Int32).toNatClampNeg 1)))).set 8 ((u 7), .inl (cI, 160, .inl (upd (fun _ => (-1)) (x2 : Int32).toNatClampNeg 8)))) H := hP
  have hD : va_D A ((((xW o u cI cZ cJ).set 5 ((u 4), .inl (cI, 10, .inl (upd (fun _ => 0) (0 : Int32).toNatClampNeg 1)))).set 6 ((u 5), .inl (cI, 10, .inl (upd (fun _ => 0) (0 : Int32).toNatClampNeg 1)))).set 8 ((u 7), .inl (cI, 160, .inl (upd (fun _ => (-1)) (x2 : Int32).toNatClampNeg 8)))) := hD
  refine lv_aload_n hx hb dX1_declare_16 rfl (lv_at hl 1 rfl) ?_
  refine xg (ci := 1) S inX1 rfl hK hP (q0 := 1) rfl 8 (by decide) rfl kw_1_64 rfl dX1_declare_17 ?_
  refine lv_iload hx hb dX1_declare_20 (lv_at hl 0 rfl) ?_
  refine lv_iconst (v := (-1)) hx hb dX1_declare_22 (by decide) ?_
  refine xiast (t0 := 0) S hK hP hD hS (q0 := 9) rfl rfl (b_in lo_x2 hi_x2 (by decide) (by decide)) dX1_declare_23 (fun H locs hP hD hS => ?_)
  have hP : va_P D vwCl (((((xW o u cI cZ cJ).set 5 ((u 4), .inl (cI, 10, .inl (upd (fun _ => 0) (0 : Int32).toNatClampNeg 1)))).set 6 ((u 5), .inl (cI, 10, .inl (upd (fun _ => 0) (0 : Int32).toNatClampNeg 1)))).set 8 ((u 7), .inl (cI, 160, .inl (upd (fun _ => (-1)) (x2 : Int32).toNatClampNeg 8)))).set 9 ((u 8), .inl (cI, 160, .inl (upd (fun _ => 0) (x2 : Int32).toNatClampNeg (-1))))) H := hP
  have hD : va_D A (((((xW o u cI cZ cJ).set 5 ((u 4), .inl (cI, 10, .inl (upd (fun _ => 0) (0 : Int32).toNatClampNeg 1)))).set 6 ((u 5), .inl (cI, 10, .inl (upd (fun _ => 0) (0 : Int32).toNatClampNeg 1)))).set 8 ((u 7), .inl (cI, 160, .inl (upd (fun _ => (-1)) (x2 : Int32).toNatClampNeg 8)))).set 9 ((u 8), .inl (cI, 160, .inl (upd (fun _ => 0) (x2 : Int32).toNatClampNeg (-1))))) := hD
  refine lv_aload_n hx hb dX1_declare_24 rfl (lv_at hl 1 rfl) ?_
  refine xg (ci := 1) S inX1 rfl hK hP (q0 := 1) rfl 9 (by decide) rfl kw_1_67 rfl dX1_declare_25 ?_
  refine lv_iload hx hb dX1_declare_28 (lv_at hl 0 rfl) ?_
  refine lv_iload hx hb dX1_declare_30 (lv_at hl 5 rfl) ?_
  refine xiast (t0 := 0) S hK hP hD hS (q0 := 10) rfl rfl (b_in lo_x2 hi_x2 (by decide) (by decide)) dX1_declare_32 (fun H locs hP hD hS => ?_)
  have hP : va_P D vwCl ((((((xW o u cI cZ cJ).set 5 ((u 4), .inl (cI, 10, .inl (upd (fun _ => 0) (0 : Int32).toNatClampNeg 1)))).set 6 ((u 5), .inl (cI, 10, .inl (upd (fun _ => 0) (0 : Int32).toNatClampNeg 1)))).set 8 ((u 7), .inl (cI, 160, .inl (upd (fun _ => (-1)) (x2 : Int32).toNatClampNeg 8)))).set 9 ((u 8), .inl (cI, 160, .inl (upd (fun _ => 0) (x2 : Int32).toNatClampNeg (-1))))).set 10 ((u 9), .inl (cI, 160, .inl (upd (fun _ => 0) (x2 : Int32).toNatClampNeg 0)))) H := hP
  have hD : va_D A ((((((xW o u cI cZ cJ).set 5 ((u 4), .inl (cI, 10, .inl (upd (fun _ => 0) (0 : Int32).toNatClampNeg 1)))).set 6 ((u 5), .inl (cI, 10, .inl (upd (fun _ => 0) (0 : Int32).toNatClampNeg 1)))).set 8 ((u 7), .inl (cI, 160, .inl (upd (fun _ => (-1)) (x2 : Int32).toNatClampNeg 8)))).set 9 ((u 8), .inl (cI, 160, .inl (upd (fun _ => 0) (x2 : Int32).toNatClampNeg (-1))))).set 10 ((u 9), .inl (cI, 160, .inl (upd (fun _ => 0) (x2 : Int32).toNatClampNeg 0)))) := hD
  exact wEndv S hr hlocks hP hD hS (Nat.le_of_ble_eq_true rfl) (Nat.le_of_ble_eq_true rfl) dX1_declare_33

set_option maxHeartbeats 8000000 in
set_option maxRecDepth 100000 in
theorem c_X1_declarePlace_2 (l : Launch) (D : va_G) (cI cZ cJ : ClassId) (o : Nat) (u : Nat → Nat) (ra ga : Nat → Nat) (sz : Nat) (x2 : Int32) (lo_x2 : 0 ≤ x2) (hi_x2 : x2 ≤ 15) : Met l yX1_declarePlace (uW yX1_declarePlace cX1_declarePlace 6 (some .int)) ({ frames := 1, cells := 0, slots := 0, locals := 25 }) (va_Pc [.ref (u 0), .int 0, .int x2, .int 8, .int 0] (aS ra ga D (tyL cI cZ cJ) ((xW o u cI cZ cJ).set 5 ((u 4), .inl (cI, 10, .inl (upd (fun _ => 0) (0 : Int32).toNatClampNeg 1)))) sz)) (wQi (0) D ((((((((xW o u cI cZ cJ).set 5 ((u 4), .inl (cI, 10, .inl (upd (fun _ => 0) (0 : Int32).toNatClampNeg 1)))).set 6 ((u 5), .inl (cI, 10, .inl (upd (fun _ => 0) (0 : Int32).toNatClampNeg 1)))).set 8 ((u 7), .inl (cI, 160, .inl (upd (fun _ => (-1)) (x2 : Int32).toNatClampNeg 8)))).set 9 ((u 8), .inl (cI, 160, .inl (upd (upd (fun _ => 0) (x2 : Int32).toNatClampNeg (-1)) (x2 : Int32).toNatClampNeg 0)))).set 10 ((u 9), .inl (cI, 160, .inl (upd (fun _ => 0) (x2 : Int32).toNatClampNeg 0)))).set 11 ((u 10), .inl (cI, 100, .inl (upd (fun _ => 0) (0 : Int32).toNatClampNeg 8)))).set 12 ((u 11), .inl (cI, 100, .inl (upd (fun _ => 0) (0 : Int32).toNatClampNeg 0)))) (va_A ((xW o u cI cZ cJ).set 5 ((u 4), .inl (cI, 10, .inl (upd (fun _ => 0) (0 : Int32).toNatClampNeg 1)))) sz)) 0 0 (va_A ((xW o u cI cZ cJ).set 5 ((u 4), .inl (cI, 10, .inl (upd (fun _ => 0) (0 : Int32).toNatClampNeg 1)))) sz) := by
  refine aStart (lv := [(0, .ref (u 0)), (1, .int 0), (2, .int x2), (3, .int 8), (4, .int 0)]) (Qc := fun A => wQi (0) D ((((((((xW o u cI cZ cJ).set 5 ((u 4), .inl (cI, 10, .inl (upd (fun _ => 0) (0 : Int32).toNatClampNeg 1)))).set 6 ((u 5), .inl (cI, 10, .inl (upd (fun _ => 0) (0 : Int32).toNatClampNeg 1)))).set 8 ((u 7), .inl (cI, 160, .inl (upd (fun _ => (-1)) (x2 : Int32).toNatClampNeg 8)))).set 9 ((u 8), .inl (cI, 160, .inl (upd (upd (fun _ => 0) (x2 : Int32).toNatClampNeg (-1)) (x2 : Int32).toNatClampNeg 0)))).set 10 ((u 9), .inl (cI, 160, .inl (upd (fun _ => 0) (x2 : Int32).toNatClampNeg 0)))).set 11 ((u 10), .inl (cI, 100, .inl (upd (fun _ => 0) (0 : Int32).toNatClampNeg 8)))).set 12 ((u 11), .inl (cI, 100, .inl (upd (fun _ => 0) (0 : Int32).toNatClampNeg 0)))) A) (by decide) (Nat.le_of_ble_eq_true rfl) rfl ?_
  intro p e s m args below meth c ls A H S hr hlocks hnm hl hK hP hD hS hA hB
  have hx := S.1
  have hb := S.2.1
  refine lv_aload_n hx hb dX1_declarePlace_0 rfl (lv_at hl 0 rfl) ?_
  refine xg (ci := 1) S inX1 rfl hK hP (q0 := 1) rfl 5 (by decide) rfl kw_1_55 rfl dX1_declarePlace_1 ?_
  refine lv_iload_n hx hb dX1_declarePlace_4 rfl (lv_at hl 1 rfl) ?_
  refine xiald (t0 := 0) (v := 0) S hK hP (q0 := 6) rfl rfl (vin rfl) rfl dX1_declarePlace_5 ?_
  refine lv_istore (lv' := [(5, .int 0), (0, .ref (u 0)), (1, .int 0), (2, .int x2), (3, .int 8), (4, .int 0)]) hx hb dX1_declarePlace_6 hl (by decide) rfl (fun ls hl => ?_)
  refine lv_aload_n hx hb dX1_declarePlace_8 rfl (lv_at hl 1 rfl) ?_
  refine xg (ci := 1) S inX1 rfl hK hP (q0 := 1) rfl 5 (by decide) rfl kw_1_55 rfl dX1_declarePlace_9 ?_
  refine lv_iload_n hx hb dX1_declarePlace_12 rfl (lv_at hl 2 rfl) ?_
  refine lv_dup2_11 hx hb dX1_declarePlace_13 rfl rfl ?_
  refine xiald (t0 := 0) (v := 0) S hK hP (q0 := 6) rfl rfl (vin rfl) rfl dX1_declarePlace_14 ?_
  refine lv_iconst (v := 1) hx hb dX1_declarePlace_15 (by decide) ?_
  refine xiadd (v := 1) S dX1_declarePlace_16 (by decide) ?_
  refine xiast (t0 := 0) S hK hP hD hS (q0 := 6) rfl rfl (vin rfl) dX1_declarePlace_17 (fun H locs hP hD hS => ?_)
  have hP : va_P D vwCl (((xW o u cI cZ cJ).set 5 ((u 4), .inl (cI, 10, .inl (upd (fun _ => 0) (0 : Int32).toNatClampNeg 1)))).set 6 ((u 5), .inl (cI, 10, .inl (upd (fun _ => 0) (0 : Int32).toNatClampNeg 1)))) H := hP
  have hD : va_D A (((xW o u cI cZ cJ).set 5 ((u 4), .inl (cI, 10, .inl (upd (fun _ => 0) (0 : Int32).toNatClampNeg 1)))).set 6 ((u 5), .inl (cI, 10, .inl (upd (fun _ => 0) (0 : Int32).toNatClampNeg 1)))) := hD
  refine lv_aload_n hx hb dX1_declarePlace_18 rfl (lv_at hl 1 rfl) ?_
  refine lv_iload_n hx hb dX1_declarePlace_19 rfl (lv_at hl 2 rfl) ?_
  refine lv_iload_n hx hb dX1_declarePlace_20 rfl (lv_at hl 3 rfl) ?_
  refine lv_iload_n hx hb dX1_declarePlace_21 rfl (lv_at hl 4 rfl) ?_
  refine lv_iload hx hb dX1_declarePlace_22 (lv_at hl 5 rfl) ?_
  refine aVv (As := [.int 0, .int x2, .int 8, .int 0]) (ci := 1) S (c_X1_declare_3 l D cI cZ cJ o u ra ga H.size x2 lo_x2 hi_x2) mi_X1_declare kw_5_206 rfl rfl ⟨Nat.le_of_ble_eq_true rfl, Nat.le_of_ble_eq_true rfl⟩ hP hD hK hS hA hB (k := 1) rfl rfl rfl hl.1 (Nat.le_of_ble_eq_true rfl) ⟨Nat.le_of_ble_eq_true rfl, Nat.le_of_ble_eq_true rfl⟩ dX1_declarePlace_24 (fun H locs hz hP hD hS => ?_)
  refine lv_aload_n hx hb dX1_declarePlace_27 rfl (lv_at hl 1 rfl) ?_
  refine xg (ci := 1) S inX1 rfl hK hP (q0 := 1) rfl 8 (by decide) rfl kw_1_64 rfl dX1_declarePlace_28 ?_
  refine lv_iload_n hx hb dX1_declarePlace_31 rfl (lv_at hl 2 rfl) ?_
  refine lv_bipush (v := 16) hx hb dX1_declarePlace_32 (by decide) ?_
  refine ximul (v := 0) S dX1_declarePlace_34 (by decide) ?_
  refine lv_iload_n hx hb dX1_declarePlace_35 rfl (lv_at hl 3 rfl) ?_
  refine xiadd (v := x2) S dX1_declarePlace_36 (Int32.zero_add _) ?_
  refine lv_iload hx hb dX1_declarePlace_37 (lv_at hl 0 rfl) ?_
  refine xiast (t0 := 0) S hK hP hD hS (q0 := 9) rfl rfl (b_in lo_x2 hi_x2 (by decide) (by decide)) dX1_declarePlace_39 (fun H locs hP hD hS => ?_)
  have hP : va_P D vwCl ((((((xW o u cI cZ cJ).set 5 ((u 4), .inl (cI, 10, .inl (upd (fun _ => 0) (0 : Int32).toNatClampNeg 1)))).set 6 ((u 5), .inl (cI, 10, .inl (upd (fun _ => 0) (0 : Int32).toNatClampNeg 1)))).set 8 ((u 7), .inl (cI, 160, .inl (upd (fun _ => (-1)) (x2 : Int32).toNatClampNeg 8)))).set 9 ((u 8), .inl (cI, 160, .inl (upd (upd (fun _ => 0) (x2 : Int32).toNatClampNeg (-1)) (x2 : Int32).toNatClampNeg 0)))).set 10 ((u 9), .inl (cI, 160, .inl (upd (fun _ => 0) (x2 : Int32).toNatClampNeg 0)))) H := hP
  have hD : va_D A ((((((xW o u cI cZ cJ).set 5 ((u 4), .inl (cI, 10, .inl (upd (fun _ => 0) (0 : Int32).toNatClampNeg 1)))).set 6 ((u 5), .inl (cI, 10, .inl (upd (fun _ => 0) (0 : Int32).toNatClampNeg 1)))).set 8 ((u 7), .inl (cI, 160, .inl (upd (fun _ => (-1)) (x2 : Int32).toNatClampNeg 8)))).set 9 ((u 8), .inl (cI, 160, .inl (upd (upd (fun _ => 0) (x2 : Int32).toNatClampNeg (-1)) (x2 : Int32).toNatClampNeg 0)))).set 10 ((u 9), .inl (cI, 160, .inl (upd (fun _ => 0) (x2 : Int32).toNatClampNeg 0)))) := hD
  refine lv_aload_n hx hb dX1_declarePlace_40 rfl (lv_at hl 1 rfl) ?_
  refine xg (ci := 1) S inX1 rfl hK hP (q0 := 1) rfl 10 (by decide) rfl kw_1_70 rfl dX1_declarePlace_41 ?_
  refine lv_iload_n hx hb dX1_declarePlace_44 rfl (lv_at hl 2 rfl) ?_
  refine lv_bipush (v := 10) hx hb dX1_declarePlace_45 (by decide) ?_
  refine ximul (v := 0) S dX1_declarePlace_47 (by decide) ?_
  refine lv_iload hx hb dX1_declarePlace_48 (lv_at hl 0 rfl) ?_
  refine xiadd (v := 0) S dX1_declarePlace_50 (by decide) ?_
  refine lv_iload_n hx hb dX1_declarePlace_51 rfl (lv_at hl 4 rfl) ?_
  refine xiast (t0 := 0) S hK hP hD hS (q0 := 11) rfl rfl (vin rfl) dX1_declarePlace_52 (fun H locs hP hD hS => ?_)
  have hP : va_P D vwCl (((((((xW o u cI cZ cJ).set 5 ((u 4), .inl (cI, 10, .inl (upd (fun _ => 0) (0 : Int32).toNatClampNeg 1)))).set 6 ((u 5), .inl (cI, 10, .inl (upd (fun _ => 0) (0 : Int32).toNatClampNeg 1)))).set 8 ((u 7), .inl (cI, 160, .inl (upd (fun _ => (-1)) (x2 : Int32).toNatClampNeg 8)))).set 9 ((u 8), .inl (cI, 160, .inl (upd (upd (fun _ => 0) (x2 : Int32).toNatClampNeg (-1)) (x2 : Int32).toNatClampNeg 0)))).set 10 ((u 9), .inl (cI, 160, .inl (upd (fun _ => 0) (x2 : Int32).toNatClampNeg 0)))).set 11 ((u 10), .inl (cI, 100, .inl (upd (fun _ => 0) (0 : Int32).toNatClampNeg 8)))) H := hP
  have hD : va_D A (((((((xW o u cI cZ cJ).set 5 ((u 4), .inl (cI, 10, .inl (upd (fun _ => 0) (0 : Int32).toNatClampNeg 1)))).set 6 ((u 5), .inl (cI, 10, .inl (upd (fun _ => 0) (0 : Int32).toNatClampNeg 1)))).set 8 ((u 7), .inl (cI, 160, .inl (upd (fun _ => (-1)) (x2 : Int32).toNatClampNeg 8)))).set 9 ((u 8), .inl (cI, 160, .inl (upd (upd (fun _ => 0) (x2 : Int32).toNatClampNeg (-1)) (x2 : Int32).toNatClampNeg 0)))).set 10 ((u 9), .inl (cI, 160, .inl (upd (fun _ => 0) (x2 : Int32).toNatClampNeg 0)))).set 11 ((u 10), .inl (cI, 100, .inl (upd (fun _ => 0) (0 : Int32).toNatClampNeg 8)))) := hD
  refine lv_aload_n hx hb dX1_declarePlace_53 rfl (lv_at hl 1 rfl) ?_
  refine xg (ci := 1) S inX1 rfl hK hP (q0 := 1) rfl 11 (by decide) rfl kw_1_73 rfl dX1_declarePlace_54 ?_
  refine lv_iload_n hx hb dX1_declarePlace_57 rfl (lv_at hl 2 rfl) ?_
  refine lv_bipush (v := 10) hx hb dX1_declarePlace_58 (by decide) ?_
  refine ximul (v := 0) S dX1_declarePlace_60 (by decide) ?_
  refine lv_iload hx hb dX1_declarePlace_61 (lv_at hl 0 rfl) ?_
  refine xiadd (v := 0) S dX1_declarePlace_63 (by decide) ?_
  refine lv_iload hx hb dX1_declarePlace_64 (lv_at hl 5 rfl) ?_
  refine xiast (t0 := 0) S hK hP hD hS (q0 := 12) rfl rfl (vin rfl) dX1_declarePlace_66 (fun H locs hP hD hS => ?_)
  have hP : va_P D vwCl ((((((((xW o u cI cZ cJ).set 5 ((u 4), .inl (cI, 10, .inl (upd (fun _ => 0) (0 : Int32).toNatClampNeg 1)))).set 6 ((u 5), .inl (cI, 10, .inl (upd (fun _ => 0) (0 : Int32).toNatClampNeg 1)))).set 8 ((u 7), .inl (cI, 160, .inl (upd (fun _ => (-1)) (x2 : Int32).toNatClampNeg 8)))).set 9 ((u 8), .inl (cI, 160, .inl (upd (upd (fun _ => 0) (x2 : Int32).toNatClampNeg (-1)) (x2 : Int32).toNatClampNeg 0)))).set 10 ((u 9), .inl (cI, 160, .inl (upd (fun _ => 0) (x2 : Int32).toNatClampNeg 0)))).set 11 ((u 10), .inl (cI, 100, .inl (upd (fun _ => 0) (0 : Int32).toNatClampNeg 8)))).set 12 ((u 11), .inl (cI, 100, .inl (upd (fun _ => 0) (0 : Int32).toNatClampNeg 0)))) H := hP
  have hD : va_D A ((((((((xW o u cI cZ cJ).set 5 ((u 4), .inl (cI, 10, .inl (upd (fun _ => 0) (0 : Int32).toNatClampNeg 1)))).set 6 ((u 5), .inl (cI, 10, .inl (upd (fun _ => 0) (0 : Int32).toNatClampNeg 1)))).set 8 ((u 7), .inl (cI, 160, .inl (upd (fun _ => (-1)) (x2 : Int32).toNatClampNeg 8)))).set 9 ((u 8), .inl (cI, 160, .inl (upd (upd (fun _ => 0) (x2 : Int32).toNatClampNeg (-1)) (x2 : Int32).toNatClampNeg 0)))).set 10 ((u 9), .inl (cI, 160, .inl (upd (fun _ => 0) (x2 : Int32).toNatClampNeg 0)))).set 11 ((u 10), .inl (cI, 100, .inl (upd (fun _ => 0) (0 : Int32).toNatClampNeg 8)))).set 12 ((u 11), .inl (cI, 100, .inl (upd (fun _ => 0) (0 : Int32).toNatClampNeg 0)))) := hD
  refine lv_iload hx hb dX1_declarePlace_67 (lv_at hl 0 rfl) ?_
  exact wEnd S hr hlocks hP hD hS (Nat.le_of_ble_eq_true rfl) (Nat.le_of_ble_eq_true rfl) dX1_declarePlace_69 rfl

set_option maxHeartbeats 8000000 in
set_option maxRecDepth 100000 in
theorem c_X1_addVariable_2 (l : Launch) (D : va_G) (cI cZ cJ : ClassId) (o : Nat) (u : Nat → Nat) (ra ga : Nat → Nat) (sz : Nat) (x2 : Int32) (lo_x2 : 0 ≤ x2) (hi_x2 : x2 ≤ 15) : Met l yX1_addVariable (uW yX1_addVariable cX1_addVariable 5 (some .int)) ({ frames := 2, cells := 0, slots := 0, locals := 50 }) (va_Pc [.ref (u 0), .int 0, .int x2, .int 8, .int 0] (aS ra ga D (tyL cI cZ cJ) (xW o u cI cZ cJ) sz)) (wQi (0) D ((((((((xW o u cI cZ cJ).set 5 ((u 4), .inl (cI, 10, .inl (upd (fun _ => 0) (0 : Int32).toNatClampNeg 1)))).set 6 ((u 5), .inl (cI, 10, .inl (upd (fun _ => 0) (0 : Int32).toNatClampNeg 1)))).set 8 ((u 7), .inl (cI, 160, .inl (upd (fun _ => (-1)) (x2 : Int32).toNatClampNeg 8)))).set 9 ((u 8), .inl (cI, 160, .inl (upd (upd (fun _ => 0) (x2 : Int32).toNatClampNeg (-1)) (x2 : Int32).toNatClampNeg 0)))).set 10 ((u 9), .inl (cI, 160, .inl (upd (fun _ => 0) (x2 : Int32).toNatClampNeg 0)))).set 11 ((u 10), .inl (cI, 100, .inl (upd (fun _ => 0) (0 : Int32).toNatClampNeg 8)))).set 12 ((u 11), .inl (cI, 100, .inl (upd (fun _ => 0) (0 : Int32).toNatClampNeg 0)))) (va_A (xW o u cI cZ cJ) sz)) 0 0 (va_A (xW o u cI cZ cJ) sz) := by
  refine aStart (lv := [(0, .ref (u 0)), (1, .int 0), (2, .int x2), (3, .int 8), (4, .int 0)]) (Qc := fun A => wQi (0) D ((((((((xW o u cI cZ cJ).set 5 ((u 4), .inl (cI, 10, .inl (upd (fun _ => 0) (0 : Int32).toNatClampNeg 1)))).set 6 ((u 5), .inl (cI, 10, .inl (upd (fun _ => 0) (0 : Int32).toNatClampNeg 1)))).set 8 ((u 7), .inl (cI, 160, .inl (upd (fun _ => (-1)) (x2 : Int32).toNatClampNeg 8)))).set 9 ((u 8), .inl (cI, 160, .inl (upd (upd (fun _ => 0) (x2 : Int32).toNatClampNeg (-1)) (x2 : Int32).toNatClampNeg 0)))).set 10 ((u 9), .inl (cI, 160, .inl (upd (fun _ => 0) (x2 : Int32).toNatClampNeg 0)))).set 11 ((u 10), .inl (cI, 100, .inl (upd (fun _ => 0) (0 : Int32).toNatClampNeg 8)))).set 12 ((u 11), .inl (cI, 100, .inl (upd (fun _ => 0) (0 : Int32).toNatClampNeg 0)))) A) (by decide) (Nat.le_of_ble_eq_true rfl) rfl ?_
  intro p e s m args below meth c ls A H S hr hlocks hnm hl hK hP hD hS hA hB
  have hx := S.1
  have hb := S.2.1
  refine lv_aload_n hx hb dX1_addVariable_0 rfl (lv_at hl 0 rfl) ?_
  refine xg (ci := 1) S inX1 rfl hK hP xW_1 4 (by decide) rfl kw_1_53 rfl dX1_addVariable_1 ?_
  refine lv_iload_n hx hb dX1_addVariable_4 rfl (lv_at hl 1 rfl) ?_
  refine lv_dup2_11 hx hb dX1_addVariable_5 rfl rfl ?_
  refine xiald (t0 := 0) (v := 0) S hK hP xW_5 rfl (vin rfl) rfl dX1_addVariable_6 ?_
  refine lv_iconst (v := 1) hx hb dX1_addVariable_7 (by decide) ?_
  refine xiadd (v := 1) S dX1_addVariable_8 (by decide) ?_
  refine xiast (t0 := 0) S hK hP hD hS xW_5 rfl (vin rfl) dX1_addVariable_9 (fun H locs hP hD hS => ?_)
  have hP : va_P D vwCl ((xW o u cI cZ cJ).set 5 ((u 4), .inl (cI, 10, .inl (upd (fun _ => 0) (0 : Int32).toNatClampNeg 1)))) H := hP
  have hD : va_D A ((xW o u cI cZ cJ).set 5 ((u 4), .inl (cI, 10, .inl (upd (fun _ => 0) (0 : Int32).toNatClampNeg 1)))) := hD
  refine lv_iload_n hx hb dX1_addVariable_10 rfl (lv_at hl 3 rfl) ?_
  refine lv_bipush (v := 9) hx hb dX1_addVariable_11 (by decide) ?_
  refine lv_icmp_ne (tgt := 27) hx hb dX1_addVariable_13 (by decide) (fun _ => ?_) (fun c => absurd c (by decide))
  refine lv_aload_n hx hb dX1_addVariable_27 rfl (lv_at hl 0 rfl) ?_
  refine lv_iload_n hx hb dX1_addVariable_28 rfl (lv_at hl 1 rfl) ?_
  refine lv_iload_n hx hb dX1_addVariable_29 rfl (lv_at hl 2 rfl) ?_
  refine lv_iload_n hx hb dX1_addVariable_30 rfl (lv_at hl 3 rfl) ?_
  refine lv_iload hx hb dX1_addVariable_31 (lv_at hl 4 rfl) ?_
  refine aVi (As := [.int 0, .int x2, .int 8, .int 0]) (ci := 1) S (c_X1_declarePlace_2 l D cI cZ cJ o u ra ga H.size x2 lo_x2 hi_x2) mi_X1_declarePlace kw_5_225 rfl rfl ⟨Nat.le_of_ble_eq_true rfl, Nat.le_of_ble_eq_true rfl⟩ hP hD hK hS hA hB (k := 1) rfl rfl rfl hl.1 (Nat.le_of_ble_eq_true rfl) ⟨Nat.le_of_ble_eq_true rfl, Nat.le_of_ble_eq_true rfl⟩ dX1_addVariable_33 (fun H locs hz hP hD hS => ?_)
  exact wEnd S hr hlocks hP hD hS (Nat.le_of_ble_eq_true rfl) (Nat.le_of_ble_eq_true rfl) dX1_addVariable_36 rfl

set_option maxHeartbeats 8000000 in
set_option maxRecDepth 100000 in
theorem c_X8_isSizeOf_8 (l : Launch) (D : va_G) (cI cZ cJ : ClassId) (o : Nat) (u : Nat → Nat) (x4 : Int32) (ne_x4_0 : ¬ x4 = 0) : Met l yX8_isSizeOf (uW yX8_isSizeOf cX8_isSizeOf 2 (some .boolean)) ({ frames := 0, cells := 0, slots := 0, locals := 0 }) (va_Pc [.int 2, .int x4] (pS D (tyL cI cZ cJ) (xW o u cI cZ cJ))) (QcRead (0)) 0 0 (fun _ => False) := by
  refine rdStart (lv := [(0, .int 2), (1, .int x4)]) (by decide) (Nat.le_of_ble_eq_true rfl) rfl ?_
  intro p e s m args below meth c ls S hr hlocks hl hP hK
  have hx := S.1
  have hb := S.2.1
  refine lv_iload_n hx hb dX8_isSizeOf_0 rfl (lv_at hl 0 rfl) ?_
  refine lv_bipush (v := 6) hx hb dX8_isSizeOf_1 (by decide) ?_
  refine xiadd (v := 8) S dX8_isSizeOf_3 (by decide) ?_
  refine lv_tableIn (off := 32) (tgt := 36) hx hb dX8_isSizeOf_4 (by decide) (by decide) (by decide) (by decide) ?_
  refine lv_iload_n hx hb dX8_isSizeOf_36 rfl (lv_at hl 1 rfl) ?_
  refine lv_if_ne (tgt := 44) hx hb dX8_isSizeOf_37 (by decide) (fun _ => ?_) (fun c => absurd c ne_x4_0)
  refine lv_iconst (v := 0) hx hb dX8_isSizeOf_44 (by decide) ?_
  exact rdEndZ S hr hlocks dX8_isSizeOf_45 rfl rfl

set_option maxHeartbeats 8000000 in
set_option maxRecDepth 100000 in
theorem c_X8_variable_11 (l : Launch) (D : va_G) (cI cZ cJ : ClassId) (o : Nat) (u : Nat → Nat) (ra ga : Nat → Nat) (sz : Nat) (x2 : Int32) (lo_x2 : 0 ≤ x2) (hi_x2 : x2 ≤ 15) : Met l yX8_variable (uW yX8_variable cX8_variable 5 (some .int)) ({ frames := 3, cells := 0, slots := 0, locals := 74 }) (va_Pc [.ref o, .int 0, .int x2, .int 2, .int 0] (aS ra ga D (tyL cI cZ cJ) (xW o u cI cZ cJ) sz)) (wQi (0) D ((((((((xW o u cI cZ cJ).set 5 ((u 4), .inl (cI, 10, .inl (upd (fun _ => 0) (0 : Int32).toNatClampNeg 1)))).set 6 ((u 5), .inl (cI, 10, .inl (upd (fun _ => 0) (0 : Int32).toNatClampNeg 1)))).set 8 ((u 7), .inl (cI, 160, .inl (upd (fun _ => (-1)) (x2 : Int32).toNatClampNeg 8)))).set 9 ((u 8), .inl (cI, 160, .inl (upd (upd (fun _ => 0) (x2 : Int32).toNatClampNeg (-1)) (x2 : Int32).toNatClampNeg 0)))).set 10 ((u 9), .inl (cI, 160, .inl (upd (fun _ => 0) (x2 : Int32).toNatClampNeg 0)))).set 11 ((u 10), .inl (cI, 100, .inl (upd (fun _ => 0) (0 : Int32).toNatClampNeg 8)))).set 12 ((u 11), .inl (cI, 100, .inl (upd (fun _ => 0) (0 : Int32).toNatClampNeg 0)))) (va_A (xW o u cI cZ cJ) sz)) 0 0 (va_A (xW o u cI cZ cJ) sz) := by
  refine aStart (lv := [(0, .ref o), (1, .int 0), (2, .int x2), (3, .int 2), (4, .int 0)]) (Qc := fun A => wQi (0) D ((((((((xW o u cI cZ cJ).set 5 ((u 4), .inl (cI, 10, .inl (upd (fun _ => 0) (0 : Int32).toNatClampNeg 1)))).set 6 ((u 5), .inl (cI, 10, .inl (upd (fun _ => 0) (0 : Int32).toNatClampNeg 1)))).set 8 ((u 7), .inl (cI, 160, .inl (upd (fun _ => (-1)) (x2 : Int32).toNatClampNeg 8)))).set 9 ((u 8), .inl (cI, 160, .inl (upd (upd (fun _ => 0) (x2 : Int32).toNatClampNeg (-1)) (x2 : Int32).toNatClampNeg 0)))).set 10 ((u 9), .inl (cI, 160, .inl (upd (fun _ => 0) (x2 : Int32).toNatClampNeg 0)))).set 11 ((u 10), .inl (cI, 100, .inl (upd (fun _ => 0) (0 : Int32).toNatClampNeg 8)))).set 12 ((u 11), .inl (cI, 100, .inl (upd (fun _ => 0) (0 : Int32).toNatClampNeg 0)))) A) (by decide) (Nat.le_of_ble_eq_true rfl) rfl ?_
  intro p e s m args below meth c ls A H S hr hlocks hnm hl hK hP hD hS hA hB
  have hx := S.1
  have hb := S.2.1
  refine lv_aload_n hx hb dX8_variable_0 rfl (lv_at hl 0 rfl) ?_
  refine lv_iload_n hx hb dX8_variable_1 rfl (lv_at hl 1 rfl) ?_
  refine aVv (As := [.int 0]) (ci := 8) S (c_X8_needProcedure_2 l D cI cZ cJ o u ra ga H.size) mi_X8_needProcedure kw_4_166 rfl rfl ⟨Nat.le_of_ble_eq_true rfl, Nat.le_of_ble_eq_true rfl⟩ hP hD hK hS hA hB xW_0 rfl rfl hl.1 (Nat.le_of_ble_eq_true rfl) ⟨Nat.le_of_ble_eq_true rfl, Nat.le_of_ble_eq_true rfl⟩ dX8_variable_2 (fun H locs hz hP hD hS => ?_)
  refine lv_iload_n hx hb dX8_variable_5 rfl (lv_at hl 2 rfl) ?_
  refine rdS (As := [.int x2]) S (c_X8_isName_2 l D cI cZ cJ o u x2 lo_x2 hi_x2) ms_X8_isName kw_4_198 ⟨rfl, rfl⟩ ⟨Nat.le_of_ble_eq_true rfl, Nat.le_of_ble_eq_true rfl⟩ hP hK hl.1 (Nat.le_of_ble_eq_true rfl) ⟨Nat.le_of_ble_eq_true rfl, Nat.le_of_ble_eq_true rfl⟩ dX8_variable_6 ?_
  refine lv_if_eq (tgt := 25) hx hb dX8_variable_9 (by decide) (fun c => absurd c (by decide)) (fun _ => ?_)
  refine lv_iload_n hx hb dX8_variable_12 rfl (lv_at hl 3 rfl) ?_
  refine lv_iload hx hb dX8_variable_13 (lv_at hl 4 rfl) ?_
  refine rdS (As := [.int 2, .int 0]) S (c_X8_isSizeOf_7 l D cI cZ cJ o u) ms_X8_isSizeOf kw_5_236 ⟨rfl, rfl⟩ ⟨Nat.le_of_ble_eq_true rfl, Nat.le_of_ble_eq_true rfl⟩ hP hK hl.1 (Nat.le_of_ble_eq_true rfl) ⟨Nat.le_of_ble_eq_true rfl, Nat.le_of_ble_eq_true rfl⟩ dX8_variable_15 ?_
  refine lv_if_eq (tgt := 25) hx hb dX8_variable_18 (by decide) (fun c => absurd c (by decide)) (fun _ => ?_)
  refine lv_iconst (v := 1) hx hb dX8_variable_21 (by decide) ?_
  refine lv_goto (tgt := 26) hx hb dX8_variable_22 (by decide) ?_
  refine aSv (As := [.int 1]) S (c_X8_needArgument_1 l D cI cZ cJ o u ra ga H.size) ms_X8_needArgument kw_4_4 rfl rfl ⟨Nat.le_of_ble_eq_true rfl, Nat.le_of_ble_eq_true rfl⟩ hP hD hK hS hA hB hl.1 (Nat.le_of_ble_eq_true rfl) ⟨Nat.le_of_ble_eq_true rfl, Nat.le_of_ble_eq_true rfl⟩ dX8_variable_26 (fun H locs hz hP hD hS => ?_)
  refine lv_aload_n hx hb dX8_variable_29 rfl (lv_at hl 0 rfl) ?_
  refine xg (ci := 8) S inX8 rfl hK hP xW_0 0 (by decide) rfl kw_3_20 rfl dX8_variable_30 ?_
  refine lv_iload_n hx hb dX8_variable_33 rfl (lv_at hl 1 rfl) ?_
  refine lv_iload_n hx hb dX8_variable_34 rfl (lv_at hl 2 rfl) ?_
  refine rdV (As := [.int 0, .int x2]) (ci := 1) S (c_X1_takesVariable_0 l D cI cZ cJ o u x2 lo_x2 hi_x2) mi_X1_takesVariable kw_5_239 ⟨rfl, rfl⟩ ⟨Nat.le_of_ble_eq_true rfl, Nat.le_of_ble_eq_true rfl⟩ hP hK xW_1 rfl rfl hl.1 (Nat.le_of_ble_eq_true rfl) ⟨Nat.le_of_ble_eq_true rfl, Nat.le_of_ble_eq_true rfl⟩ dX8_variable_35 ?_
  refine aSv (As := [.int 1]) S (c_X8_needState_0 l D cI cZ cJ o u ra ga H.size) ms_X8_needState kw_5_183 rfl rfl ⟨Nat.le_of_ble_eq_true rfl, Nat.le_of_ble_eq_true rfl⟩ hP hD hK hS hA hB hl.1 (Nat.le_of_ble_eq_true rfl) ⟨Nat.le_of_ble_eq_true rfl, Nat.le_of_ble_eq_true rfl⟩ dX8_variable_38 (fun H locs hz hP hD hS => ?_)
  refine lv_aload_n hx hb dX8_variable_41 rfl (lv_at hl 0 rfl) ?_
  refine lv_iconst (v := 1) hx hb dX8_variable_42 (by decide) ?_
  refine xp (ci := 8) (v := .int 1) S inX8 tyX8 tyX8_ok nmX8 rfl hK hP hD hS xW_0 9 (by decide) kw_3_29 rfl rfl rfl rfl (Nat.le_of_ble_eq_true rfl) dX8_variable_43 (fun H locs hP hD hS => ?_)
  have hP : va_P D vwCl (xW o u cI cZ cJ) H := hP
  have hD : va_D A (xW o u cI cZ cJ) := hD
  refine lv_aload_n hx hb dX8_variable_46 rfl (lv_at hl 0 rfl) ?_
  refine xg (ci := 8) S inX8 rfl hK hP xW_0 0 (by decide) rfl kw_3_20 rfl dX8_variable_47 ?_
  refine lv_iload_n hx hb dX8_variable_50 rfl (lv_at hl 1 rfl) ?_
  refine lv_iload_n hx hb dX8_variable_51 rfl (lv_at hl 2 rfl) ?_
  refine lv_iload_n hx hb dX8_variable_52 rfl (lv_at hl 3 rfl) ?_
  refine lv_bipush (v := 6) hx hb dX8_variable_53 (by decide) ?_
  refine xiadd (v := 8) S dX8_variable_55 (by decide) ?_
  refine lv_iload hx hb dX8_variable_56 (lv_at hl 4 rfl) ?_
  refine aVi (As := [.int 0, .int x2, .int 8, .int 0]) (ci := 1) S (c_X1_addVariable_2 l D cI cZ cJ o u ra ga H.size x2 lo_x2 hi_x2) mi_X1_addVariable kw_6_3 rfl rfl ⟨Nat.le_of_ble_eq_true rfl, Nat.le_of_ble_eq_true rfl⟩ hP hD hK hS hA hB xW_1 rfl rfl hl.1 (Nat.le_of_ble_eq_true rfl) ⟨Nat.le_of_ble_eq_true rfl, Nat.le_of_ble_eq_true rfl⟩ dX8_variable_58 (fun H locs hz hP hD hS => ?_)
  exact wEnd S hr hlocks hP hD hS (Nat.le_of_ble_eq_true rfl) (Nat.le_of_ble_eq_true rfl) dX8_variable_61 rfl

set_option maxHeartbeats 8000000 in
set_option maxRecDepth 100000 in
theorem c_X8_variable_12 (l : Launch) (D : va_G) (cI cZ cJ : ClassId) (o : Nat) (u : Nat → Nat) (hst : l.stackTraces = false) (ra ga : Nat → Nat) (sz : Nat) (x2 : Int32) (x4 : Int32) (lo_x2 : 0 ≤ x2) (hi_x2 : x2 ≤ 15) (ne_x4_0 : ¬ x4 = 0) : vx_Met l yX8_variable (uW yX8_variable cX8_variable 5 (some .int)) ({ frames := 7, cells := 1, slots := 6, locals := 102 }) (va_Pc [.ref o, .int 0, .int x2, .int 2, .int x4] (aS ra ga D (tyL cI cZ cJ) (xW o u cI cZ cJ) sz)) (nQi (va_A (xW o u cI cZ cJ) sz)) (wX "java/lang/IllegalArgumentException" D (xW o u cI cZ cJ) (va_A (xW o u cI cZ cJ) sz)) 1 6 (va_A (xW o u cI cZ cJ) sz) := by
  refine xStart (lv := [(0, .ref o), (1, .int 0), (2, .int x2), (3, .int 2), (4, .int x4)]) (Qc := fun A => nQi A) (XC := fun A => wX "java/lang/IllegalArgumentException" D (xW o u cI cZ cJ) A) (by decide) (Nat.le_of_ble_eq_true rfl) rfl ?_
  intro p e s m args below meth c ls A H S hr hlocks hnm hl hK hP hD hS hA hB hnt
  have hx := S.1
  have hb := S.2.1
  refine lv_aload_n hx hb dX8_variable_0 rfl (lv_at hl 0 rfl) ?_
  refine lv_iload_n hx hb dX8_variable_1 rfl (lv_at hl 1 rfl) ?_
  refine aVv (As := [.int 0]) (ci := 8) S (c_X8_needProcedure_2 l D cI cZ cJ o u ra ga H.size) mi_X8_needProcedure kw_4_166 rfl rfl ⟨Nat.le_of_ble_eq_true rfl, Nat.le_of_ble_eq_true rfl⟩ hP hD hK hS hA hB xW_0 rfl rfl hl.1 (Nat.le_of_ble_eq_true rfl) ⟨Nat.le_of_ble_eq_true rfl, Nat.le_of_ble_eq_true rfl⟩ dX8_variable_2 (fun H locs hz hP hD hS => ?_)
  refine lv_iload_n hx hb dX8_variable_5 rfl (lv_at hl 2 rfl) ?_
  refine rdS (As := [.int x2]) S (c_X8_isName_2 l D cI cZ cJ o u x2 lo_x2 hi_x2) ms_X8_isName kw_4_198 ⟨rfl, rfl⟩ ⟨Nat.le_of_ble_eq_true rfl, Nat.le_of_ble_eq_true rfl⟩ hP hK hl.1 (Nat.le_of_ble_eq_true rfl) ⟨Nat.le_of_ble_eq_true rfl, Nat.le_of_ble_eq_true rfl⟩ dX8_variable_6 ?_
  refine lv_if_eq (tgt := 25) hx hb dX8_variable_9 (by decide) (fun c => absurd c (by decide)) (fun _ => ?_)
  refine lv_iload_n hx hb dX8_variable_12 rfl (lv_at hl 3 rfl) ?_
  refine lv_iload hx hb dX8_variable_13 (lv_at hl 4 rfl) ?_
  refine rdS (As := [.int 2, .int x4]) S (c_X8_isSizeOf_8 l D cI cZ cJ o u x4 ne_x4_0) ms_X8_isSizeOf kw_5_236 ⟨rfl, rfl⟩ ⟨Nat.le_of_ble_eq_true rfl, Nat.le_of_ble_eq_true rfl⟩ hP hK hl.1 (Nat.le_of_ble_eq_true rfl) ⟨Nat.le_of_ble_eq_true rfl, Nat.le_of_ble_eq_true rfl⟩ dX8_variable_15 ?_
  refine lv_if_eq (tgt := 25) hx hb dX8_variable_18 (by decide) (fun _ => ?_) (fun c => absurd c (by decide))
  refine lv_iconst (v := 0) hx hb dX8_variable_25 (by decide) ?_
  exact tSv (As := [.int 0]) S (c_X8_needArgument_0 l D cI cZ cJ o u hst ra ga H.size) ms_X8_needArgument kw_4_4 rfl rfl ⟨Nat.le_of_ble_eq_true rfl, Nat.le_of_ble_eq_true rfl⟩ hP hD hK hS hA hB hl.1 (Nat.le_of_ble_eq_true rfl) ⟨Nat.le_of_ble_eq_true rfl, Nat.le_of_ble_eq_true rfl⟩ dX8_variable_26 hnt hlocks (Nat.le_of_ble_eq_true rfl) (Nat.le_of_ble_eq_true rfl)

set_option maxHeartbeats 8000000 in
set_option maxRecDepth 100000 in
theorem c_X8_isSizeOf_9 (l : Launch) (D : va_G) (cI cZ cJ : ClassId) (o : Nat) (u : Nat → Nat) (x4 : Int32) (hi_x4 : x4 ≤ (-100)) : Met l yX8_isSizeOf (uW yX8_isSizeOf cX8_isSizeOf 2 (some .boolean)) ({ frames := 0, cells := 0, slots := 0, locals := 0 }) (va_Pc [.int 3, .int x4] (pS D (tyL cI cZ cJ) (xW o u cI cZ cJ))) (QcRead (0)) 0 0 (fun _ => False) := by
  refine rdStart (lv := [(0, .int 3), (1, .int x4)]) (by decide) (Nat.le_of_ble_eq_true rfl) rfl ?_
  intro p e s m args below meth c ls S hr hlocks hl hP hK
  have hx := S.1
  have hb := S.2.1
  refine lv_iload_n hx hb dX8_isSizeOf_0 rfl (lv_at hl 0 rfl) ?_
  refine lv_bipush (v := 6) hx hb dX8_isSizeOf_1 (by decide) ?_
  refine xiadd (v := 9) S dX8_isSizeOf_3 (by decide) ?_
  refine lv_tableIn (off := 59) (tgt := 63) hx hb dX8_isSizeOf_4 (by decide) (by decide) (by decide) (by decide) ?_
  refine lv_iload_n hx hb dX8_isSizeOf_63 rfl (lv_at hl 1 rfl) ?_
  refine lv_bipush (v := (-99)) hx hb dX8_isSizeOf_64 (by decide) ?_
  refine lv_icmp_lt (tgt := 79) hx hb dX8_isSizeOf_66 (by decide) (fun _ => ?_) (fun c => absurd (b_lt hi_x4 (by decide)) c)
  refine lv_iconst (v := 0) hx hb dX8_isSizeOf_79 (by decide) ?_
  exact rdEndZ S hr hlocks dX8_isSizeOf_80 rfl rfl

set_option maxHeartbeats 8000000 in
set_option maxRecDepth 100000 in
theorem c_X8_isSizeOf_10 (l : Launch) (D : va_G) (cI cZ cJ : ClassId) (o : Nat) (u : Nat → Nat) (x4 : Int32) (lo_x4 : 100 ≤ x4) : Met l yX8_isSizeOf (uW yX8_isSizeOf cX8_isSizeOf 2 (some .boolean)) ({ frames := 0, cells := 0, slots := 0, locals := 0 }) (va_Pc [.int 3, .int x4] (pS D (tyL cI cZ cJ) (xW o u cI cZ cJ))) (QcRead (0)) 0 0 (fun _ => False) := by
  refine rdStart (lv := [(0, .int 3), (1, .int x4)]) (by decide) (Nat.le_of_ble_eq_true rfl) rfl ?_
  intro p e s m args below meth c ls S hr hlocks hl hP hK
  have hx := S.1
  have hb := S.2.1
  refine lv_iload_n hx hb dX8_isSizeOf_0 rfl (lv_at hl 0 rfl) ?_
  refine lv_bipush (v := 6) hx hb dX8_isSizeOf_1 (by decide) ?_
  refine xiadd (v := 9) S dX8_isSizeOf_3 (by decide) ?_
  refine lv_tableIn (off := 59) (tgt := 63) hx hb dX8_isSizeOf_4 (by decide) (by decide) (by decide) (by decide) ?_
  refine lv_iload_n hx hb dX8_isSizeOf_63 rfl (lv_at hl 1 rfl) ?_
  refine lv_bipush (v := (-99)) hx hb dX8_isSizeOf_64 (by decide) ?_
  refine lv_icmp_lt (tgt := 79) hx hb dX8_isSizeOf_66 (by decide) (fun c => absurd c (b_nlt lo_x4 (by decide))) (fun _ => ?_)
  refine lv_iload_n hx hb dX8_isSizeOf_69 rfl (lv_at hl 1 rfl) ?_
  refine lv_bipush (v := 99) hx hb dX8_isSizeOf_70 (by decide) ?_
  refine lv_icmp_gt (tgt := 79) hx hb dX8_isSizeOf_72 (by decide) (fun _ => ?_) (fun c => absurd (b_gt lo_x4 (by decide)) c)
  refine lv_iconst (v := 0) hx hb dX8_isSizeOf_79 (by decide) ?_
  exact rdEndZ S hr hlocks dX8_isSizeOf_80 rfl rfl

set_option maxHeartbeats 8000000 in
set_option maxRecDepth 100000 in
theorem c_X8_isSizeOf_11 (l : Launch) (D : va_G) (cI cZ cJ : ClassId) (o : Nat) (u : Nat → Nat) (x4 : Int32) (lo_x4 : (-99) ≤ x4) (hi_x4 : x4 ≤ 99) : Met l yX8_isSizeOf (uW yX8_isSizeOf cX8_isSizeOf 2 (some .boolean)) ({ frames := 0, cells := 0, slots := 0, locals := 0 }) (va_Pc [.int 3, .int x4] (pS D (tyL cI cZ cJ) (xW o u cI cZ cJ))) (QcRead (1)) 0 0 (fun _ => False) := by
  refine rdStart (lv := [(0, .int 3), (1, .int x4)]) (by decide) (Nat.le_of_ble_eq_true rfl) rfl ?_
  intro p e s m args below meth c ls S hr hlocks hl hP hK
  have hx := S.1
  have hb := S.2.1
  refine lv_iload_n hx hb dX8_isSizeOf_0 rfl (lv_at hl 0 rfl) ?_
  refine lv_bipush (v := 6) hx hb dX8_isSizeOf_1 (by decide) ?_
  refine xiadd (v := 9) S dX8_isSizeOf_3 (by decide) ?_
  refine lv_tableIn (off := 59) (tgt := 63) hx hb dX8_isSizeOf_4 (by decide) (by decide) (by decide) (by decide) ?_
  refine lv_iload_n hx hb dX8_isSizeOf_63 rfl (lv_at hl 1 rfl) ?_
  refine lv_bipush (v := (-99)) hx hb dX8_isSizeOf_64 (by decide) ?_
  refine lv_icmp_lt (tgt := 79) hx hb dX8_isSizeOf_66 (by decide) (fun c => absurd c (b_nlt lo_x4 (by decide))) (fun _ => ?_)
  refine lv_iload_n hx hb dX8_isSizeOf_69 rfl (lv_at hl 1 rfl) ?_
  refine lv_bipush (v := 99) hx hb dX8_isSizeOf_70 (by decide) ?_
  refine lv_icmp_gt (tgt := 79) hx hb dX8_isSizeOf_72 (by decide) (fun c => absurd c (b_ngt hi_x4 (by decide))) (fun _ => ?_)
  refine lv_iconst (v := 1) hx hb dX8_isSizeOf_75 (by decide) ?_
  refine lv_goto (tgt := 80) hx hb dX8_isSizeOf_76 (by decide) ?_
  exact rdEndZ S hr hlocks dX8_isSizeOf_80 rfl rfl

set_option maxHeartbeats 8000000 in
set_option maxRecDepth 100000 in
theorem c_X1_declare_4 (l : Launch) (D : va_G) (cI cZ cJ : ClassId) (o : Nat) (u : Nat → Nat) (ra ga : Nat → Nat) (sz : Nat) (x2 : Int32) (x4 : Int32) (lo_x2 : 0 ≤ x2) (hi_x2 : x2 ≤ 15) (lo_x4 : (-99) ≤ x4) (hi_x4 : x4 ≤ 99) : Met l yX1_declare (uW yX1_declare cX1_declare 6 none) ({ frames := 0, cells := 0, slots := 0, locals := 0 }) (va_Pc [.ref (u 0), .int 0, .int x2, .int 9, .int x4] (aS ra ga D (tyL cI cZ cJ) ((xW o u cI cZ cJ).set 5 ((u 4), .inl (cI, 10, .inl (upd (fun _ => 0) (0 : Int32).toNatClampNeg 1)))) sz)) (wQv D (((((xW o u cI cZ cJ).set 5 ((u 4), .inl (cI, 10, .inl (upd (fun _ => 0) (0 : Int32).toNatClampNeg 1)))).set 8 ((u 7), .inl (cI, 160, .inl (upd (fun _ => (-1)) (x2 : Int32).toNatClampNeg 9)))).set 9 ((u 8), .inl (cI, 160, .inl (upd (fun _ => 0) (x2 : Int32).toNatClampNeg (-1))))).set 10 ((u 9), .inl (cI, 160, .inl (upd (fun _ => 0) (x2 : Int32).toNatClampNeg x4)))) (va_A ((xW o u cI cZ cJ).set 5 ((u 4), .inl (cI, 10, .inl (upd (fun _ => 0) (0 : Int32).toNatClampNeg 1)))) sz)) 0 0 (va_A ((xW o u cI cZ cJ).set 5 ((u 4), .inl (cI, 10, .inl (upd (fun _ => 0) (0 : Int32).toNatClampNeg 1)))) sz) := by
  refine aStart (lv := [(0, .ref (u 0)), (1, .int 0), (2, .int x2), (3, .int 9), (4, .int x4)]) (Qc := fun A => wQv D (((((xW o u cI cZ cJ).set 5 ((u 4), .inl (cI, 10, .inl (upd (fun _ => 0) (0 : Int32).toNatClampNeg 1)))).set 8 ((u 7), .inl (cI, 160, .inl (upd (fun _ => (-1)) (x2 : Int32).toNatClampNeg 9)))).set 9 ((u 8), .inl (cI, 160, .inl (upd (fun _ => 0) (x2 : Int32).toNatClampNeg (-1))))).set 10 ((u 9), .inl (cI, 160, .inl (upd (fun _ => 0) (x2 : Int32).toNatClampNeg x4)))) A) (by decide) (Nat.le_of_ble_eq_true rfl) rfl ?_
  intro p e s m args below meth c ls A H S hr hlocks hnm hl hK hP hD hS hA hB
  have hx := S.1
  have hb := S.2.1
  refine lv_iload_n hx hb dX1_declare_0 rfl (lv_at hl 1 rfl) ?_
  refine lv_bipush (v := 16) hx hb dX1_declare_1 (by decide) ?_
  refine ximul (v := 0) S dX1_declare_3 (by decide) ?_
  refine lv_iload_n hx hb dX1_declare_4 rfl (lv_at hl 2 rfl) ?_
  refine xiadd (v := x2) S dX1_declare_5 (Int32.zero_add _) ?_
  refine lv_istore (lv' := [(5, .int x2), (0, .ref (u 0)), (1, .int 0), (2, .int x2), (3, .int 9), (4, .int x4)]) hx hb dX1_declare_6 hl (by decide) rfl (fun ls hl => ?_)
  refine lv_aload_n hx hb dX1_declare_8 rfl (lv_at hl 1 rfl) ?_
  refine xg (ci := 1) S inX1 rfl hK hP (q0 := 1) rfl 7 (by decide) rfl kw_1_61 rfl dX1_declare_9 ?_
  refine lv_iload hx hb dX1_declare_12 (lv_at hl 0 rfl) ?_
  refine lv_iload_n hx hb dX1_declare_14 rfl (lv_at hl 4 rfl) ?_
  refine xiast (t0 := 0) S hK hP hD hS (q0 := 8) rfl rfl (b_in lo_x2 hi_x2 (by decide) (by decide)) dX1_declare_15 (fun H locs hP hD hS => ?_)
  have hP : va_P D vwCl (((xW o u cI cZ cJ).set 5 ((u 4), .inl (cI, 10, .inl (upd (fun _ => 0) (0 : Int32).toNatClampNeg 1)))).set 8 ((u 7), .inl (cI, 160, .inl (upd (fun _ => (-1)) (x2 : Int32).toNatClampNeg 9)))) H := hP
  have hD : va_D A (((xW o u cI cZ cJ).set 5 ((u 4), .inl (cI, 10, .inl (upd (fun _ => 0) (0 : Int32).toNatClampNeg 1)))).set 8 ((u 7), .inl (cI, 160, .inl (upd (fun _ => (-1)) (x2 : Int32).toNatClampNeg 9)))) := hD
  refine lv_aload_n hx hb dX1_declare_16 rfl (lv_at hl 1 rfl) ?_
  refine xg (ci := 1) S inX1 rfl hK hP (q0 := 1) rfl 8 (by decide) rfl kw_1_64 rfl dX1_declare_17 ?_
  refine lv_iload hx hb dX1_declare_20 (lv_at hl 0 rfl) ?_
  refine lv_iconst (v := (-1)) hx hb dX1_declare_22 (by decide) ?_
  refine xiast (t0 := 0) S hK hP hD hS (q0 := 9) rfl rfl (b_in lo_x2 hi_x2 (by decide) (by decide)) dX1_declare_23 (fun H locs hP hD hS => ?_)
  have hP : va_P D vwCl ((((xW o u cI cZ cJ).set 5 ((u 4), .inl (cI, 10, .inl (upd (fun _ => 0) (0 : Int32).toNatClampNeg 1)))).set 8 ((u 7), .inl (cI, 160, .inl (upd (fun _ => (-1)) (x2 : Int32).toNatClampNeg 9)))).set 9 ((u 8), .inl (cI, 160, .inl (upd (fun _ => 0) (x2 : Int32).toNatClampNeg (-1))))) H := hP
  have hD : va_D A ((((xW o u cI cZ cJ).set 5 ((u 4), .inl (cI, 10, .inl (upd (fun _ => 0) (0 : Int32).toNatClampNeg 1)))).set 8 ((u 7), .inl (cI, 160, .inl (upd (fun _ => (-1)) (x2 : Int32).toNatClampNeg 9)))).set 9 ((u 8), .inl (cI, 160, .inl (upd (fun _ => 0) (x2 : Int32).toNatClampNeg (-1))))) := hD
  refine lv_aload_n hx hb dX1_declare_24 rfl (lv_at hl 1 rfl) ?_
  refine xg (ci := 1) S inX1 rfl hK hP (q0 := 1) rfl 9 (by decide) rfl kw_1_67 rfl dX1_declare_25 ?_
  refine lv_iload hx hb dX1_declare_28 (lv_at hl 0 rfl) ?_
  refine lv_iload hx hb dX1_declare_30 (lv_at hl 5 rfl) ?_
  refine xiast (t0 := 0) S hK hP hD hS (q0 := 10) rfl rfl (b_in lo_x2 hi_x2 (by decide) (by decide)) dX1_declare_32 (fun H locs hP hD hS => ?_)
  have hP : va_P D vwCl (((((xW o u cI cZ cJ).set 5 ((u 4), .inl (cI, 10, .inl (upd (fun _ => 0) (0 : Int32).toNatClampNeg 1)))).set 8 ((u 7), .inl (cI, 160, .inl (upd (fun _ => (-1)) (x2 : Int32).toNatClampNeg 9)))).set 9 ((u 8), .inl (cI, 160, .inl (upd (fun _ => 0) (x2 : Int32).toNatClampNeg (-1))))).set 10 ((u 9), .inl (cI, 160, .inl (upd (fun _ => 0) (x2 : Int32).toNatClampNeg x4)))) H := hP
  have hD : va_D A (((((xW o u cI cZ cJ).set 5 ((u 4), .inl (cI, 10, .inl (upd (fun _ => 0) (0 : Int32).toNatClampNeg 1)))).set 8 ((u 7), .inl (cI, 160, .inl (upd (fun _ => (-1)) (x2 : Int32).toNatClampNeg 9)))).set 9 ((u 8), .inl (cI, 160, .inl (upd (fun _ => 0) (x2 : Int32).toNatClampNeg (-1))))).set 10 ((u 9), .inl (cI, 160, .inl (upd (fun _ => 0) (x2 : Int32).toNatClampNeg x4)))) := hD
  exact wEndv S hr hlocks hP hD hS (Nat.le_of_ble_eq_true rfl) (Nat.le_of_ble_eq_true rfl) dX1_declare_33

set_option maxHeartbeats 8000000 in
set_option maxRecDepth 100000 in
theorem c_X1_addVariable_3 (l : Launch) (D : va_G) (cI cZ cJ : ClassId) (o : Nat) (u : Nat → Nat) (ra ga : Nat → Nat) (sz : Nat) (x2 : Int32) (x4 : Int32) (lo_x2 : 0 ≤ x2) (hi_x2 : x2 ≤ 15) (lo_x4 : (-99) ≤ x4) (hi_x4 : x4 ≤ 99) : Met l yX1_addVariable (uW yX1_addVariable cX1_addVariable 5 (some .int)) ({ frames := 1, cells := 0, slots := 0, locals := 25 }) (va_Pc [.ref (u 0), .int 0, .int x2, .int 9, .int x4] (aS ra ga D (tyL cI cZ cJ) (xW o u cI cZ cJ) sz)) (wQi ((-1)) D (((((xW o u cI cZ cJ).set 5 ((u 4), .inl (cI, 10, .inl (upd (fun _ => 0) (0 : Int32).toNatClampNeg 1)))).set 8 ((u 7), .inl (cI, 160, .inl (upd (fun _ => (-1)) (x2 : Int32).toNatClampNeg 9)))).set 9 ((u 8), .inl (cI, 160, .inl (upd (fun _ => 0) (x2 : Int32).toNatClampNeg (-1))))).set 10 ((u 9), .inl (cI, 160, .inl (upd (fun _ => 0) (x2 : Int32).toNatClampNeg x4)))) (va_A (xW o u cI cZ cJ) sz)) 0 0 (va_A (xW o u cI cZ cJ) sz) := by
  refine aStart (lv := [(0, .ref (u 0)), (1, .int 0), (2, .int x2), (3, .int 9), (4, .int x4)]) (Qc := fun A => wQi ((-1)) D (((((xW o u cI cZ cJ).set 5 ((u 4), .inl (cI, 10, .inl (upd (fun _ => 0) (0 : Int32).toNatClampNeg 1)))).set 8 ((u 7), .inl (cI, 160, .inl (upd (fun _ => (-1)) (x2 : Int32).toNatClampNeg 9)))).set 9 ((u 8), .inl (cI, 160, .inl (upd (fun _ => 0) (x2 : Int32).toNatClampNeg (-1))))).set 10 ((u 9), .inl (cI, 160, .inl (upd (fun _ => 0) (x2 : Int32).toNatClampNeg x4)))) A) (by decide) (Nat.le_of_ble_eq_true rfl) rfl ?_
  intro p e s m args below meth c ls A H S hr hlocks hnm hl hK hP hD hS hA hB
  have hx := S.1
  have hb := S.2.1
  refine lv_aload_n hx hb dX1_addVariable_0 rfl (lv_at hl 0 rfl) ?_
  refine xg (ci := 1) S inX1 rfl hK hP xW_1 4 (by decide) rfl kw_1_53 rfl dX1_addVariable_1 ?_
  refine lv_iload_n hx hb dX1_addVariable_4 rfl (lv_at hl 1 rfl) ?_
  refine lv_dup2_11 hx hb dX1_addVariable_5 rfl rfl ?_
  refine xiald (t0 := 0) (v := 0) S hK hP xW_5 rfl (vin rfl) rfl dX1_addVariable_6 ?_
  refine lv_iconst (v := 1) hx hb dX1_addVariable_7 (by decide) ?_
  refine xiadd (v := 1) S dX1_addVariable_8 (by decide) ?_
  refine xiast (t0 := 0) S hK hP hD hS xW_5 rfl (vin rfl) dX1_addVariable_9 (fun H locs hP hD hS => ?_)
  have hP : va_P D vwCl ((xW o u cI cZ cJ).set 5 ((u 4), .inl (cI, 10, .inl (upd (fun _ => 0) (0 : Int32).toNatClampNeg 1)))) H := hP
  have hD : va_D A ((xW o u cI cZ cJ).set 5 ((u 4), .inl (cI, 10, .inl (upd (fun _ => 0) (0 : Int32).toNatClampNeg 1)))) := hD
  refine lv_iload_n hx hb dX1_addVariable_10 rfl (lv_at hl 3 rfl) ?_
  refine lv_bipush (v := 9) hx hb dX1_addVariable_11 (by decide) ?_
  refine lv_icmp_ne (tgt := 27) hx hb dX1_addVariable_13 (by decide) (fun c => absurd c (by decide)) (fun _ => ?_)
  refine lv_aload_n hx hb dX1_addVariable_16 rfl (lv_at hl 0 rfl) ?_
  refine lv_iload_n hx hb dX1_addVariable_17 rfl (lv_at hl 1 rfl) ?_
  refine lv_iload_n hx hb dX1_addVariable_18 rfl (lv_at hl 2 rfl) ?_
  refine lv_iload_n hx hb dX1_addVariable_19 rfl (lv_at hl 3 rfl) ?_
  refine lv_iload hx hb dX1_addVariable_20 (lv_at hl 4 rfl) ?_
  refine aVv (As := [.int 0, .int x2, .int 9, .int x4]) (ci := 1) S (c_X1_declare_4 l D cI cZ cJ o u ra ga H.size x2 x4 lo_x2 hi_x2 lo_x4 hi_x4) mi_X1_declare kw_5_206 rfl rfl ⟨Nat.le_of_ble_eq_true rfl, Nat.le_of_ble_eq_true rfl⟩ hP hD hK hS hA hB (k := 1) rfl rfl rfl hl.1 (Nat.le_of_ble_eq_true rfl) ⟨Nat.le_of_ble_eq_true rfl, Nat.le_of_ble_eq_true rfl⟩ dX1_addVariable_22 (fun H locs hz hP hD hS => ?_)
  refine lv_iconst (v := (-1)) hx hb dX1_addVariable_25 (by decide) ?_
  exact wEnd S hr hlocks hP hD hS (Nat.le_of_ble_eq_true rfl) (Nat.le_of_ble_eq_true rfl) dX1_addVariable_26 rfl

set_option maxHeartbeats 8000000 in
set_option maxRecDepth 100000 in
theorem c_X8_variable_13 (l : Launch) (D : va_G) (cI cZ cJ : ClassId) (o : Nat) (u : Nat → Nat) (hst : l.stackTraces = false) (ra ga : Nat → Nat) (sz : Nat) (x2 : Int32) (x4 : Int32) (lo_x2 : 0 ≤ x2) (hi_x2 : x2 ≤ 15) (hi_x4 : x4 ≤ (-100)) : vx_Met l yX8_variable (uW yX8_variable cX8_variable 5 (some .int)) ({ frames := 7, cells := 1, slots := 6, locals := 102 }) (va_Pc [.ref o, .int 0, .int x2, .int 3, .int x4] (aS ra ga D (tyL cI cZ cJ) (xW o u cI cZ cJ) sz)) (nQi (va_A (xW o u cI cZ cJ) sz)) (wX "java/lang/IllegalArgumentException" D (xW o u cI cZ cJ) (va_A (xW o u cI cZ cJ) sz)) 1 6 (va_A (xW o u cI cZ cJ) sz) := by
  refine xStart (lv := [(0, .ref o), (1, .int 0), (2, .int x2), (3, .int 3), (4, .int x4)]) (Qc := fun A => nQi A) (XC := fun A => wX "java/lang/IllegalArgumentException" D (xW o u cI cZ cJ) A) (by decide) (Nat.le_of_ble_eq_true rfl) rfl ?_
  intro p e s m args below meth c ls A H S hr hlocks hnm hl hK hP hD hS hA hB hnt
  have hx := S.1
  have hb := S.2.1
  refine lv_aload_n hx hb dX8_variable_0 rfl (lv_at hl 0 rfl) ?_
  refine lv_iload_n hx hb dX8_variable_1 rfl (lv_at hl 1 rfl) ?_
  refine aVv (As := [.int 0]) (ci := 8) S (c_X8_needProcedure_2 l D cI cZ cJ o u ra ga H.size) mi_X8_needProcedure kw_4_166 rfl rfl ⟨Nat.le_of_ble_eq_true rfl, Nat.le_of_ble_eq_true rfl⟩ hP hD hK hS hA hB xW_0 rfl rfl hl.1 (Nat.le_of_ble_eq_true rfl) ⟨Nat.le_of_ble_eq_true rfl, Nat.le_of_ble_eq_true rfl⟩ dX8_variable_2 (fun H locs hz hP hD hS => ?_)
  refine lv_iload_n hx hb dX8_variable_5 rfl (lv_at hl 2 rfl) ?_
  refine rdS (As := [.int x2]) S (c_X8_isName_2 l D cI cZ cJ o u x2 lo_x2 hi_x2) ms_X8_isName kw_4_198 ⟨rfl, rfl⟩ ⟨Nat.le_of_ble_eq_true rfl, Nat.le_of_ble_eq_true rfl⟩ hP hK hl.1 (Nat.le_of_ble_eq_true rfl) ⟨Nat.le_of_ble_eq_true rfl, Nat.le_of_ble_eq_true rfl⟩ dX8_variable_6 ?_
  refine lv_if_eq (tgt := 25) hx hb dX8_variable_9 (by decide) (fun c => absurd c (by decide)) (fun _ => ?_)
  refine lv_iload_n hx hb dX8_variable_12 rfl (lv_at hl 3 rfl) ?_
  refine lv_iload hx hb dX8_variable_13 (lv_at hl 4 rfl) ?_
  refine rdS (As := [.int 3, .int x4]) S (c_X8_isSizeOf_9 l D cI cZ cJ o u x4 hi_x4) ms_X8_isSizeOf kw_5_236 ⟨rfl, rfl⟩ ⟨Nat.le_of_ble_eq_true rfl, Nat.le_of_ble_eq_true rfl⟩ hP hK hl.1 (Nat.le_of_ble_eq_true rfl) ⟨Nat.le_of_ble_eq_true rfl, Nat.le_of_ble_eq_true rfl⟩ dX8_variable_15 ?_
  refine lv_if_eq (tgt := 25) hx hb dX8_variable_18 (by decide) (fun _ => ?_) (fun c => absurd c (by decide))
  refine lv_iconst (v := 0) hx hb dX8_variable_25 (by decide) ?_
  exact tSv (As := [.int 0]) S (c_X8_needArgument_0 l D cI cZ cJ o u hst ra ga H.size) ms_X8_needArgument kw_4_4 rfl rfl ⟨Nat.le_of_ble_eq_true rfl, Nat.le_of_ble_eq_true rfl⟩ hP hD hK hS hA hB hl.1 (Nat.le_of_ble_eq_true rfl) ⟨Nat.le_of_ble_eq_true rfl, Nat.le_of_ble_eq_true rfl⟩ dX8_variable_26 hnt hlocks (Nat.le_of_ble_eq_true rfl) (Nat.le_of_ble_eq_true rfl)

set_option maxHeartbeats 8000000 in
set_option maxRecDepth 100000 in
theorem c_X8_variable_14 (l : Launch) (D : va_G) (cI cZ cJ : ClassId) (o : Nat) (u : Nat → Nat) (hst : l.stackTraces = false) (ra ga : Nat → Nat) (sz : Nat) (x2 : Int32) (x4 : Int32) (lo_x2 : 0 ≤ x2) (hi_x2 : x2 ≤ 15) (lo_x4 : 100 ≤ x4) : vx_Met l yX8_variable (uW yX8_variable cX8_variable 5 (some .int)) ({ frames := 7, cells := 1, slots := 6, locals := 102 }) (va_Pc [.ref o, .int 0, .int x2, .int 3, .int x4] (aS ra ga D (tyL cI cZ cJ) (xW o u cI cZ cJ) sz)) (nQi (va_A (xW o u cI cZ cJ) sz)) (wX "java/lang/IllegalArgumentException" D (xW o u cI cZ cJ) (va_A (xW o u cI cZ cJ) sz)) 1 6 (va_A (xW o u cI cZ cJ) sz) := by
  refine xStart (lv := [(0, .ref o), (1, .int 0), (2, .int x2), (3, .int 3), (4, .int x4)]) (Qc := fun A => nQi A) (XC := fun A => wX "java/lang/IllegalArgumentException" D (xW o u cI cZ cJ) A) (by decide) (Nat.le_of_ble_eq_true rfl) rfl ?_
  intro p e s m args below meth c ls A H S hr hlocks hnm hl hK hP hD hS hA hB hnt
  have hx := S.1
  have hb := S.2.1
  refine lv_aload_n hx hb dX8_variable_0 rfl (lv_at hl 0 rfl) ?_
  refine lv_iload_n hx hb dX8_variable_1 rfl (lv_at hl 1 rfl) ?_
  refine aVv (As := [.int 0]) (ci := 8) S (c_X8_needProcedure_2 l D cI cZ cJ o u ra ga H.size) mi_X8_needProcedure kw_4_166 rfl rfl ⟨Nat.le_of_ble_eq_true rfl, Nat.le_of_ble_eq_true rfl⟩ hP hD hK hS hA hB xW_0 rfl rfl hl.1 (Nat.le_of_ble_eq_true rfl) ⟨Nat.le_of_ble_eq_true rfl, Nat.le_of_ble_eq_true rfl⟩ dX8_variable_2 (fun H locs hz hP hD hS => ?_)
  refine lv_iload_n hx hb dX8_variable_5 rfl (lv_at hl 2 rfl) ?_
  refine rdS (As := [.int x2]) S (c_X8_isName_2 l D cI cZ cJ o u x2 lo_x2 hi_x2) ms_X8_isName kw_4_198 ⟨rfl, rfl⟩ ⟨Nat.le_of_ble_eq_true rfl, Nat.le_of_ble_eq_true rfl⟩ hP hK hl.1 (Nat.le_of_ble_eq_true rfl) ⟨Nat.le_of_ble_eq_true rfl, Nat.le_of_ble_eq_true rfl⟩ dX8_variable_6 ?_
  refine lv_if_eq (tgt := 25) hx hb dX8_variable_9 (by decide) (fun c => absurd c (by decide)) (fun _ => ?_)
  refine lv_iload_n hx hb dX8_variable_12 rfl (lv_at hl 3 rfl) ?_
  refine lv_iload hx hb dX8_variable_13 (lv_at hl 4 rfl) ?_
  refine rdS (As := [.int 3, .int x4]) S (c_X8_isSizeOf_10 l D cI cZ cJ o u x4 lo_x4) ms_X8_isSizeOf kw_5_236 ⟨rfl, rfl⟩ ⟨Nat.le_of_ble_eq_true rfl, Nat.le_of_ble_eq_true rfl⟩ hP hK hl.1 (Nat.le_of_ble_eq_true rfl) ⟨Nat.le_of_ble_eq_true rfl, Nat.le_of_ble_eq_true rfl⟩ dX8_variable_15 ?_
  refine lv_if_eq (tgt := 25) hx hb dX8_variable_18 (by decide) (fun _ => ?_) (fun c => absurd c (by decide))
  refine lv_iconst (v := 0) hx hb dX8_variable_25 (by decide) ?_
  exact tSv (As := [.int 0]) S (c_X8_needArgument_0 l D cI cZ cJ o u hst ra ga H.size) ms_X8_needArgument kw_4_4 rfl rfl ⟨Nat.le_of_ble_eq_true rfl, Nat.le_of_ble_eq_true rfl⟩ hP hD hK hS hA hB hl.1 (Nat.le_of_ble_eq_true rfl) ⟨Nat.le_of_ble_eq_true rfl, Nat.le_of_ble_eq_true rfl⟩ dX8_variable_26 hnt hlocks (Nat.le_of_ble_eq_true rfl) (Nat.le_of_ble_eq_true rfl)

set_option maxHeartbeats 8000000 in
set_option maxRecDepth 100000 in
theorem c_X8_variable_15 (l : Launch) (D : va_G) (cI cZ cJ : ClassId) (o : Nat) (u : Nat → Nat) (ra ga : Nat → Nat) (sz : Nat) (x2 : Int32) (x4 : Int32) (lo_x2 : 0 ≤ x2) (hi_x2 : x2 ≤ 15) (lo_x4 : (-99) ≤ x4) (hi_x4 : x4 ≤ 99) : Met l yX8_variable (uW yX8_variable cX8_variable 5 (some .int)) ({ frames := 2, cells := 0, slots := 0, locals := 49 }) (va_Pc [.ref o, .int 0, .int x2, .int 3, .int x4] (aS ra ga D (tyL cI cZ cJ) (xW o u cI cZ cJ) sz)) (wQi ((-1)) D (((((xW o u cI cZ cJ).set 5 ((u 4), .inl (cI, 10, .inl (upd (fun _ => 0) (0 : Int32).toNatClampNeg 1)))).set 8 ((u 7), .inl (cI, 160, .inl (upd (fun _ => (-1)) (x2 : Int32).toNatClampNeg 9)))).set 9 ((u 8), .inl (cI, 160, .inl (upd (fun _ => 0) (x2 : Int32).toNatClampNeg (-1))))).set 10 ((u 9), .inl (cI, 160, .inl (upd (fun _ => 0) (x2 : Int32).toNatClampNeg x4)))) (va_A (xW o u cI cZ cJ) sz)) 0 0 (va_A (xW o u cI cZ cJ) sz) := by
  refine aStart (lv := [(0, .ref o), (1, .int 0), (2, .int x2), (3, .int 3), (4, .int x4)]) (Qc := fun A => wQi ((-1)) D (((((xW o u cI cZ cJ).set 5 ((u 4), .inl (cI, 10, .inl (upd (fun _ => 0) (0 : Int32).toNatClampNeg 1)))).set 8 ((u 7), .inl (cI, 160, .inl (upd (fun _ => (-1)) (x2 : Int32).toNatClampNeg 9)))).set 9 ((u 8), .inl (cI, 160, .inl (upd (fun _ => 0) (x2 : Int32).toNatClampNeg (-1))))).set 10 ((u 9), .inl (cI, 160, .inl (upd (fun _ => 0) (x2 : Int32).toNatClampNeg x4)))) A) (by decide) (Nat.le_of_ble_eq_true rfl) rfl ?_
  intro p e s m args below meth c ls A H S hr hlocks hnm hl hK hP hD hS hA hB
  have hx := S.1
  have hb := S.2.1
  refine lv_aload_n hx hb dX8_variable_0 rfl (lv_at hl 0 rfl) ?_
  refine lv_iload_n hx hb dX8_variable_1 rfl (lv_at hl 1 rfl) ?_
  refine aVv (As := [.int 0]) (ci := 8) S (c_X8_needProcedure_2 l D cI cZ cJ o u ra ga H.size) mi_X8_needProcedure kw_4_166 rfl rfl ⟨Nat.le_of_ble_eq_true rfl, Nat.le_of_ble_eq_true rfl⟩ hP hD hK hS hA hB xW_0 rfl rfl hl.1 (Nat.le_of_ble_eq_true rfl) ⟨Nat.le_of_ble_eq_true rfl, Nat.le_of_ble_eq_true rfl⟩ dX8_variable_2 (fun H locs hz hP hD hS => ?_)
  refine lv_iload_n hx hb dX8_variable_5 rfl (lv_at hl 2 rfl) ?_
  refine rdS (As := [.int x2]) S (c_X8_isName_2 l D cI cZ cJ o u x2 lo_x2 hi_x2) ms_X8_isName kw_4_198 ⟨rfl, rfl⟩ ⟨Nat.le_of_ble_eq_true rfl, Nat.le_of_ble_eq_true rfl⟩ hP hK hl.1 (Nat.le_of_ble_eq_true rfl) ⟨Nat.le_of_ble_eq_true rfl, Nat.le_of_ble_eq_true rfl⟩ dX8_variable_6 ?_
  refine lv_if_eq (tgt := 25) hx hb dX8_variable_9 (by decide) (fun c => absurd c (by decide)) (fun _ => ?_)
  refine lv_iload_n hx hb dX8_variable_12 rfl (lv_at hl 3 rfl) ?_
  refine lv_iload hx hb dX8_variable_13 (lv_at hl 4 rfl) ?_
  refine rdS (As := [.int 3, .int x4]) S (c_X8_isSizeOf_11 l D cI cZ cJ o u x4 lo_x4 hi_x4) ms_X8_isSizeOf kw_5_236 ⟨rfl, rfl⟩ ⟨Nat.le_of_ble_eq_true rfl, Nat.le_of_ble_eq_true rfl⟩ hP hK hl.1 (Nat.le_of_ble_eq_true rfl) ⟨Nat.le_of_ble_eq_true rfl, Nat.le_of_ble_eq_true rfl⟩ dX8_variable_15 ?_
  refine lv_if_eq (tgt := 25) hx hb dX8_variable_18 (by decide) (fun c => absurd c (by decide)) (fun _ => ?_)
  refine lv_iconst (v := 1) hx hb dX8_variable_21 (by decide) ?_
  refine lv_goto (tgt := 26) hx hb dX8_variable_22 (by decide) ?_
  refine aSv (As := [.int 1]) S (c_X8_needArgument_1 l D cI cZ cJ o u ra ga H.size) ms_X8_needArgument kw_4_4 rfl rfl ⟨Nat.le_of_ble_eq_true rfl, Nat.le_of_ble_eq_true rfl⟩ hP hD hK hS hA hB hl.1 (Nat.le_of_ble_eq_true rfl) ⟨Nat.le_of_ble_eq_true rfl, Nat.le_of_ble_eq_true rfl⟩ dX8_variable_26 (fun H locs hz hP hD hS => ?_)
  refine lv_aload_n hx hb dX8_variable_29 rfl (lv_at hl 0 rfl) ?_
  refine xg (ci := 8) S inX8 rfl hK hP xW_0 0 (by decide) rfl kw_3_20 rfl dX8_variable_30 ?_
  refine lv_iload_n hx hb dX8_variable_33 rfl (lv_at hl 1 rfl) ?_
  refine lv_iload_n hx hb dX8_variable_34 rfl (lv_at hl 2 rfl) ?_
  refine rdV (As := [.int 0, .int x2]) (ci := 1) S (c_X1_takesVariable_0 l D cI cZ cJ o u x2 lo_x2 hi_x2) mi_X1_takesVariable kw_5_239 ⟨rfl, rfl⟩ ⟨Nat.le_of_ble_eq_true rfl, Nat.le_of_ble_eq_true rfl⟩ hP hK xW_1 rfl rfl hl.1 (Nat.le_of_ble_eq_true rfl) ⟨Nat.le_of_ble_eq_true rfl, Nat.le_of_ble_eq_true rfl⟩ dX8_variable_35 ?_
  refine aSv (As := [.int 1]) S (c_X8_needState_0 l D cI cZ cJ o u ra ga H.size) ms_X8_needState kw_5_183 rfl rfl ⟨Nat.le_of_ble_eq_true rfl, Nat.le_of_ble_eq_true rfl⟩ hP hD hK hS hA hB hl.1 (Nat.le_of_ble_eq_true rfl) ⟨Nat.le_of_ble_eq_true rfl, Nat.le_of_ble_eq_true rfl⟩ dX8_variable_38 (fun H locs hz hP hD hS => ?_)
  refine lv_aload_n hx hb dX8_variable_41 rfl (lv_at hl 0 rfl) ?_
  refine lv_iconst (v := 1) hx hb dX8_variable_42 (by decide) ?_
  refine xp (ci := 8) (v := .int 1) S inX8 tyX8 tyX8_ok nmX8 rfl hK hP hD hS xW_0 9 (by decide) kw_3_29 rfl rfl rfl rfl (Nat.le_of_ble_eq_true rfl) dX8_variable_43 (fun H locs hP hD hS => ?_)
  have hP : va_P D vwCl (xW o u cI cZ cJ) H := hP
  have hD : va_D A (xW o u cI cZ cJ) := hD
  refine lv_aload_n hx hb dX8_variable_46 rfl (lv_at hl 0 rfl) ?_
  refine xg (ci := 8) S inX8 rfl hK hP xW_0 0 (by decide) rfl kw_3_20 rfl dX8_variable_47 ?_
  refine lv_iload_n hx hb dX8_variable_50 rfl (lv_at hl 1 rfl) ?_
  refine lv_iload_n hx hb dX8_variable_51 rfl (lv_at hl 2 rfl) ?_
  refine lv_iload_n hx hb dX8_variable_52 rfl (lv_at hl 3 rfl) ?_
  refine lv_bipush (v := 6) hx hb dX8_variable_53 (by decide) ?_
  refine xiadd (v := 9) S dX8_variable_55 (by decide) ?_
  refine lv_iload hx hb dX8_variable_56 (lv_at hl 4 rfl) ?_
  refine aVi (As := [.int 0, .int x2, .int 9, .int x4]) (ci := 1) S (c_X1_addVariable_3 l D cI cZ cJ o u ra ga H.size x2 x4 lo_x2 hi_x2 lo_x4 hi_x4) mi_X1_addVariable kw_6_3 rfl rfl ⟨Nat.le_of_ble_eq_true rfl, Nat.le_of_ble_eq_true rfl⟩ hP hD hK hS hA hB xW_1 rfl rfl hl.1 (Nat.le_of_ble_eq_true rfl) ⟨Nat.le_of_ble_eq_true rfl, Nat.le_of_ble_eq_true rfl⟩ dX8_variable_58 (fun H locs hz hP hD hS => ?_)
  exact wEnd S hr hlocks hP hD hS (Nat.le_of_ble_eq_true rfl) (Nat.le_of_ble_eq_true rfl) dX8_variable_61 rfl

set_option maxHeartbeats 8000000 in
set_option maxRecDepth 100000 in
theorem h_variable_0 (l : Launch) (D : va_G) (cI cZ cJ : ClassId) (o : Nat) (u : Nat → Nat) (ao : Nat) (hst : l.stackTraces = false) (ra ga : Nat → Nat) (sz : Nat) (x1 : Int32) (x2 : Int32) (x3 : Int32) (x4 : Int32) (hi_x1 : x1 ≤ (-1)) : vx_Met l yL_variable (uWh yL_variable cL_variable 7 (some .int) [(0, 14, 17, 13), (0, 14, 21, 15), (0, 14, 25, 17)]) ({ frames := 8, cells := 1, slots := 6, locals := 127 }) (va_Pc [.ref o, .int x1, .int x2, .int x3, .int x4, .ref ao] (lS ra ga D (tyL cI cZ cJ) ((xW o u cI cZ cJ) ++ [(ao, .inl (cJ, 1, .inr (.inl (fun _ => 0))))]) sz)) (wQi (1) D ((xW o u cI cZ cJ) ++ [(ao, .inl (cJ, 1, .inr (.inl (fun _ => 0))))]) (va_A ((xW o u cI cZ cJ) ++ [(ao, .inl (cJ, 1, .inr (.inl (fun _ => 0))))]) sz)) (xN (va_A ((xW o u cI cZ cJ) ++ [(ao, .inl (cJ, 1, .inr (.inl (fun _ => 0))))]) sz)) 1 6 (va_A ((xW o u cI cZ cJ) ++ [(ao, .inl (cJ, 1, .inr (.inl (fun _ => 0))))]) sz) := by
  refine hStart (l := l) (y := yL_variable) (b := cL_variable) (n := 7) (r := (some .int)) (hh := [(0, 14, 17, 13), (0, 14, 21, 15), (0, 14, 25, 17)]) (rm := ({ frames := 8, cells := 1, slots := 6, locals := 127 })) (mc := 1) (ms := 6) (ra := ra) (ga := ga) (D := D) (tys := tyL cI cZ cJ) (ws := ((xW o u cI cZ cJ) ++ [(ao, .inl (cJ, 1, .inr (.inl (fun _ => 0))))])) (av := [.ref o, .int x1, .int x2, .int x3, .int x4, .ref ao]) (sz := sz) (lv := [(0, .ref o), (1, .int x1), (2, .int x2), (3, .int x3), (4, .int x4), (5, .ref ao)]) (Qc := fun A => wQi (1) D ((xW o u cI cZ cJ) ++ [(ao, .inl (cJ, 1, .inr (.inl (fun _ => 0))))]) A) (by decide) (Nat.le_of_ble_eq_true rfl) rfl ?_
  intro p e s m args below meth c ls A H S hr hlocks htab hl hK hP hD hS hA hB hC
  have hx := S.1
  have hb := S.2.1
  refine lv_aload hx hb dL_variable_0 (lv_at hl 5 rfl) ?_
  refine lv_iconst (v := 0) hx hb dL_variable_2 (by decide) ?_
  refine lv_aload_n hx hb dL_variable_3 rfl (lv_at hl 0 rfl) ?_
  refine lv_iload_n hx hb dL_variable_4 rfl (lv_at hl 1 rfl) ?_
  refine lv_iload_n hx hb dL_variable_5 rfl (lv_at hl 2 rfl) ?_
  refine lv_iload_n hx hb dL_variable_6 rfl (lv_at hl 3 rfl) ?_
  refine lv_iload hx hb dL_variable_7 (lv_at hl 4 rfl) ?_
  refine cVi [] [(ao, .inl (cJ, 1, .inr (.inl (fun _ => 0))))] (As := [.int x1, .int x2, .int x3, .int x4]) (ci := 8) S (c_X8_variable_0 l D cI cZ cJ o u hst ra ga H.size x1 x2 x3 x4 hi_x1) mi_X8_variable kw_5_232 rfl rfl ⟨Nat.le_of_ble_eq_true rfl, Nat.le_of_ble_eq_true rfl⟩ hP hD hK hS hA hB xW_0 rfl rfl hl.1 (Nat.le_of_ble_eq_true rfl) ⟨Nat.le_of_ble_eq_true rfl, Nat.le_of_ble_eq_true rfl⟩ dL_variable_9 (fun ce q9 H locs hz hP hD hS hce hcv hcl => ?_)
  refine vx_catch (name := "java/lang/IndexOutOfBoundsException") S.2.2.2.1 [] (⟨0, 14, 17, 13⟩ : ExceptionTableEntry) [(⟨0, 14, 21, 15⟩ : ExceptionTableEntry), (⟨0, 14, 25, 17⟩ : ExceptionTableEntry)] (htab.trans rfl) (fun _ h => absurd h List.not_mem_nil) (by decide) (by decide) (S.2.2.2.2 _ kw_5_176) (va_Nw.use rfl hB.c0) hce hcv hcl ?_
  have hP : va_P D vwCl ((xW o u cI cZ cJ) ++ [(ao, .inl (cJ, 1, .inr (.inl (fun _ => 0))))]) H := hP
  have hD : va_D A ((xW o u cI cZ cJ) ++ [(ao, .inl (cJ, 1, .inr (.inl (fun _ => 0))))]) := hD
  refine lv_astore (lv' := [(6, .ref q9), (0, .ref o), (1, .int x1), (2, .int x2), (3, .int x3), (4, .int x4), (5, .ref ao)]) hx hb dL_variable_17 hl (by decide) rfl (fun ls hl => ?_)
  refine lv_iconst (v := 1) hx hb dL_variable_19 (by decide) ?_
  exact vx_ret (wEnd S hr hlocks hP hD hS (Nat.le_of_ble_eq_true rfl) (Nat.le_of_ble_eq_true rfl) dL_variable_20 rfl)

set_option maxHeartbeats 8000000 in
set_option maxRecDepth 100000 in
theorem c_X9_variable_0 (l : Launch) (D : va_G) (cI cZ cJ : ClassId) (o : Nat) (q : Nat → Nat) (sz : Nat) (x1 : Int32) (x2 : Int32) (x3 : Int32) (x4 : Int32) (hi_x1 : x1 ≤ (-1)) : Met l yX9_variable (uW yX9_variable cX9_variable 6 (some .int)) ({ frames := 2, cells := 0, slots := 0, locals := 43 }) (va_Pc [.ref o, .int x1, .int x2, .int x3, .int x4] (wS D (tyL cI cZ cJ) (mW o 0 q cI cZ) sz)) (wQi (0) D (mW o 1 q cI cZ) (va_A (mW o 0 q cI cZ) sz)) 0 0 (va_A (mW o 0 q cI cZ) sz) := by
  refine wStart (lv := [(0, .ref o), (1, .int x1), (2, .int x2), (3, .int x3), (4, .int x4)]) (Qc := fun A => wQi (0) D (mW o 1 q cI cZ) A) (by decide) (Nat.le_of_ble_eq_true rfl) rfl ?_
  intro p e s m args below meth c ls A H S hr hlocks hnm hl hK hP hD hS hA
  have hx := S.1
  have hb := S.2.1
  refine lv_aload_n hx hb dX9_variable_0 rfl (lv_at hl 0 rfl) ?_
  refine lv_iconst (v := 0) hx hb dX9_variable_1 (by decide) ?_
  refine xp (ci := 9) (v := .int 0) S inX9 tyX9 tyX9_ok nmX9 rfl hK hP hD hS mW_0 0 (by decide) kw_6_148 rfl rfl rfl rfl (Nat.le_of_ble_eq_true rfl) dX9_variable_2 (fun H locs hP hD hS => ?_)
  have hP : va_P D vwCl (mW o 0 q cI cZ) H := hP
  have hD : va_D A (mW o 0 q cI cZ) := hD
  refine lv_aload_n hx hb dX9_variable_5 rfl (lv_at hl 0 rfl) ?_
  refine lv_iload_n hx hb dX9_variable_6 rfl (lv_at hl 1 rfl) ?_
  refine rdV (As := [.int x1]) (ci := 9) S (c_X9_isProcedure_0 l D cI cZ cJ o q x1 hi_x1) mi_X9_isProcedure kw_7_97 ⟨rfl, rfl⟩ ⟨Nat.le_of_ble_eq_true rfl, Nat.le_of_ble_eq_true rfl⟩ hP hK mW_0 rfl rfl hl.1 (Nat.le_of_ble_eq_true rfl) ⟨Nat.le_of_ble_eq_true rfl, Nat.le_of_ble_eq_true rfl⟩ dX9_variable_7 ?_
  refine lv_if_ne (tgt := 19) hx hb dX9_variable_10 (by decide) (fun c => absurd c (by decide)) (fun _ => ?_)
  refine lv_aload_n hx hb dX9_variable_13 rfl (lv_at hl 0 rfl) ?_
  refine lv_iconst (v := 1) hx hb dX9_variable_14 (by decide) ?_
  refine wrV (As := [.int 1]) (ci := 9) S (c_X9_no_0 l D cI cZ cJ o q H.size) mi_X9_no kw_7_104 rfl rfl ⟨Nat.le_of_ble_eq_true rfl, Nat.le_of_ble_eq_true rfl⟩ hP hD hK hS hA mW_0 rfl rfl hl.1 (Nat.le_of_ble_eq_true rfl) ⟨Nat.le_of_ble_eq_true rfl, Nat.le_of_ble_eq_true rfl⟩ dX9_variable_15 (fun H locs hz hP hD hS => ?_)
  exact wEnd S hr hlocks hP hD hS (Nat.le_of_ble_eq_true rfl) (Nat.le_of_ble_eq_true rfl) dX9_variable_18 rfl

set_option maxHeartbeats 8000000 in
set_option maxRecDepth 100000 in
theorem h_variable_1 (l : Launch) (D : va_G) (cI cZ cJ : ClassId) (o : Nat) (u : Nat → Nat) (ao : Nat) (hst : l.stackTraces = false) (ra ga : Nat → Nat) (sz : Nat) (x1 : Int32) (x2 : Int32) (x3 : Int32) (x4 : Int32) (lo_x1 : 1 ≤ x1) : vx_Met l yL_variable (uWh yL_variable cL_variable 7 (some .int) [(0, 14, 17, 13), (0, 14, 21, 15), (0, 14, 25, 17)]) ({ frames := 8, cells := 1, slots := 6, locals := 127 }) (va_Pc [.ref o, .int x1, .int x2, .int x3, .int x4, .ref ao] (lS ra ga D (tyL cI cZ cJ) ((xW o u cI cZ cJ) ++ [(ao, .inl (cJ, 1, .inr (.inl (fun _ => 0))))]) sz)) (wQi (1) D ((xW o u cI cZ cJ) ++ [(ao, .inl (cJ, 1, .inr (.inl (fun _ => 0))))]) (va_A ((xW o u cI cZ cJ) ++ [(ao, .inl (cJ, 1, .inr (.inl (fun _ => 0))))]) sz)) (xN (va_A ((xW o u cI cZ cJ) ++ [(ao, .inl (cJ, 1, .inr (.inl (fun _ => 0))))]) sz)) 1 6 (va_A ((xW o u cI cZ cJ) ++ [(ao, .inl (cJ, 1, .inr (.inl (fun _ => 0))))]) sz) := by
  refine hStart (l := l) (y := yL_variable) (b := cL_variable) (n := 7) (r := (some .int)) (hh := [(0, 14, 17, 13), (0, 14, 21, 15), (0, 14, 25, 17)]) (rm := ({ frames := 8, cells := 1, slots := 6, locals := 127 })) (mc := 1) (ms := 6) (ra := ra) (ga := ga) (D := D) (tys := tyL cI cZ cJ) (ws := ((xW o u cI cZ cJ) ++ [(ao, .inl (cJ, 1, .inr (.inl (fun _ => 0))))])) (av := [.ref o, .int x1, .int x2, .int x3, .int x4, .ref ao]) (sz := sz) (lv := [(0, .ref o), (1, .int x1), (2, .int x2), (3, .int x3), (4, .int x4), (5, .ref ao)]) (Qc := fun A => wQi (1) D ((xW o u cI cZ cJ) ++ [(ao, .inl (cJ, 1, .inr (.inl (fun _ => 0))))]) A) (by decide) (Nat.le_of_ble_eq_true rfl) rfl ?_
  intro p e s m args below meth c ls A H S hr hlocks htab hl hK hP hD hS hA hB hC
  have hx := S.1
  have hb := S.2.1
  refine lv_aload hx hb dL_variable_0 (lv_at hl 5 rfl) ?_
  refine lv_iconst (v := 0) hx hb dL_variable_2 (by decide) ?_
  refine lv_aload_n hx hb dL_variable_3 rfl (lv_at hl 0 rfl) ?_
  refine lv_iload_n hx hb dL_variable_4 rfl (lv_at hl 1 rfl) ?_
  refine lv_iload_n hx hb dL_variable_5 rfl (lv_at hl 2 rfl) ?_
  refine lv_iload_n hx hb dL_variable_6 rfl (lv_at hl 3 rfl) ?_
  refine lv_iload hx hb dL_variable_7 (lv_at hl 4 rfl) ?_
  refine cVi [] [(ao, .inl (cJ, 1, .inr (.inl (fun _ => 0))))] (As := [.int x1, .int x2, .int x3, .int x4]) (ci := 8) S (c_X8_variable_1 l D cI cZ cJ o u hst ra ga H.size x1 x2 x3 x4 lo_x1) mi_X8_variable kw_5_232 rfl rfl ⟨Nat.le_of_ble_eq_true rfl, Nat.le_of_ble_eq_true rfl⟩ hP hD hK hS hA hB xW_0 rfl rfl hl.1 (Nat.le_of_ble_eq_true rfl) ⟨Nat.le_of_ble_eq_true rfl, Nat.le_of_ble_eq_true rfl⟩ dL_variable_9 (fun ce q9 H locs hz hP hD hS hce hcv hcl => ?_)
  refine vx_catch (name := "java/lang/IndexOutOfBoundsException") S.2.2.2.1 [] (⟨0, 14, 17, 13⟩ : ExceptionTableEntry) [(⟨0, 14, 21, 15⟩ : ExceptionTableEntry), (⟨0, 14, 25, 17⟩ : ExceptionTableEntry)] (htab.trans rfl) (fun _ h => absurd h List.not_mem_nil) (by decide) (by decide) (S.2.2.2.2 _ kw_5_176) (va_Nw.use rfl hB.c0) hce hcv hcl ?_
  have hP : va_P D vwCl ((xW o u cI cZ cJ) ++ [(ao, .inl (cJ, 1, .inr (.inl (fun _ => 0))))]) H := hP
  have hD : va_D A ((xW o u cI cZ cJ) ++ [(ao, .inl (cJ, 1, .inr (.inl (fun _ => 0))))]) := hD
  refine lv_astore (lv' := [(6, .ref q9), (0, .ref o), (1, .int x1), (2, .int x2), (3, .int x3), (4, .int x4), (5, .ref ao)]) hx hb dL_variable_17 hl (by decide) rfl (fun ls hl => ?_)
  refine lv_iconst (v := 1) hx hb dL_variable_19 (by decide) ?_
  exact vx_ret (wEnd S hr hlocks hP hD hS (Nat.le_of_ble_eq_true rfl) (Nat.le_of_ble_eq_true rfl) dL_variable_20 rfl)

set_option maxHeartbeats 8000000 in
set_option maxRecDepth 100000 in
theorem c_X9_variable_1 (l : Launch) (D : va_G) (cI cZ cJ : ClassId) (o : Nat) (q : Nat → Nat) (sz : Nat) (x1 : Int32) (x2 : Int32) (x3 : Int32) (x4 : Int32) (lo_x1 : 1 ≤ x1) : Met l yX9_variable (uW yX9_variable cX9_variable 6 (some .int)) ({ frames := 2, cells := 0, slots := 0, locals := 43 }) (va_Pc [.ref o, .int x1, .int x2, .int x3, .int x4] (wS D (tyL cI cZ cJ) (mW o 0 q cI cZ) sz)) (wQi (0) D (mW o 1 q cI cZ) (va_A (mW o 0 q cI cZ) sz)) 0 0 (va_A (mW o 0 q cI cZ) sz) := by
  refine wStart (lv := [(0, .ref o), (1, .int x1), (2, .int x2), (3, .int x3), (4, .int x4)]) (Qc := fun A => wQi (0) D (mW o 1 q cI cZ) A) (by decide) (Nat.le_of_ble_eq_true rfl) rfl ?_
  intro p e s m args below meth c ls A H S hr hlocks hnm hl hK hP hD hS hA
  have hx := S.1
  have hb := S.2.1
  refine lv_aload_n hx hb dX9_variable_0 rfl (lv_at hl 0 rfl) ?_
  refine lv_iconst (v := 0) hx hb dX9_variable_1 (by decide) ?_
  refine xp (ci := 9) (v := .int 0) S inX9 tyX9 tyX9_ok nmX9 rfl hK hP hD hS mW_0 0 (by decide) kw_6_148 rfl rfl rfl rfl (Nat.le_of_ble_eq_true rfl) dX9_variable_2 (fun H locs hP hD hS => ?_)
  have hP : va_P D vwCl (mW o 0 q cI cZ) H := hP
  have hD : va_D A (mW o 0 q cI cZ) := hD
  refine lv_aload_n hx hb dX9_variable_5 rfl (lv_at hl 0 rfl) ?_
  refine lv_iload_n hx hb dX9_variable_6 rfl (lv_at hl 1 rfl) ?_
  refine rdV (As := [.int x1]) (ci := 9) S (c_X9_isProcedure_1 l D cI cZ cJ o q x1 lo_x1) mi_X9_isProcedure kw_7_97 ⟨rfl, rfl⟩ ⟨Nat.le_of_ble_eq_true rfl, Nat.le_of_ble_eq_true rfl⟩ hP hK mW_0 rfl rfl hl.1 (Nat.le_of_ble_eq_true rfl) ⟨Nat.le_of_ble_eq_true rfl, Nat.le_of_ble_eq_true rfl⟩ dX9_variable_7 ?_
  refine lv_if_ne (tgt := 19) hx hb dX9_variable_10 (by decide) (fun c => absurd c (by decide)) (fun _ => ?_)
  refine lv_aload_n hx hb dX9_variable_13 rfl (lv_at hl 0 rfl) ?_
  refine lv_iconst (v := 1) hx hb dX9_variable_14 (by decide) ?_
  refine wrV (As := [.int 1]) (ci := 9) S (c_X9_no_0 l D cI cZ cJ o q H.size) mi_X9_no kw_7_104 rfl rfl ⟨Nat.le_of_ble_eq_true rfl, Nat.le_of_ble_eq_true rfl⟩ hP hD hK hS hA mW_0 rfl rfl hl.1 (Nat.le_of_ble_eq_true rfl) ⟨Nat.le_of_ble_eq_true rfl, Nat.le_of_ble_eq_true rfl⟩ dX9_variable_15 (fun H locs hz hP hD hS => ?_)
  exact wEnd S hr hlocks hP hD hS (Nat.le_of_ble_eq_true rfl) (Nat.le_of_ble_eq_true rfl) dX9_variable_18 rfl

set_option maxHeartbeats 8000000 in
set_option maxRecDepth 100000 in
theorem h_variable_2 (l : Launch) (D : va_G) (cI cZ cJ : ClassId) (o : Nat) (u : Nat → Nat) (ao : Nat) (hst : l.stackTraces = false) (ra ga : Nat → Nat) (sz : Nat) (x2 : Int32) (x3 : Int32) (x4 : Int32) (hi_x2 : x2 ≤ (-1)) : vx_Met l yL_variable (uWh yL_variable cL_variable 7 (some .int) [(0, 14, 17, 13), (0, 14, 21, 15), (0, 14, 25, 17)]) ({ frames := 8, cells := 1, slots := 6, locals := 126 }) (va_Pc [.ref o, .int 0, .int x2, .int x3, .int x4, .ref ao] (lS ra ga D (tyL cI cZ cJ) ((xW o u cI cZ cJ) ++ [(ao, .inl (cJ, 1, .inr (.inl (fun _ => 0))))]) sz)) (wQi (2) D ((xW o u cI cZ cJ) ++ [(ao, .inl (cJ, 1, .inr (.inl (fun _ => 0))))]) (va_A ((xW o u cI cZ cJ) ++ [(ao, .inl (cJ, 1, .inr (.inl (fun _ => 0))))]) sz)) (xN (va_A ((xW o u cI cZ cJ) ++ [(ao, .inl (cJ, 1, .inr (.inl (fun _ => 0))))]) sz)) 1 6 (va_A ((xW o u cI cZ cJ) ++ [(ao, .inl (cJ, 1, .inr (.inl (fun _ => 0))))]) sz) := by
  refine hStart (l := l) (y := yL_variable) (b := cL_variable) (n := 7) (r := (some .int)) (hh := [(0, 14, 17, 13), (0, 14, 21, 15), (0, 14, 25, 17)]) (rm := ({ frames := 8, cells := 1, slots := 6, locals := 126 })) (mc := 1) (ms := 6) (ra := ra) (ga := ga) (D := D) (tys := tyL cI cZ cJ) (ws := ((xW o u cI cZ cJ) ++ [(ao, .inl (cJ, 1, .inr (.inl (fun _ => 0))))])) (av := [.ref o, .int 0, .int x2, .int x3, .int x4, .ref ao]) (sz := sz) (lv := [(0, .ref o), (1, .int 0), (2, .int x2), (3, .int x3), (4, .int x4), (5, .ref ao)]) (Qc := fun A => wQi (2) D ((xW o u cI cZ cJ) ++ [(ao, .inl (cJ, 1, .inr (.inl (fun _ => 0))))]) A) (by decide) (Nat.le_of_ble_eq_true rfl) rfl ?_
  intro p e s m args below meth c ls A H S hr hlocks htab hl hK hP hD hS hA hB hC
  have hx := S.1
  have hb := S.2.1
  refine lv_aload hx hb dL_variable_0 (lv_at hl 5 rfl) ?_
  refine lv_iconst (v := 0) hx hb dL_variable_2 (by decide) ?_
  refine lv_aload_n hx hb dL_variable_3 rfl (lv_at hl 0 rfl) ?_
  refine lv_iload_n hx hb dL_variable_4 rfl (lv_at hl 1 rfl) ?_
  refine lv_iload_n hx hb dL_variable_5 rfl (lv_at hl 2 rfl) ?_
  refine lv_iload_n hx hb dL_variable_6 rfl (lv_at hl 3 rfl) ?_
  refine lv_iload hx hb dL_variable_7 (lv_at hl 4 rfl) ?_
  refine cVi [] [(ao, .inl (cJ, 1, .inr (.inl (fun _ => 0))))] (As := [.int 0, .int x2, .int x3, .int x4]) (ci := 8) S (c_X8_variable_2 l D cI cZ cJ o u hst ra ga H.size x2 x3 x4 hi_x2) mi_X8_variable kw_5_232 rfl rfl ⟨Nat.le_of_ble_eq_true rfl, Nat.le_of_ble_eq_true rfl⟩ hP hD hK hS hA hB xW_0 rfl rfl hl.1 (Nat.le_of_ble_eq_true rfl) ⟨Nat.le_of_ble_eq_true rfl, Nat.le_of_ble_eq_true rfl⟩ dL_variable_9 (fun ce q9 H locs hz hP hD hS hce hcv hcl => ?_)
  refine vx_catch (name := "java/lang/IllegalArgumentException") S.2.2.2.1 [(⟨0, 14, 17, 13⟩ : ExceptionTableEntry)] (⟨0, 14, 21, 15⟩ : ExceptionTableEntry) [(⟨0, 14, 25, 17⟩ : ExceptionTableEntry)] (htab.trans rfl) (List.forall_mem_cons.mpr ⟨Or.inr ⟨by decide, "java/lang/IndexOutOfBoundsException", S.2.2.2.2 _ kw_5_176, hC.1⟩, (fun _ h => absurd h List.not_mem_nil)⟩) (by decide) (by decide) (S.2.2.2.2 _ kw_5_177) (va_Nw.use rfl hB.c1) hce hcv hcl ?_
  have hP : va_P D vwCl ((xW o u cI cZ cJ) ++ [(ao, .inl (cJ, 1, .inr (.inl (fun _ => 0))))]) H := hP
  have hD : va_D A ((xW o u cI cZ cJ) ++ [(ao, .inl (cJ, 1, .inr (.inl (fun _ => 0))))]) := hD
  refine lv_astore (lv' := [(6, .ref q9), (0, .ref o), (1, .int 0), (2, .int x2), (3, .int x3), (4, .int x4), (5, .ref ao)]) hx hb dL_variable_21 hl (by decide) rfl (fun ls hl => ?_)
  refine lv_iconst (v := 2) hx hb dL_variable_23 (by decide) ?_
  exact vx_ret (wEnd S hr hlocks hP hD hS (Nat.le_of_ble_eq_true rfl) (Nat.le_of_ble_eq_true rfl) dL_variable_24 rfl)

set_option maxHeartbeats 8000000 in
set_option maxRecDepth 100000 in
theorem c_X9_isIn_9 (l : Launch) (D : va_G) (cI cZ cJ : ClassId) (o : Nat) (q : Nat → Nat) (x4 : Int32) (hi_x4 : x4 ≤ (-100)) : Met l yX9_isIn (uW yX9_isIn cX9_isIn 3 (some .boolean)) ({ frames := 0, cells := 0, slots := 0, locals := 0 }) (va_Pc [.int x4, .int (-99), .int 99] (pS D (tyL cI cZ cJ) (mW o 0 q cI cZ))) (QcRead (0)) 0 0 (fun _ => False) := by
  refine rdStart (lv := [(0, .int x4), (1, .int (-99)), (2, .int 99)]) (by decide) (Nat.le_of_ble_eq_true rfl) rfl ?_
  intro p e s m args below meth c ls S hr hlocks hl hP hK
  have hx := S.1
  have hb := S.2.1
  refine lv_iload_n hx hb dX9_isIn_0 rfl (lv_at hl 0 rfl) ?_
  refine lv_iload_n hx hb dX9_isIn_1 rfl (lv_at hl 1 rfl) ?_
  refine lv_icmp_lt (tgt := 14) hx hb dX9_isIn_2 (by decide) (fun _ => ?_) (fun c => absurd (b_lt hi_x4 (by decide)) c)
  refine lv_iconst (v := 0) hx hb dX9_isIn_14 (by decide) ?_
  exact rdEndZ S hr hlocks dX9_isIn_15 rfl rfl

set_option maxHeartbeats 8000000 in
set_option maxRecDepth 100000 in
theorem c_X9_isIn_10 (l : Launch) (D : va_G) (cI cZ cJ : ClassId) (o : Nat) (q : Nat → Nat) (x4 : Int32) (lo_x4 : 100 ≤ x4) : Met l yX9_isIn (uW yX9_isIn cX9_isIn 3 (some .boolean)) ({ frames := 0, cells := 0, slots := 0, locals := 0 }) (va_Pc [.int x4, .int (-99), .int 99] (pS D (tyL cI cZ cJ) (mW o 0 q cI cZ))) (QcRead (0)) 0 0 (fun _ => False) := by
  refine rdStart (lv := [(0, .int x4), (1, .int (-99)), (2, .int 99)]) (by decide) (Nat.le_of_ble_eq_true rfl) rfl ?_
  intro p e s m args below meth c ls S hr hlocks hl hP hK
  have hx := S.1
  have hb := S.2.1
  refine lv_iload_n hx hb dX9_isIn_0 rfl (lv_at hl 0 rfl) ?_
  refine lv_iload_n hx hb dX9_isIn_1 rfl (lv_at hl 1 rfl) ?_
  refine lv_icmp_lt (tgt := 14) hx hb dX9_isIn_2 (by decide) (fun c => absurd c (b_nlt lo_x4 (by decide))) (fun _ => ?_)
  refine lv_iload_n hx hb dX9_isIn_5 rfl (lv_at hl 0 rfl) ?_
  refine lv_iload_n hx hb dX9_isIn_6 rfl (lv_at hl 2 rfl) ?_
  refine lv_icmp_gt (tgt := 14) hx hb dX9_isIn_7 (by decide) (fun _ => ?_) (fun c => absurd (b_gt lo_x4 (by decide)) c)
  refine lv_iconst (v := 0) hx hb dX9_isIn_14 (by decide) ?_
  exact rdEndZ S hr hlocks dX9_isIn_15 rfl rfl

set_option maxHeartbeats 8000000 in
set_option maxRecDepth 100000 in
theorem c_X9_isIn_11 (l : Launch) (D : va_G) (cI cZ cJ : ClassId) (o : Nat) (q : Nat → Nat) (x4 : Int32) (lo_x4 : (-99) ≤ x4) (hi_x4 : x4 ≤ 99) : Met l yX9_isIn (uW yX9_isIn cX9_isIn 3 (some .boolean)) ({ frames := 0, cells := 0, slots := 0, locals := 0 }) (va_Pc [.int x4, .int (-99), .int 99] (pS D (tyL cI cZ cJ) (mW o 0 q cI cZ))) (QcRead (1)) 0 0 (fun _ => False) := by
  refine rdStart (lv := [(0, .int x4), (1, .int (-99)), (2, .int 99)]) (by decide) (Nat.le_of_ble_eq_true rfl) rfl ?_
  intro p e s m args below meth c ls S hr hlocks hl hP hK
  have hx := S.1
  have hb := S.2.1
  refine lv_iload_n hx hb dX9_isIn_0 rfl (lv_at hl 0 rfl) ?_
  refine lv_iload_n hx hb dX9_isIn_1 rfl (lv_at hl 1 rfl) ?_
  refine lv_icmp_lt (tgt := 14) hx hb dX9_isIn_2 (by decide) (fun c => absurd c (b_nlt lo_x4 (by decide))) (fun _ => ?_)
  refine lv_iload_n hx hb dX9_isIn_5 rfl (lv_at hl 0 rfl) ?_
  refine lv_iload_n hx hb dX9_isIn_6 rfl (lv_at hl 2 rfl) ?_
  refine lv_icmp_gt (tgt := 14) hx hb dX9_isIn_7 (by decide) (fun c => absurd c (b_ngt hi_x4 (by decide))) (fun _ => ?_)
  refine lv_iconst (v := 1) hx hb dX9_isIn_10 (by decide) ?_
  refine lv_goto (tgt := 15) hx hb dX9_isIn_11 (by decide) ?_
  exact rdEndZ S hr hlocks dX9_isIn_15 rfl rfl

set_option maxHeartbeats 8000000 in
set_option maxRecDepth 100000 in
theorem c_X9_isIn_12 (l : Launch) (D : va_G) (cI cZ cJ : ClassId) (o : Nat) (q : Nat → Nat) (x4 : Int32) (hi_x4 : x4 ≤ 0) : Met l yX9_isIn (uW yX9_isIn cX9_isIn 3 (some .boolean)) ({ frames := 0, cells := 0, slots := 0, locals := 0 }) (va_Pc [.int x4, .int 1, .int 8] (pS D (tyL cI cZ cJ) (mW o 0 q cI cZ))) (QcRead (0)) 0 0 (fun _ => False) := by
  refine rdStart (lv := [(0, .int x4), (1, .int 1), (2, .int 8)]) (by decide) (Nat.le_of_ble_eq_true rfl) rfl ?_
  intro p e s m args below meth c ls S hr hlocks hl hP hK
  have hx := S.1
  have hb := S.2.1
  refine lv_iload_n hx hb dX9_isIn_0 rfl (lv_at hl 0 rfl) ?_
  refine lv_iload_n hx hb dX9_isIn_1 rfl (lv_at hl 1 rfl) ?_
  refine lv_icmp_lt (tgt := 14) hx hb dX9_isIn_2 (by decide) (fun _ => ?_) (fun c => absurd (b_lt hi_x4 (by decide)) c)
  refine lv_iconst (v := 0) hx hb dX9_isIn_14 (by decide) ?_
  exact rdEndZ S hr hlocks dX9_isIn_15 rfl rfl

set_option maxHeartbeats 8000000 in
set_option maxRecDepth 100000 in
theorem c_X9_isIn_13 (l : Launch) (D : va_G) (cI cZ cJ : ClassId) (o : Nat) (q : Nat → Nat) (x4 : Int32) (lo_x4 : 9 ≤ x4) : Met l yX9_isIn (uW yX9_isIn cX9_isIn 3 (some .boolean)) ({ frames := 0, cells := 0, slots := 0, locals := 0 }) (va_Pc [.int x4, .int 1, .int 8] (pS D (tyL cI cZ cJ) (mW o 0 q cI cZ))) (QcRead (0)) 0 0 (fun _ => False) := by
  refine rdStart (lv := [(0, .int x4), (1, .int 1), (2, .int 8)]) (by decide) (Nat.le_of_ble_eq_true rfl) rfl ?_
  intro p e s m args below meth c ls S hr hlocks hl hP hK
  have hx := S.1
  have hb := S.2.1
  refine lv_iload_n hx hb dX9_isIn_0 rfl (lv_at hl 0 rfl) ?_
  refine lv_iload_n hx hb dX9_isIn_1 rfl (lv_at hl 1 rfl) ?_
  refine lv_icmp_lt (tgt := 14) hx hb dX9_isIn_2 (by decide) (fun c => absurd c (b_nlt lo_x4 (by decide))) (fun _ => ?_)
  refine lv_iload_n hx hb dX9_isIn_5 rfl (lv_at hl 0 rfl) ?_
  refine lv_iload_n hx hb dX9_isIn_6 rfl (lv_at hl 2 rfl) ?_
  refine lv_icmp_gt (tgt := 14) hx hb dX9_isIn_7 (by decide) (fun _ => ?_) (fun c => absurd (b_gt lo_x4 (by decide)) c)
  refine lv_iconst (v := 0) hx hb dX9_isIn_14 (by decide) ?_
  exact rdEndZ S hr hlocks dX9_isIn_15 rfl rfl

set_option maxHeartbeats 8000000 in
set_option maxRecDepth 100000 in
theorem c_X9_isIn_14 (l : Launch) (D : va_G) (cI cZ cJ : ClassId) (o : Nat) (q : Nat → Nat) (x4 : Int32) (lo_x4 : 1 ≤ x4) (hi_x4 : x4 ≤ 8) : Met l yX9_isIn (uW yX9_isIn cX9_isIn 3 (some .boolean)) ({ frames := 0, cells := 0, slots := 0, locals := 0 }) (va_Pc [.int x4, .int 1, .int 8] (pS D (tyL cI cZ cJ) (mW o 0 q cI cZ))) (QcRead (1)) 0 0 (fun _ => False) := by
  refine rdStart (lv := [(0, .int x4), (1, .int 1), (2, .int 8)]) (by decide) (Nat.le_of_ble_eq_true rfl) rfl ?_
  intro p e s m args below meth c ls S hr hlocks hl hP hK
  have hx := S.1
  have hb := S.2.1
  refine lv_iload_n hx hb dX9_isIn_0 rfl (lv_at hl 0 rfl) ?_
  refine lv_iload_n hx hb dX9_isIn_1 rfl (lv_at hl 1 rfl) ?_
  refine lv_icmp_lt (tgt := 14) hx hb dX9_isIn_2 (by decide) (fun c => absurd c (b_nlt lo_x4 (by decide))) (fun _ => ?_)
  refine lv_iload_n hx hb dX9_isIn_5 rfl (lv_at hl 0 rfl) ?_
  refine lv_iload_n hx hb dX9_isIn_6 rfl (lv_at hl 2 rfl) ?_
  refine lv_icmp_gt (tgt := 14) hx hb dX9_isIn_7 (by decide) (fun c => absurd c (b_ngt hi_x4 (by decide))) (fun _ => ?_)
  refine lv_iconst (v := 1) hx hb dX9_isIn_10 (by decide) ?_
  refine lv_goto (tgt := 15) hx hb dX9_isIn_11 (by decide) ?_
  exact rdEndZ S hr hlocks dX9_isIn_15 rfl rfl

set_option maxHeartbeats 8000000 in
set_option maxRecDepth 100000 in
theorem c_X9_variable_2 (l : Launch) (D : va_G) (cI cZ cJ : ClassId) (o : Nat) (q : Nat → Nat) (sz : Nat) (x2 : Int32) (x3 : Int32) (x4 : Int32) (hi_x2 : x2 ≤ (-1)) : Met l yX9_variable (uW yX9_variable cX9_variable 6 (some .int)) ({ frames := 2, cells := 0, slots := 0, locals := 43 }) (va_Pc [.ref o, .int 0, .int x2, .int x3, .int x4] (wS D (tyL cI cZ cJ) (mW o 0 q cI cZ) sz)) (wQi (0) D (mW o 2 q cI cZ) (va_A (mW o 0 q cI cZ) sz)) 0 0 (va_A (mW o 0 q cI cZ) sz) := by
  refine wStart (lv := [(0, .ref o), (1, .int 0), (2, .int x2), (3, .int x3), (4, .int x4)]) (Qc := fun A => wQi (0) D (mW o 2 q cI cZ) A) (by decide) (Nat.le_of_ble_eq_true rfl) rfl ?_
  intro p e s m args below meth c ls A H S hr hlocks hnm hl hK hP hD hS hA
  have hx := S.1
  have hb := S.2.1
  refine lv_aload_n hx hb dX9_variable_0 rfl (lv_at hl 0 rfl) ?_
  refine lv_iconst (v := 0) hx hb dX9_variable_1 (by decide) ?_
  refine xp (ci := 9) (v := .int 0) S inX9 tyX9 tyX9_ok nmX9 rfl hK hP hD hS mW_0 0 (by decide) kw_6_148 rfl rfl rfl rfl (Nat.le_of_ble_eq_true rfl) dX9_variable_2 (fun H locs hP hD hS => ?_)
  have hP : va_P D vwCl (mW o 0 q cI cZ) H := hP
  have hD : va_D A (mW o 0 q cI cZ) := hD
  refine lv_aload_n hx hb dX9_variable_5 rfl (lv_at hl 0 rfl) ?_
  refine lv_iload_n hx hb dX9_variable_6 rfl (lv_at hl 1 rfl) ?_
  refine rdV (As := [.int 0]) (ci := 9) S (c_X9_isProcedure_2 l D cI cZ cJ o q) mi_X9_isProcedure kw_7_97 ⟨rfl, rfl⟩ ⟨Nat.le_of_ble_eq_true rfl, Nat.le_of_ble_eq_true rfl⟩ hP hK mW_0 rfl rfl hl.1 (Nat.le_of_ble_eq_true rfl) ⟨Nat.le_of_ble_eq_true rfl, Nat.le_of_ble_eq_true rfl⟩ dX9_variable_7 ?_
  refine lv_if_ne (tgt := 19) hx hb dX9_variable_10 (by decide) (fun _ => ?_) (fun c => absurd c (by decide))
  refine lv_iload_n hx hb dX9_variable_19 rfl (lv_at hl 3 rfl) ?_
  refine lv_iconst (v := 1) hx hb dX9_variable_20 (by decide) ?_
  refine lv_icmp_ne (tgt := 35) hx hb dX9_variable_21 (by decide) (fun c_21 => ?_) (fun c_21 => ?_)
  · have ne_x3_1 : ¬ x3 = 1 := c_21
    refine lv_iload_n hx hb dX9_variable_35 rfl (lv_at hl 3 rfl) ?_
    refine lv_iconst (v := 3) hx hb dX9_variable_36 (by decide) ?_
    refine lv_icmp_ne (tgt := 52) hx hb dX9_variable_37 (by decide) (fun c_37 => ?_) (fun c_37 => ?_)
    · have ne_x3_3 : ¬ x3 = 3 := c_37
      refine lv_iload hx hb dX9_variable_52 (lv_at hl 4 rfl) ?_
      refine lv_if_ne (tgt := 61) hx hb dX9_variable_54 (by decide) (fun c_54 => ?_) (fun c_54 => ?_)
      · have ne_x4_0 : ¬ x4 = 0 := c_54
        refine lv_iconst (v := 0) hx hb dX9_variable_61 (by decide) ?_
        refine lv_istore (lv' := [(5, .int 0), (0, .ref o), (1, .int 0), (2, .int x2), (3, .int x3), (4, .int x4)]) hx hb dX9_variable_62 hl (by decide) rfl (fun ls hl => ?_)
        refine lv_iload_n hx hb dX9_variable_64 rfl (lv_at hl 3 rfl) ?_
        refine rdS (As := [.int x2]) S (c_X9_isName_0 l D cI cZ cJ o q x2 hi_x2) ms_X9_isName kw_7_108 ⟨rfl, rfl⟩ ⟨Nat.le_of_ble_eq_true rfl, Nat.le_of_ble_eq_true rfl⟩ hP hK hl.1 (Nat.le_of_ble_eq_true rfl) ⟨Nat.le_of_ble_eq_true rfl, Nat.le_of_ble_eq_true rfl⟩ dX9_variable_65 ?_
        refine lv_if_eq (tgt := 85) hx hb dX9_variable_68 (by decide) (fun _ => ?_) (fun c => absurd c (by decide))
        refine lv_aload_n hx hb dX9_variable_85 rfl (lv_at hl 1 rfl) ?_
        refine lv_iconst (v := 2) hx hb dX9_variable_86 (by decide) ?_
        refine wrV (As := [.int 2]) (ci := 9) S (c_X9_no_1 l D cI cZ cJ o q H.size) mi_X9_no kw_7_104 rfl rfl ⟨Nat.le_of_ble_eq_true rfl, Nat.le_of_ble_eq_true rfl⟩ hP hD hK hS hA mW_0 rfl rfl hl.1 (Nat.le_of_ble_eq_true rfl) ⟨Nat.le_of_ble_eq_true rfl, Nat.le_of_ble_eq_true rfl⟩ dX9_variable_87 (fun H locs hz hP hD hS => ?_)
        exact wEnd S hr hlocks hP hD hS (Nat.le_of_ble_eq_true rfl) (Nat.le_of_ble_eq_true rfl) dX9_variable_90 rfl
      · have e_x4 : x4 = 0 := c_54
        subst e_x4
        refine lv_iconst (v := 1) hx hb dX9_variable_57 (by decide) ?_
        refine lv_goto (tgt := 62) hx hb dX9_variable_58 (by decide) ?_
        refine lv_istore (lv' := [(5, .int 1), (0, .ref o), (1, .int 0), (2, .int x2), (3, .int x3), (4, .int 0)]) hx hb dX9_variable_62 hl (by decide) rfl (fun ls hl => ?_)
        refine lv_iload_n hx hb dX9_variable_64 rfl (lv_at hl 3 rfl) ?_
        refine rdS (As := [.int x2]) S (c_X9_isName_0 l D cI cZ cJ o q x2 hi_x2) ms_X9_isName kw_7_108 ⟨rfl, rfl⟩ ⟨Nat.le_of_ble_eq_true rfl, Nat.le_of_ble_eq_true rfl⟩ hP hK hl.1 (Nat.le_of_ble_eq_true rfl) ⟨Nat.le_of_ble_eq_true rfl, Nat.le_of_ble_eq_true rfl⟩ dX9_variable_65 ?_
        refine lv_if_eq (tgt := 85) hx hb dX9_variable_68 (by decide) (fun _ => ?_) (fun c => absurd c (by decide))
        refine lv_aload_n hx hb dX9_variable_85 rfl (lv_at hl 1 rfl) ?_
        refine lv_iconst (v := 2) hx hb dX9_variable_86 (by decide) ?_
        refine wrV (As := [.int 2]) (ci := 9) S (c_X9_no_1 l D cI cZ cJ o q H.size) mi_X9_no kw_7_104 rfl rfl ⟨Nat.le_of_ble_eq_true rfl, Nat.le_of_ble_eq_true rfl⟩ hP hD hK hS hA mW_0 rfl rfl hl.1 (Nat.le_of_ble_eq_true rfl) ⟨Nat.le_of_ble_eq_true rfl, Nat.le_of_ble_eq_true rfl⟩ dX9_variable_87 (fun H locs hz hP hD hS => ?_)
        exact wEnd S hr hlocks hP hD hS (Nat.le_of_ble_eq_true rfl) (Nat.le_of_ble_eq_true rfl) dX9_variable_90 rfl
    · have e_x3 : x3 = 3 := c_37
      subst e_x3
      refine lv_iload hx hb dX9_variable_40 (lv_at hl 4 rfl) ?_
      refine lv_bipush (v := (-99)) hx hb dX9_variable_42 (by decide) ?_
      refine lv_bipush (v := 99) hx hb dX9_variable_44 (by decide) ?_
      by_cases d_46 : x4 < (-99)
      · have hi_x4 : x4 ≤ (-100) := u_lt d_46 (by decide)
        refine rdS (As := [.int x4, .int (-99), .int 99]) S (c_X9_isIn_9 l D cI cZ cJ o q x4 hi_x4) ms_X9_isIn kw_7_101 ⟨rfl, rfl⟩ ⟨Nat.le_of_ble_eq_true rfl, Nat.le_of_ble_eq_true rfl⟩ hP hK hl.1 (Nat.le_of_ble_eq_true rfl) ⟨Nat.le_of_ble_eq_true rfl, Nat.le_of_ble_eq_true rfl⟩ dX9_variable_46 ?_
        refine lv_goto (tgt := 62) hx hb dX9_variable_49 (by decide) ?_
        refine lv_istore (lv' := [(5, .int 0), (0, .ref o), (1, .int 0), (2, .int x2), (3, .int 3), (4, .int x4)]) hx hb dX9_variable_62 hl (by decide) rfl (fun ls hl => ?_)
        refine lv_iload_n hx hb dX9_variable_64 rfl (lv_at hl 3 rfl) ?_
        refine rdS (As := [.int x2]) S (c_X9_isName_0 l D cI cZ cJ o q x2 hi_x2) ms_X9_isName kw_7_108 ⟨rfl, rfl⟩ ⟨Nat.le_of_ble_eq_true rfl, Nat.le_of_ble_eq_true rfl⟩ hP hK hl.1 (Nat.le_of_ble_eq_true rfl) ⟨Nat.le_of_ble_eq_true rfl, Nat.le_of_ble_eq_true rfl⟩ dX9_variable_65 ?_
        refine lv_if_eq (tgt := 85) hx hb dX9_variable_68 (by decide) (fun _ => ?_) (fun c => absurd c (by decide))
        refine lv_aload_n hx hb dX9_variable_85 rfl (lv_at hl 1 rfl) ?_
        refine lv_iconst (v := 2) hx hb dX9_variable_86 (by decide) ?_
        refine wrV (As := [.int 2]) (ci := 9) S (c_X9_no_1 l D cI cZ cJ o q H.size) mi_X9_no kw_7_104 rfl rfl ⟨Nat.le_of_ble_eq_true rfl, Nat.le_of_ble_eq_true rfl⟩ hP hD hK hS hA mW_0 rfl rfl hl.1 (Nat.le_of_ble_eq_true rfl) ⟨Nat.le_of_ble_eq_true rfl, Nat.le_of_ble_eq_true rfl⟩ dX9_variable_87 (fun H locs hz hP hD hS => ?_)
        exact wEnd S hr hlocks hP hD hS (Nat.le_of_ble_eq_true rfl) (Nat.le_of_ble_eq_true rfl) dX9_variable_90 rfl
      · have lo_x4 : (-99) ≤ x4 := l_nlt d_46
        by_cases d_46 : 99 < x4
        · have lo_x4 : 100 ≤ x4 := l_gt d_46 (by decide)
          refine rdS (As := [.int x4, .int (-99), .int 99]) S (c_X9_isIn_10 l D cI cZ cJ o q x4 lo_x4) ms_X9_isIn kw_7_101 ⟨rfl, rfl⟩ ⟨Nat.le_of_ble_eq_true rfl, Nat.le_of_ble_eq_true rfl⟩ hP hK hl.1 (Nat.le_of_ble_eq_true rfl) ⟨Nat.le_of_ble_eq_true rfl, Nat.le_of_ble_eq_true rfl⟩ dX9_variable_46 ?_
          refine lv_goto (tgt := 62) hx hb dX9_variable_49 (by decide) ?_
          refine lv_istore (lv' := [(5, .int 0), (0, .ref o), (1, .int 0), (2, .int x2), (3, .int 3), (4, .int x4)]) hx hb dX9_variable_62 hl (by decide) rfl (fun ls hl => ?_)
          refine lv_iload_n hx hb dX9_variable_64 rfl (lv_at hl 3 rfl) ?_
          refine rdS (As := [.int x2]) S (c_X9_isName_0 l D cI cZ cJ o q x2 hi_x2) ms_X9_isName kw_7_108 ⟨rfl, rfl⟩ ⟨Nat.le_of_ble_eq_true rfl, Nat.le_of_ble_eq_true rfl⟩ hP hK hl.1 (Nat.le_of_ble_eq_true rfl) ⟨Nat.le_of_ble_eq_true rfl, Nat.le_of_ble_eq_true rfl⟩ dX9_variable_65 ?_
          refine lv_if_eq (tgt := 85) hx hb dX9_variable_68 (by decide) (fun _ => ?_) (fun c => absurd c (by decide))
          refine lv_aload_n hx hb dX9_variable_85 rfl (lv_at hl 1 rfl) ?_
          refine lv_iconst (v := 2) hx hb dX9_variable_86 (by decide) ?_
          refine wrV (As := [.int 2]) (ci := 9) S (c_X9_no_1 l D cI cZ cJ o q H.size) mi_X9_no kw_7_104 rfl rfl ⟨Nat.le_of_ble_eq_true rfl, Nat.le_of_ble_eq_true rfl⟩ hP hD hK hS hA mW_0 rfl rfl hl.1 (Nat.le_of_ble_eq_true rfl) ⟨Nat.le_of_ble_eq_true rfl, Nat.le_of_ble_eq_true rfl⟩ dX9_variable_87 (fun H locs hz hP hD hS => ?_)
          exact wEnd S hr hlocks hP hD hS (Nat.le_of_ble_eq_true rfl) (Nat.le_of_ble_eq_true rfl) dX9_variable_90 rfl
        · have hi_x4 : x4 ≤ 99 := u_ngt d_46
          refine rdS (As := [.int x4, .int (-99), .int 99]) S (c_X9_isIn_11 l D cI cZ cJ o q x4 lo_x4 hi_x4) ms_X9_isIn kw_7_101 ⟨rfl, rfl⟩ ⟨Nat.le_of_ble_eq_true rfl, Nat.le_of_ble_eq_true rfl⟩ hP hK hl.1 (Nat.le_of_ble_eq_true rfl) ⟨Nat.le_of_ble_eq_true rfl, Nat.le_of_ble_eq_true rfl⟩ dX9_variable_46 ?_
          refine lv_goto (tgt := 62) hx hb dX9_variable_49 (by decide) ?_
          refine lv_istore (lv' := [(5, .int 1), (0, .ref o), (1, .int 0), (2, .int x2), (3, .int 3), (4, .int x4)]) hx hb dX9_variable_62 hl (by decide) rfl (fun ls hl => ?_)
          refine lv_iload_n hx hb dX9_variable_64 rfl (lv_at hl 3 rfl) ?_
          refine rdS (As := [.int x2]) S (c_X9_isName_0 l D cI cZ cJ o q x2 hi_x2) ms_X9_isName kw_7_108 ⟨rfl, rfl⟩ ⟨Nat.le_of_ble_eq_true rfl, Nat.le_of_ble_eq_true rfl⟩ hP hK hl.1 (Nat.le_of_ble_eq_true rfl) ⟨Nat.le_of_ble_eq_true rfl, Nat.le_of_ble_eq_true rfl⟩ dX9_variable_65 ?_
          refine lv_if_eq (tgt := 85) hx hb dX9_variable_68 (by decide) (fun _ => ?_) (fun c => absurd c (by decide))
          refine lv_aload_n hx hb dX9_variable_85 rfl (lv_at hl 1 rfl) ?_
          refine lv_iconst (v := 2) hx hb dX9_variable_86 (by decide) ?_
          refine wrV (As := [.int 2]) (ci := 9) S (c_X9_no_1 l D cI cZ cJ o q H.size) mi_X9_no kw_7_104 rfl rfl ⟨Nat.le_of_ble_eq_true rfl, Nat.le_of_ble_eq_true rfl⟩ hP hD hK hS hA mW_0 rfl rfl hl.1 (Nat.le_of_ble_eq_true rfl) ⟨Nat.le_of_ble_eq_true rfl, Nat.le_of_ble_eq_true rfl⟩ dX9_variable_87 (fun H locs hz hP hD hS => ?_)
          exact wEnd S hr hlocks hP hD hS (Nat.le_of_ble_eq_true rfl) (Nat.le_of_ble_eq_true rfl) dX9_variable_90 rfl
  · have e_x3 : x3 = 1 := c_21
    subst e_x3
    refine lv_iload hx hb dX9_variable_24 (lv_at hl 4 rfl) ?_
    refine lv_iconst (v := 1) hx hb dX9_variable_26 (by decide) ?_
    refine lv_bipush (v := 8) hx hb dX9_variable_27 (by decide) ?_
    by_cases d_29 : x4 < 1
    · have hi_x4 : x4 ≤ 0 := u_lt d_29 (by decide)
      refine rdS (As := [.int x4, .int 1, .int 8]) S (c_X9_isIn_12 l D cI cZ cJ o q x4 hi_x4) ms_X9_isIn kw_7_101 ⟨rfl, rfl⟩ ⟨Nat.le_of_ble_eq_true rfl, Nat.le_of_ble_eq_true rfl⟩ hP hK hl.1 (Nat.le_of_ble_eq_true rfl) ⟨Nat.le_of_ble_eq_true rfl, Nat.le_of_ble_eq_true rfl⟩ dX9_variable_29 ?_
      refine lv_goto (tgt := 62) hx hb dX9_variable_32 (by decide) ?_
      refine lv_istore (lv' := [(5, .int 0), (0, .ref o), (1, .int 0), (2, .int x2), (3, .int 1), (4, .int x4)]) hx hb dX9_variable_62 hl (by decide) rfl (fun ls hl => ?_)
      refine lv_iload_n hx hb dX9_variable_64 rfl (lv_at hl 3 rfl) ?_
      refine rdS (As := [.int x2]) S (c_X9_isName_0 l D cI cZ cJ o q x2 hi_x2) ms_X9_isName kw_7_108 ⟨rfl, rfl⟩ ⟨Nat.le_of_ble_eq_true rfl, Nat.le_of_ble_eq_true rfl⟩ hP hK hl.1 (Nat.le_of_ble_eq_true rfl) ⟨Nat.le_of_ble_eq_true rfl, Nat.le_of_ble_eq_true rfl⟩ dX9_variable_65 ?_
      refine lv_if_eq (tgt := 85) hx hb dX9_variable_68 (by decide) (fun _ => ?_) (fun c => absurd c (by decide))
      refine lv_aload_n hx hb dX9_variable_85 rfl (lv_at hl 1 rfl) ?_
      refine lv_iconst (v := 2) hx hb dX9_variable_86 (by decide) ?_
      refine wrV (As := [.int 2]) (ci := 9) S (c_X9_no_1 l D cI cZ cJ o q H.size) mi_X9_no kw_7_104 rfl rfl ⟨Nat.le_of_ble_eq_true rfl, Nat.le_of_ble_eq_true rfl⟩ hP hD hK hS hA mW_0 rfl rfl hl.1 (Nat.le_of_ble_eq_true rfl) ⟨Nat.le_of_ble_eq_true rfl, Nat.le_of_ble_eq_true rfl⟩ dX9_variable_87 (fun H locs hz hP hD hS => ?_)
      exact wEnd S hr hlocks hP hD hS (Nat.le_of_ble_eq_true rfl) (Nat.le_of_ble_eq_true rfl) dX9_variable_90 rfl
    · have lo_x4 : 1 ≤ x4 := l_nlt d_29
      by_cases d_29 : 8 < x4
      · have lo_x4 : 9 ≤ x4 := l_gt d_29 (by decide)
        refine rdS (As := [.int x4, .int 1, .int 8]) S (c_X9_isIn_13 l D cI cZ cJ o q x4 lo_x4) ms_X9_isIn kw_7_101 ⟨rfl, rfl⟩ ⟨Nat.le_of_ble_eq_true rfl, Nat.le_of_ble_eq_true rfl⟩ hP hK hl.1 (Nat.le_of_ble_eq_true rfl) ⟨Nat.le_of_ble_eq_true rfl, Nat.le_of_ble_eq_true rfl⟩ dX9_variable_29 ?_
        refine lv_goto (tgt := 62) hx hb dX9_variable_32 (by decide) ?_
        refine lv_istore (lv' := [(5, .int 0), (0, .ref o), (1, .int 0), (2, .int x2), (3, .int 1), (4, .int x4)]) hx hb dX9_variable_62 hl (by decide) rfl (fun ls hl => ?_)
        refine lv_iload_n hx hb dX9_variable_64 rfl (lv_at hl 3 rfl) ?_
        refine rdS (As := [.int x2]) S (c_X9_isName_0 l D cI cZ cJ o q x2 hi_x2) ms_X9_isName kw_7_108 ⟨rfl, rfl⟩ ⟨Nat.le_of_ble_eq_true rfl, Nat.le_of_ble_eq_true rfl⟩ hP hK hl.1 (Nat.le_of_ble_eq_true rfl) ⟨Nat.le_of_ble_eq_true rfl, Nat.le_of_ble_eq_true rfl⟩ dX9_variable_65 ?_
        refine lv_if_eq (tgt := 85) hx hb dX9_variable_68 (by decide) (fun _ => ?_) (fun c => absurd c (by decide))
        refine lv_aload_n hx hb dX9_variable_85 rfl (lv_at hl 1 rfl) ?_
        refine lv_iconst (v := 2) hx hb dX9_variable_86 (by decide) ?_
        refine wrV (As := [.int 2]) (ci := 9) S (c_X9_no_1 l D cI cZ cJ o q H.size) mi_X9_no kw_7_104 rfl rfl ⟨Nat.le_of_ble_eq_true rfl, Nat.le_of_ble_eq_true rfl⟩ hP hD hK hS hA mW_0 rfl rfl hl.1 (Nat.le_of_ble_eq_true rfl) ⟨Nat.le_of_ble_eq_true rfl, Nat.le_of_ble_eq_true rfl⟩ dX9_variable_87 (fun H locs hz hP hD hS => ?_)
        exact wEnd S hr hlocks hP hD hS (Nat.le_of_ble_eq_true rfl) (Nat.le_of_ble_eq_true rfl) dX9_variable_90 rfl
      · have hi_x4 : x4 ≤ 8 := u_ngt d_29
        refine rdS (As := [.int x4, .int 1, .int 8]) S (c_X9_isIn_14 l D cI cZ cJ o q x4 lo_x4 hi_x4) ms_X9_isIn kw_7_101 ⟨rfl, rfl⟩ ⟨Nat.le_of_ble_eq_true rfl, Nat.le_of_ble_eq_true rfl⟩ hP hK hl.1 (Nat.le_of_ble_eq_true rfl) ⟨Nat.le_of_ble_eq_true rfl, Nat.le_of_ble_eq_true rfl⟩ dX9_variable_29 ?_
        refine lv_goto (tgt := 62) hx hb dX9_variable_32 (by decide) ?_
        refine lv_istore (lv' := [(5, .int 1), (0, .ref o), (1, .int 0), (2, .int x2), (3, .int 1), (4, .int x4)]) hx hb dX9_variable_62 hl (by decide) rfl (fun ls hl => ?_)
        refine lv_iload_n hx hb dX9_variable_64 rfl (lv_at hl 3 rfl) ?_
        refine rdS (As := [.int x2]) S (c_X9_isName_0 l D cI cZ cJ o q x2 hi_x2) ms_X9_isName kw_7_108 ⟨rfl, rfl⟩ ⟨Nat.le_of_ble_eq_true rfl, Nat.le_of_ble_eq_true rfl⟩ hP hK hl.1 (Nat.le_of_ble_eq_true rfl) ⟨Nat.le_of_ble_eq_true rfl, Nat.le_of_ble_eq_true rfl⟩ dX9_variable_65 ?_
        refine lv_if_eq (tgt := 85) hx hb dX9_variable_68 (by decide) (fun _ => ?_) (fun c => absurd c (by decide))
        refine lv_aload_n hx hb dX9_variable_85 rfl (lv_at hl 1 rfl) ?_
        refine lv_iconst (v := 2) hx hb dX9_variable_86 (by decide) ?_
        refine wrV (As := [.int 2]) (ci := 9) S (c_X9_no_1 l D cI cZ cJ o q H.size) mi_X9_no kw_7_104 rfl rfl ⟨Nat.le_of_ble_eq_true rfl, Nat.le_of_ble_eq_true rfl⟩ hP hD hK hS hA mW_0 rfl rfl hl.1 (Nat.le_of_ble_eq_true rfl) ⟨Nat.le_of_ble_eq_true rfl, Nat.le_of_ble_eq_true rfl⟩ dX9_variable_87 (fun H locs hz hP hD hS => ?_)
        exact wEnd S hr hlocks hP hD hS (Nat.le_of_ble_eq_true rfl) (Nat.le_of_ble_eq_true rfl) dX9_variable_90 rfl

set_option maxHeartbeats 8000000 in
set_option maxRecDepth 100000 in
theorem h_variable_3 (l : Launch) (D : va_G) (cI cZ cJ : ClassId) (o : Nat) (u : Nat → Nat) (ao : Nat) (hst : l.stackTraces = false) (ra ga : Nat → Nat) (sz : Nat) (x2 : Int32) (x3 : Int32) (x4 : Int32) (lo_x2 : 16 ≤ x2) : vx_Met l yL_variable (uWh yL_variable cL_variable 7 (some .int) [(0, 14, 17, 13), (0, 14, 21, 15), (0, 14, 25, 17)]) ({ frames := 8, cells := 1, slots := 6, locals := 126 }) (va_Pc [.ref o, .int 0, .int x2, .int x3, .int x4, .ref ao] (lS ra ga D (tyL cI cZ cJ) ((xW o u cI cZ cJ) ++ [(ao, .inl (cJ, 1, .inr (.inl (fun _ => 0))))]) sz)) (wQi (2) D ((xW o u cI cZ cJ) ++ [(ao, .inl (cJ, 1, .inr (.inl (fun _ => 0))))]) (va_A ((xW o u cI cZ cJ) ++ [(ao, .inl (cJ, 1, .inr (.inl (fun _ => 0))))]) sz)) (xN (va_A ((xW o u cI cZ cJ) ++ [(ao, .inl (cJ, 1, .inr (.inl (fun _ => 0))))]) sz)) 1 6 (va_A ((xW o u cI cZ cJ) ++ [(ao, .inl (cJ, 1, .inr (.inl (fun _ => 0))))]) sz) := by
  refine hStart (l := l) (y := yL_variable) (b := cL_variable) (n := 7) (r := (some .int)) (hh := [(0, 14, 17, 13), (0, 14, 21, 15), (0, 14, 25, 17)]) (rm := ({ frames := 8, cells := 1, slots := 6, locals := 126 })) (mc := 1) (ms := 6) (ra := ra) (ga := ga) (D := D) (tys := tyL cI cZ cJ) (ws := ((xW o u cI cZ cJ) ++ [(ao, .inl (cJ, 1, .inr (.inl (fun _ => 0))))])) (av := [.ref o, .int 0, .int x2, .int x3, .int x4, .ref ao]) (sz := sz) (lv := [(0, .ref o), (1, .int 0), (2, .int x2), (3, .int x3), (4, .int x4), (5, .ref ao)]) (Qc := fun A => wQi (2) D ((xW o u cI cZ cJ) ++ [(ao, .inl (cJ, 1, .inr (.inl (fun _ => 0))))]) A) (by decide) (Nat.le_of_ble_eq_true rfl) rfl ?_
  intro p e s m args below meth c ls A H S hr hlocks htab hl hK hP hD hS hA hB hC
  have hx := S.1
  have hb := S.2.1
  refine lv_aload hx hb dL_variable_0 (lv_at hl 5 rfl) ?_
  refine lv_iconst (v := 0) hx hb dL_variable_2 (by decide) ?_
  refine lv_aload_n hx hb dL_variable_3 rfl (lv_at hl 0 rfl) ?_
  refine lv_iload_n hx hb dL_variable_4 rfl (lv_at hl 1 rfl) ?_
  refine lv_iload_n hx hb dL_variable_5 rfl (lv_at hl 2 rfl) ?_
  refine lv_iload_n hx hb dL_variable_6 rfl (lv_at hl 3 rfl) ?_
  refine lv_iload hx hb dL_variable_7 (lv_at hl 4 rfl) ?_
  refine cVi [] [(ao, .inl (cJ, 1, .inr (.inl (fun _ => 0))))] (As := [.int 0, .int x2, .int x3, .int x4]) (ci := 8) S (c_X8_variable_3 l D cI cZ cJ o u hst ra ga H.size x2 x3 x4 lo_x2) mi_X8_variable kw_5_232 rfl rfl ⟨Nat.le_of_ble_eq_true rfl, Nat.le_of_ble_eq_true rfl⟩ hP hD hK hS hA hB xW_0 rfl rfl hl.1 (Nat.le_of_ble_eq_true rfl) ⟨Nat.le_of_ble_eq_true rfl, Nat.le_of_ble_eq_true rfl⟩ dL_variable_9 (fun ce q9 H locs hz hP hD hS hce hcv hcl => ?_)
  refine vx_catch (name := "java/lang/IllegalArgumentException") S.2.2.2.1 [(⟨0, 14, 17, 13⟩ : ExceptionTableEntry)] (⟨0, 14, 21, 15⟩ : ExceptionTableEntry) [(⟨0, 14, 25, 17⟩ : ExceptionTableEntry)] (htab.trans rfl) (List.forall_mem_cons.mpr ⟨Or.inr ⟨by decide, "java/lang/IndexOutOfBoundsException", S.2.2.2.2 _ kw_5_176, hC.1⟩, (fun _ h => absurd h List.not_mem_nil)⟩) (by decide) (by decide) (S.2.2.2.2 _ kw_5_177) (va_Nw.use rfl hB.c1) hce hcv hcl ?_
  have hP : va_P D vwCl ((xW o u cI cZ cJ) ++ [(ao, .inl (cJ, 1, .inr (.inl (fun _ => 0))))]) H := hP
  have hD : va_D A ((xW o u cI cZ cJ) ++ [(ao, .inl (cJ, 1, .inr (.inl (fun _ => 0))))]) := hD
  refine lv_astore (lv' := [(6, .ref q9), (0, .ref o), (1, .int 0), (2, .int x2), (3, .int x3), (4, .int x4), (5, .ref ao)]) hx hb dL_variable_21 hl (by decide) rfl (fun ls hl => ?_)
  refine lv_iconst (v := 2) hx hb dL_variable_23 (by decide) ?_
  exact vx_ret (wEnd S hr hlocks hP hD hS (Nat.le_of_ble_eq_true rfl) (Nat.le_of_ble_eq_true rfl) dL_variable_24 rfl)

set_option maxHeartbeats 8000000 in
set_option maxRecDepth 100000 in
theorem c_X9_variable_3 (l : Launch) (D : va_G) (cI cZ cJ : ClassId) (o : Nat) (q : Nat → Nat) (sz : Nat) (x2 : Int32) (x3 : Int32) (x4 : Int32) (lo_x2 : 16 ≤ x2) : Met l yX9_variable (uW yX9_variable cX9_variable 6 (some .int)) ({ frames := 2, cells := 0, slots := 0, locals := 43 }) (va_Pc [.ref o, .int 0, .int x2, .int x3, .int x4] (wS D (tyL cI cZ cJ) (mW o 0 q cI cZ) sz)) (wQi (0) D (mW o 2 q cI cZ) (va_A (mW o 0 q cI cZ) sz)) 0 0 (va_A (mW o 0 q cI cZ) sz) := by
  refine wStart (lv := [(0, .ref o), (1, .int 0), (2, .int x2), (3, .int x3), (4, .int x4)]) (Qc := fun A => wQi (0) D (mW o 2 q cI cZ) A) (by decide) (Nat.le_of_ble_eq_true rfl) rfl ?_
  intro p e s m args below meth c ls A H S hr hlocks hnm hl hK hP hD hS hA
  have hx := S.1
  have hb := S.2.1
  refine lv_aload_n hx hb dX9_variable_0 rfl (lv_at hl 0 rfl) ?_
  refine lv_iconst (v := 0) hx hb dX9_variable_1 (by decide) ?_
  refine xp (ci := 9) (v := .int 0) S inX9 tyX9 tyX9_ok nmX9 rfl hK hP hD hS mW_0 0 (by decide) kw_6_148 rfl rfl rfl rfl (Nat.le_of_ble_eq_true rfl) dX9_variable_2 (fun H locs hP hD hS => ?_)
  have hP : va_P D vwCl (mW o 0 q cI cZ) H := hP
  have hD : va_D A (mW o 0 q cI cZ) := hD
  refine lv_aload_n hx hb dX9_variable_5 rfl (lv_at hl 0 rfl) ?_
  refine lv_iload_n hx hb dX9_variable_6 rfl (lv_at hl 1 rfl) ?_
  refine rdV (As := [.int 0]) (ci := 9) S (c_X9_isProcedure_2 l D cI cZ cJ o q) mi_X9_isProcedure kw_7_97 ⟨rfl, rfl⟩ ⟨Nat.le_of_ble_eq_true rfl, Nat.le_of_ble_eq_true rfl⟩ hP hK mW_0 rfl rfl hl.1 (Nat.le_of_ble_eq_true rfl) ⟨Nat.le_of_ble_eq_true rfl, Nat.le_of_ble_eq_true rfl⟩ dX9_variable_7 ?_
  refine lv_if_ne (tgt := 19) hx hb dX9_variable_10 (by decide) (fun _ => ?_) (fun c => absurd c (by decide))
  refine lv_iload_n hx hb dX9_variable_19 rfl (lv_at hl 3 rfl) ?_
  refine lv_iconst (v := 1) hx hb dX9_variable_20 (by decide) ?_
  refine lv_icmp_ne (tgt := 35) hx hb dX9_variable_21 (by decide) (fun c_21 => ?_) (fun c_21 => ?_)
  · have ne_x3_1 : ¬ x3 = 1 := c_21
    refine lv_iload_n hx hb dX9_variable_35 rfl (lv_at hl 3 rfl) ?_
    refine lv_iconst (v := 3) hx hb dX9_variable_36 (by decide) ?_
    refine lv_icmp_ne (tgt := 52) hx hb dX9_variable_37 (by decide) (fun c_37 => ?_) (fun c_37 => ?_)
    · have ne_x3_3 : ¬ x3 = 3 := c_37
      refine lv_iload hx hb dX9_variable_52 (lv_at hl 4 rfl) ?_
      refine lv_if_ne (tgt := 61) hx hb dX9_variable_54 (by decide) (fun c_54 => ?_) (fun c_54 => ?_)
      · have ne_x4_0 : ¬ x4 = 0 := c_54
        refine lv_iconst (v := 0) hx hb dX9_variable_61 (by decide) ?_
        refine lv_istore (lv' := [(5, .int 0), (0, .ref o), (1, .int 0), (2, .int x2), (3, .int x3), (4, .int x4)]) hx hb dX9_variable_62 hl (by decide) rfl (fun ls hl => ?_)
        refine lv_iload_n hx hb dX9_variable_64 rfl (lv_at hl 3 rfl) ?_
        refine rdS (As := [.int x2]) S (c_X9_isName_1 l D cI cZ cJ o q x2 lo_x2) ms_X9_isName kw_7_108 ⟨rfl, rfl⟩ ⟨Nat.le_of_ble_eq_true rfl, Nat.le_of_ble_eq_true rfl⟩ hP hK hl.1 (Nat.le_of_ble_eq_true rfl) ⟨Nat.le_of_ble_eq_true rfl, Nat.le_of_ble_eq_true rfl⟩ dX9_variable_65 ?_
        refine lv_if_eq (tgt := 85) hx hb dX9_variable_68 (by decide) (fun _ => ?_) (fun c => absurd c (by decide))
        refine lv_aload_n hx hb dX9_variable_85 rfl (lv_at hl 1 rfl) ?_
        refine lv_iconst (v := 2) hx hb dX9_variable_86 (by decide) ?_
        refine wrV (As := [.int 2]) (ci := 9) S (c_X9_no_1 l D cI cZ cJ o q H.size) mi_X9_no kw_7_104 rfl rfl ⟨Nat.le_of_ble_eq_true rfl, Nat.le_of_ble_eq_true rfl⟩ hP hD hK hS hA mW_0 rfl rfl hl.1 (Nat.le_of_ble_eq_true rfl) ⟨Nat.le_of_ble_eq_true rfl, Nat.le_of_ble_eq_true rfl⟩ dX9_variable_87 (fun H locs hz hP hD hS => ?_)
        exact wEnd S hr hlocks hP hD hS (Nat.le_of_ble_eq_true rfl) (Nat.le_of_ble_eq_true rfl) dX9_variable_90 rfl
      · have e_x4 : x4 = 0 := c_54
        subst e_x4
        refine lv_iconst (v := 1) hx hb dX9_variable_57 (by decide) ?_
        refine lv_goto (tgt := 62) hx hb dX9_variable_58 (by decide) ?_
        refine lv_istore (lv' := [(5, .int 1), (0, .ref o), (1, .int 0), (2, .int x2), (3, .int x3), (4, .int 0)]) hx hb dX9_variable_62 hl (by decide) rfl (fun ls hl => ?_)
        refine lv_iload_n hx hb dX9_variable_64 rfl (lv_at hl 3 rfl) ?_
        refine rdS (As := [.int x2]) S (c_X9_isName_1 l D cI cZ cJ o q x2 lo_x2) ms_X9_isName kw_7_108 ⟨rfl, rfl⟩ ⟨Nat.le_of_ble_eq_true rfl, Nat.le_of_ble_eq_true rfl⟩ hP hK hl.1 (Nat.le_of_ble_eq_true rfl) ⟨Nat.le_of_ble_eq_true rfl, Nat.le_of_ble_eq_true rfl⟩ dX9_variable_65 ?_
        refine lv_if_eq (tgt := 85) hx hb dX9_variable_68 (by decide) (fun _ => ?_) (fun c => absurd c (by decide))
        refine lv_aload_n hx hb dX9_variable_85 rfl (lv_at hl 1 rfl) ?_
        refine lv_iconst (v := 2) hx hb dX9_variable_86 (by decide) ?_
        refine wrV (As := [.int 2]) (ci := 9) S (c_X9_no_1 l D cI cZ cJ o q H.size) mi_X9_no kw_7_104 rfl rfl ⟨Nat.le_of_ble_eq_true rfl, Nat.le_of_ble_eq_true rfl⟩ hP hD hK hS hA mW_0 rfl rfl hl.1 (Nat.le_of_ble_eq_true rfl) ⟨Nat.le_of_ble_eq_true rfl, Nat.le_of_ble_eq_true rfl⟩ dX9_variable_87 (fun H locs hz hP hD hS => ?_)
        exact wEnd S hr hlocks hP hD hS (Nat.le_of_ble_eq_true rfl) (Nat.le_of_ble_eq_true rfl) dX9_variable_90 rfl
    · have e_x3 : x3 = 3 := c_37
      subst e_x3
      refine lv_iload hx hb dX9_variable_40 (lv_at hl 4 rfl) ?_
      refine lv_bipush (v := (-99)) hx hb dX9_variable_42 (by decide) ?_
      refine lv_bipush (v := 99) hx hb dX9_variable_44 (by decide) ?_
      by_cases d_46 : x4 < (-99)
      · have hi_x4 : x4 ≤ (-100) := u_lt d_46 (by decide)
        refine rdS (As := [.int x4, .int (-99), .int 99]) S (c_X9_isIn_9 l D cI cZ cJ o q x4 hi_x4) ms_X9_isIn kw_7_101 ⟨rfl, rfl⟩ ⟨Nat.le_of_ble_eq_true rfl, Nat.le_of_ble_eq_true rfl⟩ hP hK hl.1 (Nat.le_of_ble_eq_true rfl) ⟨Nat.le_of_ble_eq_true rfl, Nat.le_of_ble_eq_true rfl⟩ dX9_variable_46 ?_
        refine lv_goto (tgt := 62) hx hb dX9_variable_49 (by decide) ?_
        refine lv_istore (lv' := [(5, .int 0), (0, .ref o), (1, .int 0), (2, .int x2), (3, .int 3), (4, .int x4)]) hx hb dX9_variable_62 hl (by decide) rfl (fun ls hl => ?_)
        refine lv_iload_n hx hb dX9_variable_64 rfl (lv_at hl 3 rfl) ?_
        refine rdS (As := [.int x2]) S (c_X9_isName_1 l D cI cZ cJ o q x2 lo_x2) ms_X9_isName kw_7_108 ⟨rfl, rfl⟩ ⟨Nat.le_of_ble_eq_true rfl, Nat.le_of_ble_eq_true rfl⟩ hP hK hl.1 (Nat.le_of_ble_eq_true rfl) ⟨Nat.le_of_ble_eq_true rfl, Nat.le_of_ble_eq_true rfl⟩ dX9_variable_65 ?_
        refine lv_if_eq (tgt := 85) hx hb dX9_variable_68 (by decide) (fun _ => ?_) (fun c => absurd c (by decide))
        refine lv_aload_n hx hb dX9_variable_85 rfl (lv_at hl 1 rfl) ?_
        refine lv_iconst (v := 2) hx hb dX9_variable_86 (by decide) ?_
        refine wrV (As := [.int 2]) (ci := 9) S (c_X9_no_1 l D cI cZ cJ o q H.size) mi_X9_no kw_7_104 rfl rfl ⟨Nat.le_of_ble_eq_true rfl, Nat.le_of_ble_eq_true rfl⟩ hP hD hK hS hA mW_0 rfl rfl hl.1 (Nat.le_of_ble_eq_true rfl) ⟨Nat.le_of_ble_eq_true rfl, Nat.le_of_ble_eq_true rfl⟩ dX9_variable_87 (fun H locs hz hP hD hS => ?_)
        exact wEnd S hr hlocks hP hD hS (Nat.le_of_ble_eq_true rfl) (Nat.le_of_ble_eq_true rfl) dX9_variable_90 rfl
      · have lo_x4 : (-99) ≤ x4 := l_nlt d_46
        by_cases d_46 : 99 < x4
        · have lo_x4 : 100 ≤ x4 := l_gt d_46 (by decide)
          refine rdS (As := [.int x4, .int (-99), .int 99]) S (c_X9_isIn_10 l D cI cZ cJ o q x4 lo_x4) ms_X9_isIn kw_7_101 ⟨rfl, rfl⟩ ⟨Nat.le_of_ble_eq_true rfl, Nat.le_of_ble_eq_true rfl⟩ hP hK hl.1 (Nat.le_of_ble_eq_true rfl) ⟨Nat.le_of_ble_eq_true rfl, Nat.le_of_ble_eq_true rfl⟩ dX9_variable_46 ?_
          refine lv_goto (tgt := 62) hx hb dX9_variable_49 (by decide) ?_
          refine lv_istore (lv' := [(5, .int 0), (0, .ref o), (1, .int 0), (2, .int x2), (3, .int 3), (4, .int x4)]) hx hb dX9_variable_62 hl (by decide) rfl (fun ls hl => ?_)
          refine lv_iload_n hx hb dX9_variable_64 rfl (lv_at hl 3 rfl) ?_
          refine rdS (As := [.int x2]) S (c_X9_isName_1 l D cI cZ cJ o q x2 lo_x2) ms_X9_isName kw_7_108 ⟨rfl, rfl⟩ ⟨Nat.le_of_ble_eq_true rfl, Nat.le_of_ble_eq_true rfl⟩ hP hK hl.1 (Nat.le_of_ble_eq_true rfl) ⟨Nat.le_of_ble_eq_true rfl, Nat.le_of_ble_eq_true rfl⟩ dX9_variable_65 ?_
          refine lv_if_eq (tgt := 85) hx hb dX9_variable_68 (by decide) (fun _ => ?_) (fun c => absurd c (by decide))
          refine lv_aload_n hx hb dX9_variable_85 rfl (lv_at hl 1 rfl) ?_
          refine lv_iconst (v := 2) hx hb dX9_variable_86 (by decide) ?_
          refine wrV (As := [.int 2]) (ci := 9) S (c_X9_no_1 l D cI cZ cJ o q H.size) mi_X9_no kw_7_104 rfl rfl ⟨Nat.le_of_ble_eq_true rfl, Nat.le_of_ble_eq_true rfl⟩ hP hD hK hS hA mW_0 rfl rfl hl.1 (Nat.le_of_ble_eq_true rfl) ⟨Nat.le_of_ble_eq_true rfl, Nat.le_of_ble_eq_true rfl⟩ dX9_variable_87 (fun H locs hz hP hD hS => ?_)
          exact wEnd S hr hlocks hP hD hS (Nat.le_of_ble_eq_true rfl) (Nat.le_of_ble_eq_true rfl) dX9_variable_90 rfl
        · have hi_x4 : x4 ≤ 99 := u_ngt d_46
          refine rdS (As := [.int x4, .int (-99), .int 99]) S (c_X9_isIn_11 l D cI cZ cJ o q x4 lo_x4 hi_x4) ms_X9_isIn kw_7_101 ⟨rfl, rfl⟩ ⟨Nat.le_of_ble_eq_true rfl, Nat.le_of_ble_eq_true rfl⟩ hP hK hl.1 (Nat.le_of_ble_eq_true rfl) ⟨Nat.le_of_ble_eq_true rfl, Nat.le_of_ble_eq_true rfl⟩ dX9_variable_46 ?_
          refine lv_goto (tgt := 62) hx hb dX9_variable_49 (by decide) ?_
          refine lv_istore (lv' := [(5, .int 1), (0, .ref o), (1, .int 0), (2, .int x2), (3, .int 3), (4, .int x4)]) hx hb dX9_variable_62 hl (by decide) rfl (fun ls hl => ?_)
          refine lv_iload_n hx hb dX9_variable_64 rfl (lv_at hl 3 rfl) ?_
          refine rdS (As := [.int x2]) S (c_X9_isName_1 l D cI cZ cJ o q x2 lo_x2) ms_X9_isName kw_7_108 ⟨rfl, rfl⟩ ⟨Nat.le_of_ble_eq_true rfl, Nat.le_of_ble_eq_true rfl⟩ hP hK hl.1 (Nat.le_of_ble_eq_true rfl) ⟨Nat.le_of_ble_eq_true rfl, Nat.le_of_ble_eq_true rfl⟩ dX9_variable_65 ?_
          refine lv_if_eq (tgt := 85) hx hb dX9_variable_68 (by decide) (fun _ => ?_) (fun c => absurd c (by decide))
          refine lv_aload_n hx hb dX9_variable_85 rfl (lv_at hl 1 rfl) ?_
          refine lv_iconst (v := 2) hx hb dX9_variable_86 (by decide) ?_
          refine wrV (As := [.int 2]) (ci := 9) S (c_X9_no_1 l D cI cZ cJ o q H.size) mi_X9_no kw_7_104 rfl rfl ⟨Nat.le_of_ble_eq_true rfl, Nat.le_of_ble_eq_true rfl⟩ hP hD hK hS hA mW_0 rfl rfl hl.1 (Nat.le_of_ble_eq_true rfl) ⟨Nat.le_of_ble_eq_true rfl, Nat.le_of_ble_eq_true rfl⟩ dX9_variable_87 (fun H locs hz hP hD hS => ?_)
          exact wEnd S hr hlocks hP hD hS (Nat.le_of_ble_eq_true rfl) (Nat.le_of_ble_eq_true rfl) dX9_variable_90 rfl
  · have e_x3 : x3 = 1 := c_21
    subst e_x3
    refine lv_iload hx hb dX9_variable_24 (lv_at hl 4 rfl) ?_
    refine lv_iconst (v := 1) hx hb dX9_variable_26 (by decide) ?_
    refine lv_bipush (v := 8) hx hb dX9_variable_27 (by decide) ?_
    by_cases d_29 : x4 < 1
    · have hi_x4 : x4 ≤ 0 := u_lt d_29 (by decide)
      refine rdS (As := [.int x4, .int 1, .int 8]) S (c_X9_isIn_12 l D cI cZ cJ o q x4 hi_x4) ms_X9_isIn kw_7_101 ⟨rfl, rfl⟩ ⟨Nat.le_of_ble_eq_true rfl, Nat.le_of_ble_eq_true rfl⟩ hP hK hl.1 (Nat.le_of_ble_eq_true rfl) ⟨Nat.le_of_ble_eq_true rfl, Nat.le_of_ble_eq_true rfl⟩ dX9_variable_29 ?_
      refine lv_goto (tgt := 62) hx hb dX9_variable_32 (by decide) ?_
      refine lv_istore (lv' := [(5, .int 0), (0, .ref o), (1, .int 0), (2, .int x2), (3, .int 1), (4, .int x4)]) hx hb dX9_variable_62 hl (by decide) rfl (fun ls hl => ?_)
      refine lv_iload_n hx hb dX9_variable_64 rfl (lv_at hl 3 rfl) ?_
      refine rdS (As := [.int x2]) S (c_X9_isName_1 l D cI cZ cJ o q x2 lo_x2) ms_X9_isName kw_7_108 ⟨rfl, rfl⟩ ⟨Nat.le_of_ble_eq_true rfl, Nat.le_of_ble_eq_true rfl⟩ hP hK hl.1 (Nat.le_of_ble_eq_true rfl) ⟨Nat.le_of_ble_eq_true rfl, Nat.le_of_ble_eq_true rfl⟩ dX9_variable_65 ?_
      refine lv_if_eq (tgt := 85) hx hb dX9_variable_68 (by decide) (fun _ => ?_) (fun c => absurd c (by decide))
      refine lv_aload_n hx hb dX9_variable_85 rfl (lv_at hl 1 rfl) ?_
      refine lv_iconst (v := 2) hx hb dX9_variable_86 (by decide) ?_
      refine wrV (As := [.int 2]) (ci := 9) S (c_X9_no_1 l D cI cZ cJ o q H.size) mi_X9_no kw_7_104 rfl rfl ⟨Nat.le_of_ble_eq_true rfl, Nat.le_of_ble_eq_true rfl⟩ hP hD hK hS hA mW_0 rfl rfl hl.1 (Nat.le_of_ble_eq_true rfl) ⟨Nat.le_of_ble_eq_true rfl, Nat.le_of_ble_eq_true rfl⟩ dX9_variable_87 (fun H locs hz hP hD hS => ?_)
      exact wEnd S hr hlocks hP hD hS (Nat.le_of_ble_eq_true rfl) (Nat.le_of_ble_eq_true rfl) dX9_variable_90 rfl
    · have lo_x4 : 1 ≤ x4 := l_nlt d_29
      by_cases d_29 : 8 < x4
      · have lo_x4 : 9 ≤ x4 := l_gt d_29 (by decide)
        refine rdS (As := [.int x4, .int 1, .int 8]) S (c_X9_isIn_13 l D cI cZ cJ o q x4 lo_x4) ms_X9_isIn kw_7_101 ⟨rfl, rfl⟩ ⟨Nat.le_of_ble_eq_true rfl, Nat.le_of_ble_eq_true rfl⟩ hP hK hl.1 (Nat.le_of_ble_eq_true rfl) ⟨Nat.le_of_ble_eq_true rfl, Nat.le_of_ble_eq_true rfl⟩ dX9_variable_29 ?_
        refine lv_goto (tgt := 62) hx hb dX9_variable_32 (by decide) ?_
        refine lv_istore (lv' := [(5, .int 0), (0, .ref o), (1, .int 0), (2, .int x2), (3, .int 1), (4, .int x4)]) hx hb dX9_variable_62 hl (by decide) rfl (fun ls hl => ?_)
        refine lv_iload_n hx hb dX9_variable_64 rfl (lv_at hl 3 rfl) ?_
        refine rdS (As := [.int x2]) S (c_X9_isName_1 l D cI cZ cJ o q x2 lo_x2) ms_X9_isName kw_7_108 ⟨rfl, rfl⟩ ⟨Nat.le_of_ble_eq_true rfl, Nat.le_of_ble_eq_true rfl⟩ hP hK hl.1 (Nat.le_of_ble_eq_true rfl) ⟨Nat.le_of_ble_eq_true rfl, Nat.le_of_ble_eq_true rfl⟩ dX9_variable_65 ?_
        refine lv_if_eq (tgt := 85) hx hb dX9_variable_68 (by decide) (fun _ => ?_) (fun c => absurd c (by decide))
        refine lv_aload_n hx hb dX9_variable_85 rfl (lv_at hl 1 rfl) ?_
        refine lv_iconst (v := 2) hx hb dX9_variable_86 (by decide) ?_
        refine wrV (As := [.int 2]) (ci := 9) S (c_X9_no_1 l D cI cZ cJ o q H.size) mi_X9_no kw_7_104 rfl rfl ⟨Nat.le_of_ble_eq_true rfl, Nat.le_of_ble_eq_true rfl⟩ hP hD hK hS hA mW_0 rfl rfl hl.1 (Nat.le_of_ble_eq_true rfl) ⟨Nat.le_of_ble_eq_true rfl, Nat.le_of_ble_eq_true rfl⟩ dX9_variable_87 (fun H locs hz hP hD hS => ?_)
        exact wEnd S hr hlocks hP hD hS (Nat.le_of_ble_eq_true rfl) (Nat.le_of_ble_eq_true rfl) dX9_variable_90 rfl
      · have hi_x4 : x4 ≤ 8 := u_ngt d_29
        refine rdS (As := [.int x4, .int 1, .int 8]) S (c_X9_isIn_14 l D cI cZ cJ o q x4 lo_x4 hi_x4) ms_X9_isIn kw_7_101 ⟨rfl, rfl⟩ ⟨Nat.le_of_ble_eq_true rfl, Nat.le_of_ble_eq_true rfl⟩ hP hK hl.1 (Nat.le_of_ble_eq_true rfl) ⟨Nat.le_of_ble_eq_true rfl, Nat.le_of_ble_eq_true rfl⟩ dX9_variable_29 ?_
        refine lv_goto (tgt := 62) hx hb dX9_variable_32 (by decide) ?_
        refine lv_istore (lv' := [(5, .int 1), (0, .ref o), (1, .int 0), (2, .int x2), (3, .int 1), (4, .int x4)]) hx hb dX9_variable_62 hl (by decide) rfl (fun ls hl => ?_)
        refine lv_iload_n hx hb dX9_variable_64 rfl (lv_at hl 3 rfl) ?_
        refine rdS (As := [.int x2]) S (c_X9_isName_1 l D cI cZ cJ o q x2 lo_x2) ms_X9_isName kw_7_108 ⟨rfl, rfl⟩ ⟨Nat.le_of_ble_eq_true rfl, Nat.le_of_ble_eq_true rfl⟩ hP hK hl.1 (Nat.le_of_ble_eq_true rfl) ⟨Nat.le_of_ble_eq_true rfl, Nat.le_of_ble_eq_true rfl⟩ dX9_variable_65 ?_
        refine lv_if_eq (tgt := 85) hx hb dX9_variable_68 (by decide) (fun _ => ?_) (fun c => absurd c (by decide))
        refine lv_aload_n hx hb dX9_variable_85 rfl (lv_at hl 1 rfl) ?_
        refine lv_iconst (v := 2) hx hb dX9_variable_86 (by decide) ?_
        refine wrV (As := [.int 2]) (ci := 9) S (c_X9_no_1 l D cI cZ cJ o q H.size) mi_X9_no kw_7_104 rfl rfl ⟨Nat.le_of_ble_eq_true rfl, Nat.le_of_ble_eq_true rfl⟩ hP hD hK hS hA mW_0 rfl rfl hl.1 (Nat.le_of_ble_eq_true rfl) ⟨Nat.le_of_ble_eq_true rfl, Nat.le_of_ble_eq_true rfl⟩ dX9_variable_87 (fun H locs hz hP hD hS => ?_)
        exact wEnd S hr hlocks hP hD hS (Nat.le_of_ble_eq_true rfl) (Nat.le_of_ble_eq_true rfl) dX9_variable_90 rfl

set_option maxHeartbeats 8000000 in
set_option maxRecDepth 100000 in
theorem h_variable_4 (l : Launch) (D : va_G) (cI cZ cJ : ClassId) (o : Nat) (u : Nat → Nat) (ao : Nat) (hst : l.stackTraces = false) (ra ga : Nat → Nat) (sz : Nat) (x2 : Int32) (x3 : Int32) (x4 : Int32) (lo_x2 : 0 ≤ x2) (hi_x2 : x2 ≤ 15) (hi_x3 : x3 ≤ (-1)) : vx_Met l yL_variable (uWh yL_variable cL_variable 7 (some .int) [(0, 14, 17, 13), (0, 14, 21, 15), (0, 14, 25, 17)]) ({ frames := 8, cells := 1, slots := 6, locals := 126 }) (va_Pc [.ref o, .int 0, .int x2, .int x3, .int x4, .ref ao] (lS ra ga D (tyL cI cZ cJ) ((xW o u cI cZ cJ) ++ [(ao, .inl (cJ, 1, .inr (.inl (fun _ => 0))))]) sz)) (wQi (2) D ((xW o u cI cZ cJ) ++ [(ao, .inl (cJ, 1, .inr (.inl (fun _ => 0))))]) (va_A ((xW o u cI cZ cJ) ++ [(ao, .inl (cJ, 1, .inr (.inl (fun _ => 0))))]) sz)) (xN (va_A ((xW o u cI cZ cJ) ++ [(ao, .inl (cJ, 1, .inr (.inl (fun _ => 0))))]) sz)) 1 6 (va_A ((xW o u cI cZ cJ) ++ [(ao, .inl (cJ, 1, .inr (.inl (fun _ => 0))))]) sz) := by
  refine hStart (l := l) (y := yL_variable) (b := cL_variable) (n := 7) (r := (some .int)) (hh := [(0, 14, 17, 13), (0, 14, 21, 15), (0, 14, 25, 17)]) (rm := ({ frames := 8, cells := 1, slots := 6, locals := 126 })) (mc := 1) (ms := 6) (ra := ra) (ga := ga) (D := D) (tys := tyL cI cZ cJ) (ws := ((xW o u cI cZ cJ) ++ [(ao, .inl (cJ, 1, .inr (.inl (fun _ => 0))))])) (av := [.ref o, .int 0, .int x2, .int x3, .int x4, .ref ao]) (sz := sz) (lv := [(0, .ref o), (1, .int 0), (2, .int x2), (3, .int x3), (4, .int x4), (5, .ref ao)]) (Qc := fun A => wQi (2) D ((xW o u cI cZ cJ) ++ [(ao, .inl (cJ, 1, .inr (.inl (fun _ => 0))))]) A) (by decide) (Nat.le_of_ble_eq_true rfl) rfl ?_
  intro p e s m args below meth c ls A H S hr hlocks htab hl hK hP hD hS hA hB hC
  have hx := S.1
  have hb := S.2.1
  refine lv_aload hx hb dL_variable_0 (lv_at hl 5 rfl) ?_
  refine lv_iconst (v := 0) hx hb dL_variable_2 (by decide) ?_
  refine lv_aload_n hx hb dL_variable_3 rfl (lv_at hl 0 rfl) ?_
  refine lv_iload_n hx hb dL_variable_4 rfl (lv_at hl 1 rfl) ?_
  refine lv_iload_n hx hb dL_variable_5 rfl (lv_at hl 2 rfl) ?_
  refine lv_iload_n hx hb dL_variable_6 rfl (lv_at hl 3 rfl) ?_
  refine lv_iload hx hb dL_variable_7 (lv_at hl 4 rfl) ?_
  refine cVi [] [(ao, .inl (cJ, 1, .inr (.inl (fun _ => 0))))] (As := [.int 0, .int x2, .int x3, .int x4]) (ci := 8) S (c_X8_variable_4 l D cI cZ cJ o u hst ra ga H.size x2 x3 x4 lo_x2 hi_x2 hi_x3) mi_X8_variable kw_5_232 rfl rfl ⟨Nat.le_of_ble_eq_true rfl, Nat.le_of_ble_eq_true rfl⟩ hP hD hK hS hA hB xW_0 rfl rfl hl.1 (Nat.le_of_ble_eq_true rfl) ⟨Nat.le_of_ble_eq_true rfl, Nat.le_of_ble_eq_true rfl⟩ dL_variable_9 (fun ce q9 H locs hz hP hD hS hce hcv hcl => ?_)
  refine vx_catch (name := "java/lang/IllegalArgumentException") S.2.2.2.1 [(⟨0, 14, 17, 13⟩ : ExceptionTableEntry)] (⟨0, 14, 21, 15⟩ : ExceptionTableEntry) [(⟨0, 14, 25, 17⟩ : ExceptionTableEntry)] (htab.trans rfl) (List.forall_mem_cons.mpr ⟨Or.inr ⟨by decide, "java/lang/IndexOutOfBoundsException", S.2.2.2.2 _ kw_5_176, hC.1⟩, (fun _ h => absurd h List.not_mem_nil)⟩) (by decide) (by decide) (S.2.2.2.2 _ kw_5_177) (va_Nw.use rfl hB.c1) hce hcv hcl ?_
  have hP : va_P D vwCl ((xW o u cI cZ cJ) ++ [(ao, .inl (cJ, 1, .inr (.inl (fun _ => 0))))]) H := hP
  have hD : va_D A ((xW o u cI cZ cJ) ++ [(ao, .inl (cJ, 1, .inr (.inl (fun _ => 0))))]) := hD
  refine lv_astore (lv' := [(6, .ref q9), (0, .ref o), (1, .int 0), (2, .int x2), (3, .int x3), (4, .int x4), (5, .ref ao)]) hx hb dL_variable_21 hl (by decide) rfl (fun ls hl => ?_)
  refine lv_iconst (v := 2) hx hb dL_variable_23 (by decide) ?_
  exact vx_ret (wEnd S hr hlocks hP hD hS (Nat.le_of_ble_eq_true rfl) (Nat.le_of_ble_eq_true rfl) dL_variable_24 rfl)

set_option maxHeartbeats 8000000 in
set_option maxRecDepth 100000 in
theorem c_X9_isIn_15 (l : Launch) (D : va_G) (cI cZ cJ : ClassId) (o : Nat) (q : Nat → Nat) (x3 : Int32) (hi_x3 : x3 ≤ (-1)) : Met l yX9_isIn (uW yX9_isIn cX9_isIn 3 (some .boolean)) ({ frames := 0, cells := 0, slots := 0, locals := 0 }) (va_Pc [.int x3, .int 0, .int 3] (pS D (tyL cI cZ cJ) (mW o 0 q cI cZ))) (QcRead (0)) 0 0 (fun _ => False) := by
  refine rdStart (lv := [(0, .int x3), (1, .int 0), (2, .int 3)]) (by decide) (Nat.le_of_ble_eq_true rfl) rfl ?_
  intro p e s m args below meth c ls S hr hlocks hl hP hK
  have hx := S.1
  have hb := S.2.1
  refine lv_iload_n hx hb dX9_isIn_0 rfl (lv_at hl 0 rfl) ?_
  refine lv_iload_n hx hb dX9_isIn_1 rfl (lv_at hl 1 rfl) ?_
  refine lv_icmp_lt (tgt := 14) hx hb dX9_isIn_2 (by decide) (fun _ => ?_) (fun c => absurd (b_lt hi_x3 (by decide)) c)
  refine lv_iconst (v := 0) hx hb dX9_isIn_14 (by decide) ?_
  exact rdEndZ S hr hlocks dX9_isIn_15 rfl rfl

set_option maxHeartbeats 8000000 in
set_option maxRecDepth 100000 in
theorem c_X9_variable_4 (l : Launch) (D : va_G) (cI cZ cJ : ClassId) (o : Nat) (q : Nat → Nat) (sz : Nat) (x2 : Int32) (x3 : Int32) (x4 : Int32) (lo_x2 : 0 ≤ x2) (hi_x2 : x2 ≤ 15) (hi_x3 : x3 ≤ (-1)) : Met l yX9_variable (uW yX9_variable cX9_variable 6 (some .int)) ({ frames := 2, cells := 0, slots := 0, locals := 43 }) (va_Pc [.ref o, .int 0, .int x2, .int x3, .int x4] (wS D (tyL cI cZ cJ) (mW o 0 q cI cZ) sz)) (wQi (0) D (mW o 2 q cI cZ) (va_A (mW o 0 q cI cZ) sz)) 0 0 (va_A (mW o 0 q cI cZ) sz) := by
  refine wStart (lv := [(0, .ref o), (1, .int 0), (2, .int x2), (3, .int x3), (4, .int x4)]) (Qc := fun A => wQi (0) D (mW o 2 q cI cZ) A) (by decide) (Nat.le_of_ble_eq_true rfl) rfl ?_
  intro p e s m args below meth c ls A H S hr hlocks hnm hl hK hP hD hS hA
  have hx := S.1
  have hb := S.2.1
  refine lv_aload_n hx hb dX9_variable_0 rfl (lv_at hl 0 rfl) ?_
  refine lv_iconst (v := 0) hx hb dX9_variable_1 (by decide) ?_
  refine xp (ci := 9) (v := .int 0) S inX9 tyX9 tyX9_ok nmX9 rfl hK hP hD hS mW_0 0 (by decide) kw_6_148 rfl rfl rfl rfl (Nat.le_of_ble_eq_true rfl) dX9_variable_2 (fun H locs hP hD hS => ?_)
  have hP : va_P D vwCl (mW o 0 q cI cZ) H := hP
  have hD : va_D A (mW o 0 q cI cZ) := hD
  refine lv_aload_n hx hb dX9_variable_5 rfl (lv_at hl 0 rfl) ?_
  refine lv_iload_n hx hb dX9_variable_6 rfl (lv_at hl 1 rfl) ?_
  refine rdV (As := [.int 0]) (ci := 9) S (c_X9_isProcedure_2 l D cI cZ cJ o q) mi_X9_isProcedure kw_7_97 ⟨rfl, rfl⟩ ⟨Nat.le_of_ble_eq_true rfl, Nat.le_of_ble_eq_true rfl⟩ hP hK mW_0 rfl rfl hl.1 (Nat.le_of_ble_eq_true rfl) ⟨Nat.le_of_ble_eq_true rfl, Nat.le_of_ble_eq_true rfl⟩ dX9_variable_7 ?_
  refine lv_if_ne (tgt := 19) hx hb dX9_variable_10 (by decide) (fun _ => ?_) (fun c => absurd c (by decide))
  refine lv_iload_n hx hb dX9_variable_19 rfl (lv_at hl 3 rfl) ?_
  refine lv_iconst (v := 1) hx hb dX9_variable_20 (by decide) ?_
  refine lv_icmp_ne (tgt := 35) hx hb dX9_variable_21 (by decide) (fun _ => ?_) (fun c => absurd c (b_ne2 hi_x3 (by decide)))
  refine lv_iload_n hx hb dX9_variable_35 rfl (lv_at hl 3 rfl) ?_
  refine lv_iconst (v := 3) hx hb dX9_variable_36 (by decide) ?_
  refine lv_icmp_ne (tgt := 52) hx hb dX9_variable_37 (by decide) (fun _ => ?_) (fun c => absurd c (b_ne2 hi_x3 (by decide)))
  refine lv_iload hx hb dX9_variable_52 (lv_at hl 4 rfl) ?_
  refine lv_if_ne (tgt := 61) hx hb dX9_variable_54 (by decide) (fun c_54 => ?_) (fun c_54 => ?_)
  · have ne_x4_0 : ¬ x4 = 0 := c_54
    refine lv_iconst (v := 0) hx hb dX9_variable_61 (by decide) ?_
    refine lv_istore (lv' := [(5, .int 0), (0, .ref o), (1, .int 0), (2, .int x2), (3, .int x3), (4, .int x4)]) hx hb dX9_variable_62 hl (by decide) rfl (fun ls hl => ?_)
    refine lv_iload_n hx hb dX9_variable_64 rfl (lv_at hl 3 rfl) ?_
    refine rdS (As := [.int x2]) S (c_X9_isName_2 l D cI cZ cJ o q x2 lo_x2 hi_x2) ms_X9_isName kw_7_108 ⟨rfl, rfl⟩ ⟨Nat.le_of_ble_eq_true rfl, Nat.le_of_ble_eq_true rfl⟩ hP hK hl.1 (Nat.le_of_ble_eq_true rfl) ⟨Nat.le_of_ble_eq_true rfl, Nat.le_of_ble_eq_true rfl⟩ dX9_variable_65 ?_
    refine lv_if_eq (tgt := 85) hx hb dX9_variable_68 (by decide) (fun c => absurd c (by decide)) (fun _ => ?_)
    refine lv_iload_n hx hb dX9_variable_71 rfl (lv_at hl 4 rfl) ?_
    refine lv_iconst (v := 0) hx hb dX9_variable_72 (by decide) ?_
    refine lv_iconst (v := 3) hx hb dX9_variable_73 (by decide) ?_
    refine rdS (As := [.int x3, .int 0, .int 3]) S (c_X9_isIn_15 l D cI cZ cJ o q x3 hi_x3) ms_X9_isIn kw_7_101 ⟨rfl, rfl⟩ ⟨Nat.le_of_ble_eq_true rfl, Nat.le_of_ble_eq_true rfl⟩ hP hK hl.1 (Nat.le_of_ble_eq_true rfl) ⟨Nat.le_of_ble_eq_true rfl, Nat.le_of_ble_eq_true rfl⟩ dX9_variable_74 ?_
    refine lv_if_eq (tgt := 85) hx hb dX9_variable_77 (by decide) (fun _ => ?_) (fun c => absurd c (by decide))
    refine lv_aload_n hx hb dX9_variable_85 rfl (lv_at hl 1 rfl) ?_
    refine lv_iconst (v := 2) hx hb dX9_variable_86 (by decide) ?_
    refine wrV (As := [.int 2]) (ci := 9) S (c_X9_no_1 l D cI cZ cJ o q H.size) mi_X9_no kw_7_104 rfl rfl ⟨Nat.le_of_ble_eq_true rfl, Nat.le_of_ble_eq_true rfl⟩ hP hD hK hS hA mW_0 rfl rfl hl.1 (Nat.le_of_ble_eq_true rfl) ⟨Nat.le_of_ble_eq_true rfl, Nat.le_of_ble_eq_true rfl⟩ dX9_variable_87 (fun H locs hz hP hD hS => ?_)
    exact wEnd S hr hlocks hP hD hS (Nat.le_of_ble_eq_true rfl) (Nat.le_of_ble_eq_true rfl) dX9_variable_90 rfl
  · have e_x4 : x4 = 0 := c_54
    subst e_x4
    refine lv_iconst (v := 1) hx hb dX9_variable_57 (by decide) ?_
    refine lv_goto (tgt := 62) hx hb dX9_variable_58 (by decide) ?_
    refine lv_istore (lv' := [(5, .int 1), (0, .ref o), (1, .int 0), (2, .int x2), (3, .int x3), (4, .int 0)]) hx hb dX9_variable_62 hl (by decide) rfl (fun ls hl => ?_)
    refine lv_iload_n hx hb dX9_variable_64 rfl (lv_at hl 3 rfl) ?_
    refine rdS (As := [.int x2]) S (c_X9_isName_2 l D cI cZ cJ o q x2 lo_x2 hi_x2) ms_X9_isName kw_7_108 ⟨rfl, rfl⟩ ⟨Nat.le_of_ble_eq_true rfl, Nat.le_of_ble_eq_true rfl⟩ hP hK hl.1 (Nat.le_of_ble_eq_true rfl) ⟨Nat.le_of_ble_eq_true rfl, Nat.le_of_ble_eq_true rfl⟩ dX9_variable_65 ?_
    refine lv_if_eq (tgt := 85) hx hb dX9_variable_68 (by decide) (fun c => absurd c (by decide)) (fun _ => ?_)
    refine lv_iload_n hx hb dX9_variable_71 rfl (lv_at hl 4 rfl) ?_
    refine lv_iconst (v := 0) hx hb dX9_variable_72 (by decide) ?_
    refine lv_iconst (v := 3) hx hb dX9_variable_73 (by decide) ?_
    refine rdS (As := [.int x3, .int 0, .int 3]) S (c_X9_isIn_15 l D cI cZ cJ o q x3 hi_x3) ms_X9_isIn kw_7_101 ⟨rfl, rfl⟩ ⟨Nat.le_of_ble_eq_true rfl, Nat.le_of_ble_eq_true rfl⟩ hP hK hl.1 (Nat.le_of_ble_eq_true rfl) ⟨Nat.le_of_ble_eq_true rfl, Nat.le_of_ble_eq_true rfl⟩ dX9_variable_74 ?_
    refine lv_if_eq (tgt := 85) hx hb dX9_variable_77 (by decide) (fun _ => ?_) (fun c => absurd c (by decide))
    refine lv_aload_n hx hb dX9_variable_85 rfl (lv_at hl 1 rfl) ?_
    refine lv_iconst (v := 2) hx hb dX9_variable_86 (by decide) ?_
    refine wrV (As := [.int 2]) (ci := 9) S (c_X9_no_1 l D cI cZ cJ o q H.size) mi_X9_no kw_7_104 rfl rfl ⟨Nat.le_of_ble_eq_true rfl, Nat.le_of_ble_eq_true rfl⟩ hP hD hK hS hA mW_0 rfl rfl hl.1 (Nat.le_of_ble_eq_true rfl) ⟨Nat.le_of_ble_eq_true rfl, Nat.le_of_ble_eq_true rfl⟩ dX9_variable_87 (fun H locs hz hP hD hS => ?_)
    exact wEnd S hr hlocks hP hD hS (Nat.le_of_ble_eq_true rfl) (Nat.le_of_ble_eq_true rfl) dX9_variable_90 rfl
