set_option maxHeartbeats 8000000 in
set_option maxRecDepth 100000 in
theorem c_X9_isIn_36 (l : Launch) (D : va_G) (cI cZ cJ : ClassId) (o : Nat) (q : Nat → Nat) (x2 : Int32) (lo_x2 : 1000 ≤ x2) : Met l yX9_isIn (uW yX9_isIn cX9_isIn 3 (some .boolean)) ({ frames := 0, cells := 0, slots := 0, locals := 0 }) (va_Pc [.int x2, .int (-999), .int 999] (pS D (tyL cI cZ cJ) (mW o 0 q cI cZ))) (QcRead (0)) 0 0 (fun _ => False) := by
  refine rdStart (lv := [(0, .int x2), (1, .int (-999)), (2, .int 999)]) (by decide) (Nat.le_of_ble_eq_true rfl) rfl ?_
  intro p e s m args below meth c ls S hr hlocks hl hP hK
  have hx := S.1
  have hb := S.2.1
  refine lv_iload_n hx hb dX9_isIn_0 rfl (lv_at hl 0 rfl) ?_
  refine lv_iload_n hx hb dX9_isIn_1 rfl (lv_at hl 1 rfl) ?_
  refine lv_icmp_lt (tgt := 14) hx hb dX9_isIn_2 (by decide) (fun c => absurd c (b_nlt lo_x2 (by decide))) (fun _ => ?_)
  refine lv_iload_n hx hb dX9_isIn_5 rfl (lv_at hl 0 rfl) ?_
  refine lv_iload_n hx hb dX9_isIn_6 rfl (lv_at hl 2 rfl) ?_
  refine lv_icmp_gt (tgt := 14) hx hb dX9_isIn_7 (by decide) (fun _ => ?_) (fun c => absurd (b_gt lo_x2 (by decide)) c)
  refine lv_iconst (v := 0) hx hb dX9_isIn_14 (by decide) ?_
  exact rdEndZ S hr hlocks dX9_isIn_15 rfl rfl

set_option maxHeartbeats 8000000 in
set_option maxRecDepth 100000 in
theorem c_X9_canBe_1 (l : Launch) (D : va_G) (cI cZ cJ : ClassId) (o : Nat) (q : Nat → Nat) (x2 : Int32) (x3 : Int32) (x4 : Int32) (lo_x2 : 1000 ≤ x2) : Met l yX9_canBe (uW yX9_canBe cX9_canBe 5 (some .boolean)) ({ frames := 1, cells := 0, slots := 0, locals := 22 }) (va_Pc [.ref o, .int 0, .int x2, .int x3, .int x4] (pS D (tyL cI cZ cJ) (mW o 0 q cI cZ))) (QcRead (0)) 0 0 (fun _ => False) := by
  refine rdStart (lv := [(0, .ref o), (1, .int 0), (2, .int x2), (3, .int x3), (4, .int x4)]) (by decide) (Nat.le_of_ble_eq_true rfl) rfl ?_
  intro p e s m args below meth c ls S hr hlocks hl hP hK
  have hx := S.1
  have hb := S.2.1
  refine lv_iload_n hx hb dX9_canBe_0 rfl (lv_at hl 1 rfl) ?_
  refine lv_tableIn (off := 103) (tgt := 104) hx hb dX9_canBe_1 (by decide) (by decide) (by decide) (by decide) ?_
  refine lv_iload_n hx hb dX9_canBe_104 rfl (lv_at hl 2 rfl) ?_
  refine lv_sipush (v := (-999)) hx hb dX9_canBe_105 (by decide) ?_
  refine lv_sipush (v := 999) hx hb dX9_canBe_108 (by decide) ?_
  refine rdS (As := [.int x2, .int (-999), .int 999]) S (c_X9_isIn_36 l D cI cZ cJ o q x2 lo_x2) ms_X9_isIn kw_7_101 ⟨rfl, rfl⟩ ⟨Nat.le_of_ble_eq_true rfl, Nat.le_of_ble_eq_true rfl⟩ hP hK hl.1 (Nat.le_of_ble_eq_true rfl) ⟨Nat.le_of_ble_eq_true rfl, Nat.le_of_ble_eq_true rfl⟩ dX9_canBe_111 ?_
  refine lv_if_eq (tgt := 130) hx hb dX9_canBe_114 (by decide) (fun _ => ?_) (fun c => absurd c (by decide))
  refine lv_iconst (v := 0) hx hb dX9_canBe_130 (by decide) ?_
  exact rdEndZ S hr hlocks dX9_canBe_131 rfl rfl

set_option maxHeartbeats 8000000 in
set_option maxRecDepth 100000 in
theorem c_X9_node_1 (l : Launch) (D : va_G) (cI cZ cJ : ClassId) (o : Nat) (q : Nat → Nat) (sz : Nat) (x2 : Int32) (x3 : Int32) (x4 : Int32) (lo_x2 : 1000 ≤ x2) : Met l yX9_node (uW yX9_node cX9_node 6 (some .int)) ({ frames := 2, cells := 0, slots := 0, locals := 46 }) (va_Pc [.ref o, .int 0, .int x2, .int x3, .int x4] (wS D (tyL cI cZ cJ) (mW o 0 q cI cZ) sz)) (wQi (0) D (mW o 1 q cI cZ) (va_A (mW o 0 q cI cZ) sz)) 0 0 (va_A (mW o 0 q cI cZ) sz) := by
  refine wStart (lv := [(0, .ref o), (1, .int 0), (2, .int x2), (3, .int x3), (4, .int x4)]) (Qc := fun A => wQi (0) D (mW o 1 q cI cZ) A) (by decide) (Nat.le_of_ble_eq_true rfl) rfl ?_
  intro p e s m args below meth c ls A H S hr hlocks hnm hl hK hP hD hS hA
  have hx := S.1
  have hb := S.2.1
  refine lv_aload_n hx hb dX9_node_0 rfl (lv_at hl 0 rfl) ?_
  refine lv_iconst (v := 0) hx hb dX9_node_1 (by decide) ?_
  refine xp (ci := 9) (v := .int 0) S inX9 tyX9 tyX9_ok nmX9 rfl hK hP hD hS mW_0 0 (by decide) kw_6_148 rfl rfl rfl rfl (Nat.le_of_ble_eq_true rfl) dX9_node_2 (fun H locs hP hD hS => ?_)
  have hP : va_P D vwCl (mW o 0 q cI cZ) H := hP
  have hD : va_D A (mW o 0 q cI cZ) := hD
  refine lv_iload_n hx hb dX9_node_5 rfl (lv_at hl 1 rfl) ?_
  refine lv_iconst (v := 0) hx hb dX9_node_6 (by decide) ?_
  refine lv_bipush (v := 21) hx hb dX9_node_7 (by decide) ?_
  refine rdS (As := [.int 0, .int 0, .int 21]) S (c_X9_isIn_34 l D cI cZ cJ o q) ms_X9_isIn kw_7_101 ⟨rfl, rfl⟩ ⟨Nat.le_of_ble_eq_true rfl, Nat.le_of_ble_eq_true rfl⟩ hP hK hl.1 (Nat.le_of_ble_eq_true rfl) ⟨Nat.le_of_ble_eq_true rfl, Nat.le_of_ble_eq_true rfl⟩ dX9_node_9 ?_
  refine lv_if_eq (tgt := 27) hx hb dX9_node_12 (by decide) (fun c => absurd c (by decide)) (fun _ => ?_)
  refine lv_aload_n hx hb dX9_node_15 rfl (lv_at hl 0 rfl) ?_
  refine lv_iload_n hx hb dX9_node_16 rfl (lv_at hl 1 rfl) ?_
  refine lv_iload_n hx hb dX9_node_17 rfl (lv_at hl 2 rfl) ?_
  refine lv_iload_n hx hb dX9_node_18 rfl (lv_at hl 3 rfl) ?_
  refine lv_iload hx hb dX9_node_19 (lv_at hl 4 rfl) ?_
  refine rdV (As := [.int 0, .int x2, .int x3, .int x4]) (ci := 9) S (c_X9_canBe_1 l D cI cZ cJ o q x2 x3 x4 lo_x2) mi_X9_canBe kw_7_155 ⟨rfl, rfl⟩ ⟨Nat.le_of_ble_eq_true rfl, Nat.le_of_ble_eq_true rfl⟩ hP hK mW_0 rfl rfl hl.1 (Nat.le_of_ble_eq_true rfl) ⟨Nat.le_of_ble_eq_true rfl, Nat.le_of_ble_eq_true rfl⟩ dX9_node_21 ?_
  refine lv_if_ne (tgt := 33) hx hb dX9_node_24 (by decide) (fun c => absurd c (by decide)) (fun _ => ?_)
  refine lv_aload_n hx hb dX9_node_27 rfl (lv_at hl 0 rfl) ?_
  refine lv_iconst (v := 1) hx hb dX9_node_28 (by decide) ?_
  refine wrV (As := [.int 1]) (ci := 9) S (c_X9_no_0 l D cI cZ cJ o q H.size) mi_X9_no kw_7_104 rfl rfl ⟨Nat.le_of_ble_eq_true rfl, Nat.le_of_ble_eq_true rfl⟩ hP hD hK hS hA mW_0 rfl rfl hl.1 (Nat.le_of_ble_eq_true rfl) ⟨Nat.le_of_ble_eq_true rfl, Nat.le_of_ble_eq_true rfl⟩ dX9_node_29 (fun H locs hz hP hD hS => ?_)
  exact wEnd S hr hlocks hP hD hS (Nat.le_of_ble_eq_true rfl) (Nat.le_of_ble_eq_true rfl) dX9_node_32 rfl

set_option maxHeartbeats 8000000 in
set_option maxRecDepth 100000 in
theorem h_node_2 (l : Launch) (D : va_G) (cI cZ cJ : ClassId) (o : Nat) (u : Nat → Nat) (ao : Nat) (hst : l.stackTraces = false) (ra ga : Nat → Nat) (sz : Nat) (x2 : Int32) (lo_x2 : (-999) ≤ x2) (hi_x2 : x2 ≤ 999) : vx_Met l yL_node (uWh yL_node cL_node 7 (some .int) [(0, 14, 17, 15), (0, 14, 21, 17)]) ({ frames := 3, cells := 0, slots := 0, locals := 71 }) (va_Pc [.ref o, .int 0, .int x2, .int 0, .int 0, .ref ao] (lS ra ga D (tyL cI cZ cJ) ((xW o u cI cZ cJ) ++ [(ao, .inl (cJ, 1, .inr (.inl (fun _ => 0))))]) sz)) (wQi (0) D (((((((((xW o u cI cZ cJ).set 13 ((u 12), .inr (5, ([.int 0, .ref (u 13), .ref (u 14), .ref (u 15), .ref (u 16), .ref (u 17), .ref (u 18)].set 0 (.int 1))))).set 14 ((u 13), .inl (cI, 110, .inl (upd (fun _ => 0) (0 : Int32).toNatClampNeg 0)))).set 15 ((u 14), .inl (cI, 110, .inl (upd (fun _ => 0) (0 : Int32).toNatClampNeg x2)))).set 16 ((u 15), .inl (cI, 110, .inl (upd (fun _ => 0) (0 : Int32).toNatClampNeg 0)))).set 17 ((u 16), .inl (cI, 110, .inl (upd (fun _ => 0) (0 : Int32).toNatClampNeg 0)))).set 18 ((u 17), .inl (cI, 110, .inl (upd (fun _ => 0) (0 : Int32).toNatClampNeg (-1))))).set 19 ((u 18), .inl (cI, 110, .inl (upd (fun _ => 0) (0 : Int32).toNatClampNeg (-1))))) ++ [(ao, .inl (cJ, 1, .inr (.inl (vp_updL (fun _ => 0) (0 : Int32).toNatClampNeg 0))))]) (va_A ((xW o u cI cZ cJ) ++ [(ao, .inl (cJ, 1, .inr (.inl (fun _ => 0))))]) sz)) (xN (va_A ((xW o u cI cZ cJ) ++ [(ao, .inl (cJ, 1, .inr (.inl (fun _ => 0))))]) sz)) 0 0 (va_A ((xW o u cI cZ cJ) ++ [(ao, .inl (cJ, 1, .inr (.inl (fun _ => 0))))]) sz) := by
  refine hStart (l := l) (y := yL_node) (b := cL_node) (n := 7) (r := (some .int)) (hh := [(0, 14, 17, 15), (0, 14, 21, 17)]) (rm := ({ frames := 3, cells := 0, slots := 0, locals := 71 })) (mc := 0) (ms := 0) (ra := ra) (ga := ga) (D := D) (tys := tyL cI cZ cJ) (ws := ((xW o u cI cZ cJ) ++ [(ao, .inl (cJ, 1, .inr (.inl (fun _ => 0))))])) (av := [.ref o, .int 0, .int x2, .int 0, .int 0, .ref ao]) (sz := sz) (lv := [(0, .ref o), (1, .int 0), (2, .int x2), (3, .int 0), (4, .int 0), (5, .ref ao)]) (Qc := fun A => wQi (0) D (((((((((xW o u cI cZ cJ).set 13 ((u 12), .inr (5, ([.int 0, .ref (u 13), .ref (u 14), .ref (u 15), .ref (u 16), .ref (u 17), .ref (u 18)].set 0 (.int 1))))).set 14 ((u 13), .inl (cI, 110, .inl (upd (fun _ => 0) (0 : Int32).toNatClampNeg 0)))).set 15 ((u 14), .inl (cI, 110, .inl (upd (fun _ => 0) (0 : Int32).toNatClampNeg x2)))).set 16 ((u 15), .inl (cI, 110, .inl (upd (fun _ => 0) (0 : Int32).toNatClampNeg 0)))).set 17 ((u 16), .inl (cI, 110, .inl (upd (fun _ => 0) (0 : Int32).toNatClampNeg 0)))).set 18 ((u 17), .inl (cI, 110, .inl (upd (fun _ => 0) (0 : Int32).toNatClampNeg (-1))))).set 19 ((u 18), .inl (cI, 110, .inl (upd (fun _ => 0) (0 : Int32).toNatClampNeg (-1))))) ++ [(ao, .inl (cJ, 1, .inr (.inl (vp_updL (fun _ => 0) (0 : Int32).toNatClampNeg 0))))]) A) (by decide) (Nat.le_of_ble_eq_true rfl) rfl ?_
  intro p e s m args below meth c ls A H S hr hlocks htab hl hK hP hD hS hA hB hC
  have hx := S.1
  have hb := S.2.1
  refine lv_aload hx hb dL_node_0 (lv_at hl 5 rfl) ?_
  refine lv_iconst (v := 0) hx hb dL_node_2 (by decide) ?_
  refine lv_aload_n hx hb dL_node_3 rfl (lv_at hl 0 rfl) ?_
  refine lv_iload_n hx hb dL_node_4 rfl (lv_at hl 1 rfl) ?_
  refine lv_iload_n hx hb dL_node_5 rfl (lv_at hl 2 rfl) ?_
  refine lv_iload_n hx hb dL_node_6 rfl (lv_at hl 3 rfl) ?_
  refine lv_iload hx hb dL_node_7 (lv_at hl 4 rfl) ?_
  refine faVi [] [(ao, .inl (cJ, 1, .inr (.inl (fun _ => 0))))] (As := [.int 0, .int x2, .int 0, .int 0]) (ci := 8) S (c_X8_node_2 l D cI cZ cJ o u ra ga H.size x2 lo_x2 hi_x2) mi_X8_node kw_6_23 rfl rfl ⟨Nat.le_of_ble_eq_true rfl, Nat.le_of_ble_eq_true rfl⟩ hP hD hK hS hA hB xW_0 rfl rfl hl.1 (Nat.le_of_ble_eq_true rfl) ⟨Nat.le_of_ble_eq_true rfl, Nat.le_of_ble_eq_true rfl⟩ dL_node_9 (fun H locs hz hP hD hS => ?_)
  have hP : va_P D vwCl (((((((((xW o u cI cZ cJ).set 13 ((u 12), .inr (5, ([.int 0, .ref (u 13), .ref (u 14), .ref (u 15), .ref (u 16), .ref (u 17), .ref (u 18)].set 0 (.int 1))))).set 14 ((u 13), .inl (cI, 110, .inl (upd (fun _ => 0) (0 : Int32).toNatClampNeg 0)))).set 15 ((u 14), .inl (cI, 110, .inl (upd (fun _ => 0) (0 : Int32).toNatClampNeg x2)))).set 16 ((u 15), .inl (cI, 110, .inl (upd (fun _ => 0) (0 : Int32).toNatClampNeg 0)))).set 17 ((u 16), .inl (cI, 110, .inl (upd (fun _ => 0) (0 : Int32).toNatClampNeg 0)))).set 18 ((u 17), .inl (cI, 110, .inl (upd (fun _ => 0) (0 : Int32).toNatClampNeg (-1))))).set 19 ((u 18), .inl (cI, 110, .inl (upd (fun _ => 0) (0 : Int32).toNatClampNeg (-1))))) ++ [(ao, .inl (cJ, 1, .inr (.inl (fun _ => 0))))]) H := hP
  have hD : va_D A (((((((((xW o u cI cZ cJ).set 13 ((u 12), .inr (5, ([.int 0, .ref (u 13), .ref (u 14), .ref (u 15), .ref (u 16), .ref (u 17), .ref (u 18)].set 0 (.int 1))))).set 14 ((u 13), .inl (cI, 110, .inl (upd (fun _ => 0) (0 : Int32).toNatClampNeg 0)))).set 15 ((u 14), .inl (cI, 110, .inl (upd (fun _ => 0) (0 : Int32).toNatClampNeg x2)))).set 16 ((u 15), .inl (cI, 110, .inl (upd (fun _ => 0) (0 : Int32).toNatClampNeg 0)))).set 17 ((u 16), .inl (cI, 110, .inl (upd (fun _ => 0) (0 : Int32).toNatClampNeg 0)))).set 18 ((u 17), .inl (cI, 110, .inl (upd (fun _ => 0) (0 : Int32).toNatClampNeg (-1))))).set 19 ((u 18), .inl (cI, 110, .inl (upd (fun _ => 0) (0 : Int32).toNatClampNeg (-1))))) ++ [(ao, .inl (cJ, 1, .inr (.inl (fun _ => 0))))]) := hD
  refine lv_i2l (v := 0) hx hb dL_node_12 (by decide) ?_
  refine xlast (t0 := 2) S hK hP hD hS (q0 := 88) rfl rfl (vin rfl) dL_node_13 (fun H locs hP hD hS => ?_)
  have hP : va_P D vwCl (((((((((xW o u cI cZ cJ).set 13 ((u 12), .inr (5, ([.int 0, .ref (u 13), .ref (u 14), .ref (u 15), .ref (u 16), .ref (u 17), .ref (u 18)].set 0 (.int 1))))).set 14 ((u 13), .inl (cI, 110, .inl (upd (fun _ => 0) (0 : Int32).toNatClampNeg 0)))).set 15 ((u 14), .inl (cI, 110, .inl (upd (fun _ => 0) (0 : Int32).toNatClampNeg x2)))).set 16 ((u 15), .inl (cI, 110, .inl (upd (fun _ => 0) (0 : Int32).toNatClampNeg 0)))).set 17 ((u 16), .inl (cI, 110, .inl (upd (fun _ => 0) (0 : Int32).toNatClampNeg 0)))).set 18 ((u 17), .inl (cI, 110, .inl (upd (fun _ => 0) (0 : Int32).toNatClampNeg (-1))))).set 19 ((u 18), .inl (cI, 110, .inl (upd (fun _ => 0) (0 : Int32).toNatClampNeg (-1))))) ++ [(ao, .inl (cJ, 1, .inr (.inl (vp_updL (fun _ => 0) (0 : Int32).toNatClampNeg 0))))]) H := hP
  have hD : va_D A (((((((((xW o u cI cZ cJ).set 13 ((u 12), .inr (5, ([.int 0, .ref (u 13), .ref (u 14), .ref (u 15), .ref (u 16), .ref (u 17), .ref (u 18)].set 0 (.int 1))))).set 14 ((u 13), .inl (cI, 110, .inl (upd (fun _ => 0) (0 : Int32).toNatClampNeg 0)))).set 15 ((u 14), .inl (cI, 110, .inl (upd (fun _ => 0) (0 : Int32).toNatClampNeg x2)))).set 16 ((u 15), .inl (cI, 110, .inl (upd (fun _ => 0) (0 : Int32).toNatClampNeg 0)))).set 17 ((u 16), .inl (cI, 110, .inl (upd (fun _ => 0) (0 : Int32).toNatClampNeg 0)))).set 18 ((u 17), .inl (cI, 110, .inl (upd (fun _ => 0) (0 : Int32).toNatClampNeg (-1))))).set 19 ((u 18), .inl (cI, 110, .inl (upd (fun _ => 0) (0 : Int32).toNatClampNeg (-1))))) ++ [(ao, .inl (cJ, 1, .inr (.inl (vp_updL (fun _ => 0) (0 : Int32).toNatClampNeg 0))))]) := hD
  refine lv_goto (tgt := 25) hx hb dL_node_14 (by decide) ?_
  refine lv_iconst (v := 0) hx hb dL_node_25 (by decide) ?_
  exact vx_ret (wEnd S hr hlocks hP hD hS (Nat.le_of_ble_eq_true rfl) (Nat.le_of_ble_eq_true rfl) dL_node_26 rfl)

set_option maxHeartbeats 8000000 in
set_option maxRecDepth 100000 in
theorem c_X9_isIn_37 (l : Launch) (D : va_G) (cI cZ cJ : ClassId) (o : Nat) (q : Nat → Nat) (x2 : Int32) (lo_x2 : (-999) ≤ x2) (hi_x2 : x2 ≤ 999) : Met l yX9_isIn (uW yX9_isIn cX9_isIn 3 (some .boolean)) ({ frames := 0, cells := 0, slots := 0, locals := 0 }) (va_Pc [.int x2, .int (-999), .int 999] (pS D (tyL cI cZ cJ) (mW o 0 q cI cZ))) (QcRead (1)) 0 0 (fun _ => False) := by
  refine rdStart (lv := [(0, .int x2), (1, .int (-999)), (2, .int 999)]) (by decide) (Nat.le_of_ble_eq_true rfl) rfl ?_
  intro p e s m args below meth c ls S hr hlocks hl hP hK
  have hx := S.1
  have hb := S.2.1
  refine lv_iload_n hx hb dX9_isIn_0 rfl (lv_at hl 0 rfl) ?_
  refine lv_iload_n hx hb dX9_isIn_1 rfl (lv_at hl 1 rfl) ?_
  refine lv_icmp_lt (tgt := 14) hx hb dX9_isIn_2 (by decide) (fun c => absurd c (b_nlt lo_x2 (by decide))) (fun _ => ?_)
  refine lv_iload_n hx hb dX9_isIn_5 rfl (lv_at hl 0 rfl) ?_
  refine lv_iload_n hx hb dX9_isIn_6 rfl (lv_at hl 2 rfl) ?_
  refine lv_icmp_gt (tgt := 14) hx hb dX9_isIn_7 (by decide) (fun c => absurd c (b_ngt hi_x2 (by decide))) (fun _ => ?_)
  refine lv_iconst (v := 1) hx hb dX9_isIn_10 (by decide) ?_
  refine lv_goto (tgt := 15) hx hb dX9_isIn_11 (by decide) ?_
  exact rdEndZ S hr hlocks dX9_isIn_15 rfl rfl

set_option maxHeartbeats 8000000 in
set_option maxRecDepth 100000 in
theorem c_X9_canBe_2 (l : Launch) (D : va_G) (cI cZ cJ : ClassId) (o : Nat) (q : Nat → Nat) (x2 : Int32) (lo_x2 : (-999) ≤ x2) (hi_x2 : x2 ≤ 999) : Met l yX9_canBe (uW yX9_canBe cX9_canBe 5 (some .boolean)) ({ frames := 1, cells := 0, slots := 0, locals := 22 }) (va_Pc [.ref o, .int 0, .int x2, .int 0, .int 0] (pS D (tyL cI cZ cJ) (mW o 0 q cI cZ))) (QcRead (1)) 0 0 (fun _ => False) := by
  refine rdStart (lv := [(0, .ref o), (1, .int 0), (2, .int x2), (3, .int 0), (4, .int 0)]) (by decide) (Nat.le_of_ble_eq_true rfl) rfl ?_
  intro p e s m args below meth c ls S hr hlocks hl hP hK
  have hx := S.1
  have hb := S.2.1
  refine lv_iload_n hx hb dX9_canBe_0 rfl (lv_at hl 1 rfl) ?_
  refine lv_tableIn (off := 103) (tgt := 104) hx hb dX9_canBe_1 (by decide) (by decide) (by decide) (by decide) ?_
  refine lv_iload_n hx hb dX9_canBe_104 rfl (lv_at hl 2 rfl) ?_
  refine lv_sipush (v := (-999)) hx hb dX9_canBe_105 (by decide) ?_
  refine lv_sipush (v := 999) hx hb dX9_canBe_108 (by decide) ?_
  refine rdS (As := [.int x2, .int (-999), .int 999]) S (c_X9_isIn_37 l D cI cZ cJ o q x2 lo_x2 hi_x2) ms_X9_isIn kw_7_101 ⟨rfl, rfl⟩ ⟨Nat.le_of_ble_eq_true rfl, Nat.le_of_ble_eq_true rfl⟩ hP hK hl.1 (Nat.le_of_ble_eq_true rfl) ⟨Nat.le_of_ble_eq_true rfl, Nat.le_of_ble_eq_true rfl⟩ dX9_canBe_111 ?_
  refine lv_if_eq (tgt := 130) hx hb dX9_canBe_114 (by decide) (fun c => absurd c (by decide)) (fun _ => ?_)
  refine lv_iload_n hx hb dX9_canBe_117 rfl (lv_at hl 3 rfl) ?_
  refine lv_if_ne (tgt := 130) hx hb dX9_canBe_118 (by decide) (fun c => absurd c (by decide)) (fun _ => ?_)
  refine lv_iload hx hb dX9_canBe_121 (lv_at hl 4 rfl) ?_
  refine lv_if_ne (tgt := 130) hx hb dX9_canBe_123 (by decide) (fun c => absurd c (by decide)) (fun _ => ?_)
  refine lv_iconst (v := 1) hx hb dX9_canBe_126 (by decide) ?_
  refine lv_goto (tgt := 131) hx hb dX9_canBe_127 (by decide) ?_
  exact rdEndZ S hr hlocks dX9_canBe_131 rfl rfl

set_option maxHeartbeats 8000000 in
set_option maxRecDepth 100000 in
theorem c_X9_parts_0 (l : Launch) (D : va_G) (cI cZ cJ : ClassId) (o : Nat) (q : Nat → Nat) (x2 : Int32) (lo_x2 : (-999) ≤ x2) (hi_x2 : x2 ≤ 999) : Met l yX9_parts (uW yX9_parts cX9_parts 1 (some .int)) ({ frames := 0, cells := 0, slots := 0, locals := 0 }) (va_Pc [.int 0] (pS D (tyL cI cZ cJ) (((((((mW o 0 q cI cZ).set 12 ((q 11), .inl (cI, 110, .inl (upd (fun _ => 0) (0 : Int32).toNatClampNeg 0)))).set 13 ((q 12), .inl (cI, 110, .inl (upd (fun _ => 0) (0 : Int32).toNatClampNeg x2)))).set 14 ((q 13), .inl (cI, 110, .inl (upd (fun _ => 0) (0 : Int32).toNatClampNeg 0)))).set 15 ((q 14), .inl (cI, 110, .inl (upd (fun _ => 0) (0 : Int32).toNatClampNeg 0)))).set 16 ((q 15), .inl (cI, 110, .inl (upd (fun _ => 0) (0 : Int32).toNatClampNeg (-1))))).set 17 ((q 16), .inl (cI, 110, .inl (upd (fun _ => 0) (0 : Int32).toNatClampNeg (-1))))))) (QcRead (0)) 0 0 (fun _ => False) := by
  refine rdStart (lv := [(0, .int 0)]) (by decide) (Nat.le_of_ble_eq_true rfl) rfl ?_
  intro p e s m args below meth c ls S hr hlocks hl hP hK
  have hx := S.1
  have hb := S.2.1
  refine lv_iload_n hx hb dX9_parts_0 rfl (lv_at hl 0 rfl) ?_
  refine lv_tableIn (off := 103) (tgt := 104) hx hb dX9_parts_1 (by decide) (by decide) (by decide) (by decide) ?_
  refine lv_iconst (v := 0) hx hb dX9_parts_104 (by decide) ?_
  exact rdEnd S hr hlocks dX9_parts_105 rfl

set_option maxHeartbeats 8000000 in
set_option maxRecDepth 100000 in
theorem c_X9_has_0 (l : Launch) (D : va_G) (cI cZ cJ : ClassId) (o : Nat) (q : Nat → Nat) (x2 : Int32) (lo_x2 : (-999) ≤ x2) (hi_x2 : x2 ≤ 999) : Met l yX9_has (uW yX9_has cX9_has 2 (some .boolean)) ({ frames := 0, cells := 0, slots := 0, locals := 0 }) (va_Pc [.int 0, .int 0] (pS D (tyL cI cZ cJ) (((((((mW o 0 q cI cZ).set 12 ((q 11), .inl (cI, 110, .inl (upd (fun _ => 0) (0 : Int32).toNatClampNeg 0)))).set 13 ((q 12), .inl (cI, 110, .inl (upd (fun _ => 0) (0 : Int32).toNatClampNeg x2)))).set 14 ((q 13), .inl (cI, 110, .inl (upd (fun _ => 0) (0 : Int32).toNatClampNeg 0)))).set 15 ((q 14), .inl (cI, 110, .inl (upd (fun _ => 0) (0 : Int32).toNatClampNeg 0)))).set 16 ((q 15), .inl (cI, 110, .inl (upd (fun _ => 0) (0 : Int32).toNatClampNeg (-1))))).set 17 ((q 16), .inl (cI, 110, .inl (upd (fun _ => 0) (0 : Int32).toNatClampNeg (-1))))))) (QcRead (0)) 0 0 (fun _ => False) := by
  refine rdStart (lv := [(0, .int 0), (1, .int 0)]) (by decide) (Nat.le_of_ble_eq_true rfl) rfl ?_
  intro p e s m args below meth c ls S hr hlocks hl hP hK
  have hx := S.1
  have hb := S.2.1
  refine lv_iload_n hx hb dX9_has_0 rfl (lv_at hl 0 rfl) ?_
  refine lv_iload_n hx hb dX9_has_1 rfl (lv_at hl 1 rfl) ?_
  refine xishr (v := 0) S dX9_has_2 (by decide) ?_
  refine lv_iconst (v := 1) hx hb dX9_has_3 (by decide) ?_
  refine xiand (v := 0) S dX9_has_4 (by decide) ?_
  refine lv_iconst (v := 1) hx hb dX9_has_5 (by decide) ?_
  refine lv_icmp_ne (tgt := 13) hx hb dX9_has_6 (by decide) (fun _ => ?_) (fun c => absurd c (by decide))
  refine lv_iconst (v := 0) hx hb dX9_has_13 (by decide) ?_
  exact rdEndZ S hr hlocks dX9_has_14 rfl rfl

set_option maxHeartbeats 8000000 in
set_option maxRecDepth 100000 in
theorem c_X9_part_0 (l : Launch) (D : va_G) (cI cZ cJ : ClassId) (o : Nat) (q : Nat → Nat) (x2 : Int32) (lo_x2 : (-999) ≤ x2) (hi_x2 : x2 ≤ 999) : Met l yX9_part (uW yX9_part cX9_part 3 (some .int)) ({ frames := 1, cells := 0, slots := 0, locals := 21 }) (va_Pc [.ref o, .int 0, .int 0] (pS D (tyL cI cZ cJ) (((((((mW o 0 q cI cZ).set 12 ((q 11), .inl (cI, 110, .inl (upd (fun _ => 0) (0 : Int32).toNatClampNeg 0)))).set 13 ((q 12), .inl (cI, 110, .inl (upd (fun _ => 0) (0 : Int32).toNatClampNeg x2)))).set 14 ((q 13), .inl (cI, 110, .inl (upd (fun _ => 0) (0 : Int32).toNatClampNeg 0)))).set 15 ((q 14), .inl (cI, 110, .inl (upd (fun _ => 0) (0 : Int32).toNatClampNeg 0)))).set 16 ((q 15), .inl (cI, 110, .inl (upd (fun _ => 0) (0 : Int32).toNatClampNeg (-1))))).set 17 ((q 16), .inl (cI, 110, .inl (upd (fun _ => 0) (0 : Int32).toNatClampNeg (-1))))))) (QcRead ((-1))) 0 0 (fun _ => False) := by
  refine rdStart (lv := [(0, .ref o), (1, .int 0), (2, .int 0)]) (by decide) (Nat.le_of_ble_eq_true rfl) rfl ?_
  intro p e s m args below meth c ls S hr hlocks hl hP hK
  have hx := S.1
  have hb := S.2.1
  refine lv_aload_n hx hb dX9_part_0 rfl (lv_at hl 0 rfl) ?_
  refine xg (ci := 9) S inX9 rfl hK hP (q0 := 0) rfl 14 (by decide) mF_14 kw_6_162 rfl dX9_part_1 ?_
  refine lv_iload_n hx hb dX9_part_4 rfl (lv_at hl 1 rfl) ?_
  refine xiald (t0 := 0) (v := 0) S hK hP (q0 := 12) rfl rfl (vin rfl) rfl dX9_part_5 ?_
  refine rdS (As := [.int 0]) S (c_X9_parts_0 l D cI cZ cJ o q x2 lo_x2 hi_x2) ms_X9_parts kw_7_189 ⟨rfl, rfl⟩ ⟨Nat.le_of_ble_eq_true rfl, Nat.le_of_ble_eq_true rfl⟩ hP hK hl.1 (Nat.le_of_ble_eq_true rfl) ⟨Nat.le_of_ble_eq_true rfl, Nat.le_of_ble_eq_true rfl⟩ dX9_part_6 ?_
  refine lv_iload_n hx hb dX9_part_9 rfl (lv_at hl 2 rfl) ?_
  refine rdS (As := [.int 0, .int 0]) S (c_X9_has_0 l D cI cZ cJ o q x2 lo_x2 hi_x2) ms_X9_has kw_7_192 ⟨rfl, rfl⟩ ⟨Nat.le_of_ble_eq_true rfl, Nat.le_of_ble_eq_true rfl⟩ hP hK hl.1 (Nat.le_of_ble_eq_true rfl) ⟨Nat.le_of_ble_eq_true rfl, Nat.le_of_ble_eq_true rfl⟩ dX9_part_10 ?_
  refine lv_if_ne (tgt := 18) hx hb dX9_part_13 (by decide) (fun c => absurd c (by decide)) (fun _ => ?_)
  refine lv_iconst (v := (-1)) hx hb dX9_part_16 (by decide) ?_
  exact rdEnd S hr hlocks dX9_part_17 rfl

set_option maxHeartbeats 8000000 in
set_option maxRecDepth 100000 in
theorem c_X9_has_1 (l : Launch) (D : va_G) (cI cZ cJ : ClassId) (o : Nat) (q : Nat → Nat) (x2 : Int32) (lo_x2 : (-999) ≤ x2) (hi_x2 : x2 ≤ 999) : Met l yX9_has (uW yX9_has cX9_has 2 (some .boolean)) ({ frames := 0, cells := 0, slots := 0, locals := 0 }) (va_Pc [.int 0, .int 1] (pS D (tyL cI cZ cJ) (((((((mW o 0 q cI cZ).set 12 ((q 11), .inl (cI, 110, .inl (upd (fun _ => 0) (0 : Int32).toNatClampNeg 0)))).set 13 ((q 12), .inl (cI, 110, .inl (upd (fun _ => 0) (0 : Int32).toNatClampNeg x2)))).set 14 ((q 13), .inl (cI, 110, .inl (upd (fun _ => 0) (0 : Int32).toNatClampNeg 0)))).set 15 ((q 14), .inl (cI, 110, .inl (upd (fun _ => 0) (0 : Int32).toNatClampNeg 0)))).set 16 ((q 15), .inl (cI, 110, .inl (upd (fun _ => 0) (0 : Int32).toNatClampNeg (-1))))).set 17 ((q 16), .inl (cI, 110, .inl (upd (fun _ => 0) (0 : Int32).toNatClampNeg (-1))))))) (QcRead (0)) 0 0 (fun _ => False) := by
  refine rdStart (lv := [(0, .int 0), (1, .int 1)]) (by decide) (Nat.le_of_ble_eq_true rfl) rfl ?_
  intro p e s m args below meth c ls S hr hlocks hl hP hK
  have hx := S.1
  have hb := S.2.1
  refine lv_iload_n hx hb dX9_has_0 rfl (lv_at hl 0 rfl) ?_
  refine lv_iload_n hx hb dX9_has_1 rfl (lv_at hl 1 rfl) ?_
  refine xishr (v := 0) S dX9_has_2 (by decide) ?_
  refine lv_iconst (v := 1) hx hb dX9_has_3 (by decide) ?_
  refine xiand (v := 0) S dX9_has_4 (by decide) ?_
  refine lv_iconst (v := 1) hx hb dX9_has_5 (by decide) ?_
  refine lv_icmp_ne (tgt := 13) hx hb dX9_has_6 (by decide) (fun _ => ?_) (fun c => absurd c (by decide))
  refine lv_iconst (v := 0) hx hb dX9_has_13 (by decide) ?_
  exact rdEndZ S hr hlocks dX9_has_14 rfl rfl

set_option maxHeartbeats 8000000 in
set_option maxRecDepth 100000 in
theorem c_X9_part_1 (l : Launch) (D : va_G) (cI cZ cJ : ClassId) (o : Nat) (q : Nat → Nat) (x2 : Int32) (lo_x2 : (-999) ≤ x2) (hi_x2 : x2 ≤ 999) : Met l yX9_part (uW yX9_part cX9_part 3 (some .int)) ({ frames := 1, cells := 0, slots := 0, locals := 21 }) (va_Pc [.ref o, .int 0, .int 1] (pS D (tyL cI cZ cJ) (((((((mW o 0 q cI cZ).set 12 ((q 11), .inl (cI, 110, .inl (upd (fun _ => 0) (0 : Int32).toNatClampNeg 0)))).set 13 ((q 12), .inl (cI, 110, .inl (upd (fun _ => 0) (0 : Int32).toNatClampNeg x2)))).set 14 ((q 13), .inl (cI, 110, .inl (upd (fun _ => 0) (0 : Int32).toNatClampNeg 0)))).set 15 ((q 14), .inl (cI, 110, .inl (upd (fun _ => 0) (0 : Int32).toNatClampNeg 0)))).set 16 ((q 15), .inl (cI, 110, .inl (upd (fun _ => 0) (0 : Int32).toNatClampNeg (-1))))).set 17 ((q 16), .inl (cI, 110, .inl (upd (fun _ => 0) (0 : Int32).toNatClampNeg (-1))))))) (QcRead ((-1))) 0 0 (fun _ => False) := by
  refine rdStart (lv := [(0, .ref o), (1, .int 0), (2, .int 1)]) (by decide) (Nat.le_of_ble_eq_true rfl) rfl ?_
  intro p e s m args below meth c ls S hr hlocks hl hP hK
  have hx := S.1
  have hb := S.2.1
  refine lv_aload_n hx hb dX9_part_0 rfl (lv_at hl 0 rfl) ?_
  refine xg (ci := 9) S inX9 rfl hK hP (q0 := 0) rfl 14 (by decide) mF_14 kw_6_162 rfl dX9_part_1 ?_
  refine lv_iload_n hx hb dX9_part_4 rfl (lv_at hl 1 rfl) ?_
  refine xiald (t0 := 0) (v := 0) S hK hP (q0 := 12) rfl rfl (vin rfl) rfl dX9_part_5 ?_
  refine rdS (As := [.int 0]) S (c_X9_parts_0 l D cI cZ cJ o q x2 lo_x2 hi_x2) ms_X9_parts kw_7_189 ⟨rfl, rfl⟩ ⟨Nat.le_of_ble_eq_true rfl, Nat.le_of_ble_eq_true rfl⟩ hP hK hl.1 (Nat.le_of_ble_eq_true rfl) ⟨Nat.le_of_ble_eq_true rfl, Nat.le_of_ble_eq_true rfl⟩ dX9_part_6 ?_
  refine lv_iload_n hx hb dX9_part_9 rfl (lv_at hl 2 rfl) ?_
  refine rdS (As := [.int 0, .int 1]) S (c_X9_has_1 l D cI cZ cJ o q x2 lo_x2 hi_x2) ms_X9_has kw_7_192 ⟨rfl, rfl⟩ ⟨Nat.le_of_ble_eq_true rfl, Nat.le_of_ble_eq_true rfl⟩ hP hK hl.1 (Nat.le_of_ble_eq_true rfl) ⟨Nat.le_of_ble_eq_true rfl, Nat.le_of_ble_eq_true rfl⟩ dX9_part_10 ?_
  refine lv_if_ne (tgt := 18) hx hb dX9_part_13 (by decide) (fun c => absurd c (by decide)) (fun _ => ?_)
  refine lv_iconst (v := (-1)) hx hb dX9_part_16 (by decide) ?_
  exact rdEnd S hr hlocks dX9_part_17 rfl

set_option maxHeartbeats 8000000 in
set_option maxRecDepth 100000 in
theorem c_X9_has_2 (l : Launch) (D : va_G) (cI cZ cJ : ClassId) (o : Nat) (q : Nat → Nat) (x2 : Int32) (lo_x2 : (-999) ≤ x2) (hi_x2 : x2 ≤ 999) : Met l yX9_has (uW yX9_has cX9_has 2 (some .boolean)) ({ frames := 0, cells := 0, slots := 0, locals := 0 }) (va_Pc [.int 0, .int 2] (pS D (tyL cI cZ cJ) (((((((mW o 0 q cI cZ).set 12 ((q 11), .inl (cI, 110, .inl (upd (fun _ => 0) (0 : Int32).toNatClampNeg 0)))).set 13 ((q 12), .inl (cI, 110, .inl (upd (fun _ => 0) (0 : Int32).toNatClampNeg x2)))).set 14 ((q 13), .inl (cI, 110, .inl (upd (fun _ => 0) (0 : Int32).toNatClampNeg 0)))).set 15 ((q 14), .inl (cI, 110, .inl (upd (fun _ => 0) (0 : Int32).toNatClampNeg 0)))).set 16 ((q 15), .inl (cI, 110, .inl (upd (fun _ => 0) (0 : Int32).toNatClampNeg (-1))))).set 17 ((q 16), .inl (cI, 110, .inl (upd (fun _ => 0) (0 : Int32).toNatClampNeg (-1))))))) (QcRead (0)) 0 0 (fun _ => False) := by
  refine rdStart (lv := [(0, .int 0), (1, .int 2)]) (by decide) (Nat.le_of_ble_eq_true rfl) rfl ?_
  intro p e s m args below meth c ls S hr hlocks hl hP hK
  have hx := S.1
  have hb := S.2.1
  refine lv_iload_n hx hb dX9_has_0 rfl (lv_at hl 0 rfl) ?_
  refine lv_iload_n hx hb dX9_has_1 rfl (lv_at hl 1 rfl) ?_
  refine xishr (v := 0) S dX9_has_2 (by decide) ?_
  refine lv_iconst (v := 1) hx hb dX9_has_3 (by decide) ?_
  refine xiand (v := 0) S dX9_has_4 (by decide) ?_
  refine lv_iconst (v := 1) hx hb dX9_has_5 (by decide) ?_
  refine lv_icmp_ne (tgt := 13) hx hb dX9_has_6 (by decide) (fun _ => ?_) (fun c => absurd c (by decide))
  refine lv_iconst (v := 0) hx hb dX9_has_13 (by decide) ?_
  exact rdEndZ S hr hlocks dX9_has_14 rfl rfl

set_option maxHeartbeats 8000000 in
set_option maxRecDepth 100000 in
theorem c_X9_part_2 (l : Launch) (D : va_G) (cI cZ cJ : ClassId) (o : Nat) (q : Nat → Nat) (x2 : Int32) (lo_x2 : (-999) ≤ x2) (hi_x2 : x2 ≤ 999) : Met l yX9_part (uW yX9_part cX9_part 3 (some .int)) ({ frames := 1, cells := 0, slots := 0, locals := 21 }) (va_Pc [.ref o, .int 0, .int 2] (pS D (tyL cI cZ cJ) (((((((mW o 0 q cI cZ).set 12 ((q 11), .inl (cI, 110, .inl (upd (fun _ => 0) (0 : Int32).toNatClampNeg 0)))).set 13 ((q 12), .inl (cI, 110, .inl (upd (fun _ => 0) (0 : Int32).toNatClampNeg x2)))).set 14 ((q 13), .inl (cI, 110, .inl (upd (fun _ => 0) (0 : Int32).toNatClampNeg 0)))).set 15 ((q 14), .inl (cI, 110, .inl (upd (fun _ => 0) (0 : Int32).toNatClampNeg 0)))).set 16 ((q 15), .inl (cI, 110, .inl (upd (fun _ => 0) (0 : Int32).toNatClampNeg (-1))))).set 17 ((q 16), .inl (cI, 110, .inl (upd (fun _ => 0) (0 : Int32).toNatClampNeg (-1))))))) (QcRead ((-1))) 0 0 (fun _ => False) := by
  refine rdStart (lv := [(0, .ref o), (1, .int 0), (2, .int 2)]) (by decide) (Nat.le_of_ble_eq_true rfl) rfl ?_
  intro p e s m args below meth c ls S hr hlocks hl hP hK
  have hx := S.1
  have hb := S.2.1
  refine lv_aload_n hx hb dX9_part_0 rfl (lv_at hl 0 rfl) ?_
  refine xg (ci := 9) S inX9 rfl hK hP (q0 := 0) rfl 14 (by decide) mF_14 kw_6_162 rfl dX9_part_1 ?_
  refine lv_iload_n hx hb dX9_part_4 rfl (lv_at hl 1 rfl) ?_
  refine xiald (t0 := 0) (v := 0) S hK hP (q0 := 12) rfl rfl (vin rfl) rfl dX9_part_5 ?_
  refine rdS (As := [.int 0]) S (c_X9_parts_0 l D cI cZ cJ o q x2 lo_x2 hi_x2) ms_X9_parts kw_7_189 ⟨rfl, rfl⟩ ⟨Nat.le_of_ble_eq_true rfl, Nat.le_of_ble_eq_true rfl⟩ hP hK hl.1 (Nat.le_of_ble_eq_true rfl) ⟨Nat.le_of_ble_eq_true rfl, Nat.le_of_ble_eq_true rfl⟩ dX9_part_6 ?_
  refine lv_iload_n hx hb dX9_part_9 rfl (lv_at hl 2 rfl) ?_
  refine rdS (As := [.int 0, .int 2]) S (c_X9_has_2 l D cI cZ cJ o q x2 lo_x2 hi_x2) ms_X9_has kw_7_192 ⟨rfl, rfl⟩ ⟨Nat.le_of_ble_eq_true rfl, Nat.le_of_ble_eq_true rfl⟩ hP hK hl.1 (Nat.le_of_ble_eq_true rfl) ⟨Nat.le_of_ble_eq_true rfl, Nat.le_of_ble_eq_true rfl⟩ dX9_part_10 ?_
  refine lv_if_ne (tgt := 18) hx hb dX9_part_13 (by decide) (fun c => absurd c (by decide)) (fun _ => ?_)
  refine lv_iconst (v := (-1)) hx hb dX9_part_16 (by decide) ?_
  exact rdEnd S hr hlocks dX9_part_17 rfl

set_option maxHeartbeats 8000000 in
set_option maxRecDepth 100000 in
theorem c_X9_node_2 (l : Launch) (D : va_G) (cI cZ cJ : ClassId) (o : Nat) (q : Nat → Nat) (sz : Nat) (x2 : Int32) (lo_x2 : (-999) ≤ x2) (hi_x2 : x2 ≤ 999) : Met l yX9_node (uW yX9_node cX9_node 6 (some .int)) ({ frames := 2, cells := 0, slots := 0, locals := 46 }) (va_Pc [.ref o, .int 0, .int x2, .int 0, .int 0] (wS D (tyL cI cZ cJ) (mW o 0 q cI cZ) sz)) (wQi (0) D ((((((((mW o 0 q cI cZ).set 0 (o, .inr (9, ((mF 0 q).set 13 (.int 1))))).set 12 ((q 11), .inl (cI, 110, .inl (upd (fun _ => 0) (0 : Int32).toNatClampNeg 0)))).set 13 ((q 12), .inl (cI, 110, .inl (upd (fun _ => 0) (0 : Int32).toNatClampNeg x2)))).set 14 ((q 13), .inl (cI, 110, .inl (upd (fun _ => 0) (0 : Int32).toNatClampNeg 0)))).set 15 ((q 14), .inl (cI, 110, .inl (upd (fun _ => 0) (0 : Int32).toNatClampNeg 0)))).set 16 ((q 15), .inl (cI, 110, .inl (upd (fun _ => 0) (0 : Int32).toNatClampNeg (-1))))).set 17 ((q 16), .inl (cI, 110, .inl (upd (fun _ => 0) (0 : Int32).toNatClampNeg (-1))))) (va_A (mW o 0 q cI cZ) sz)) 0 0 (va_A (mW o 0 q cI cZ) sz) := by
  refine wStart (lv := [(0, .ref o), (1, .int 0), (2, .int x2), (3, .int 0), (4, .int 0)]) (Qc := fun A => wQi (0) D ((((((((mW o 0 q cI cZ).set 0 (o, .inr (9, ((mF 0 q).set 13 (.int 1))))).set 12 ((q 11), .inl (cI, 110, .inl (upd (fun _ => 0) (0 : Int32).toNatClampNeg 0)))).set 13 ((q 12), .inl (cI, 110, .inl (upd (fun _ => 0) (0 : Int32).toNatClampNeg x2)))).set 14 ((q 13), .inl (cI, 110, .inl (upd (fun _ => 0) (0 : Int32).toNatClampNeg 0)))).set 15 ((q 14), .inl (cI, 110, .inl (upd (fun _ => 0) (0 : Int32).toNatClampNeg 0)))).set 16 ((q 15), .inl (cI, 110, .inl (upd (fun _ => 0) (0 : Int32).toNatClampNeg (-1))))).set 17 ((q 16), .inl (cI, 110, .inl (upd (fun _ => 0) (0 : Int32).toNatClampNeg (-1))))) A) (by decide) (Nat.le_of_ble_eq_true rfl) rfl ?_
  intro p e s m args below meth c ls A H S hr hlocks hnm hl hK hP hD hS hA
  have hx := S.1
  have hb := S.2.1
  refine lv_aload_n hx hb dX9_node_0 rfl (lv_at hl 0 rfl) ?_
  refine lv_iconst (v := 0) hx hb dX9_node_1 (by decide) ?_
  refine xp (ci := 9) (v := .int 0) S inX9 tyX9 tyX9_ok nmX9 rfl hK hP hD hS mW_0 0 (by decide) kw_6_148 rfl rfl rfl rfl (Nat.le_of_ble_eq_true rfl) dX9_node_2 (fun H locs hP hD hS => ?_)
  have hP : va_P D vwCl (mW o 0 q cI cZ) H := hP
  have hD : va_D A (mW o 0 q cI cZ) := hD
  refine lv_iload_n hx hb dX9_node_5 rfl (lv_at hl 1 rfl) ?_
  refine lv_iconst (v := 0) hx hb dX9_node_6 (by decide) ?_
  refine lv_bipush (v := 21) hx hb dX9_node_7 (by decide) ?_
  refine rdS (As := [.int 0, .int 0, .int 21]) S (c_X9_isIn_34 l D cI cZ cJ o q) ms_X9_isIn kw_7_101 ⟨rfl, rfl⟩ ⟨Nat.le_of_ble_eq_true rfl, Nat.le_of_ble_eq_true rfl⟩ hP hK hl.1 (Nat.le_of_ble_eq_true rfl) ⟨Nat.le_of_ble_eq_true rfl, Nat.le_of_ble_eq_true rfl⟩ dX9_node_9 ?_
  refine lv_if_eq (tgt := 27) hx hb dX9_node_12 (by decide) (fun c => absurd c (by decide)) (fun _ => ?_)
  refine lv_aload_n hx hb dX9_node_15 rfl (lv_at hl 0 rfl) ?_
  refine lv_iload_n hx hb dX9_node_16 rfl (lv_at hl 1 rfl) ?_
  refine lv_iload_n hx hb dX9_node_17 rfl (lv_at hl 2 rfl) ?_
  refine lv_iload_n hx hb dX9_node_18 rfl (lv_at hl 3 rfl) ?_
  refine lv_iload hx hb dX9_node_19 (lv_at hl 4 rfl) ?_
  refine rdV (As := [.int 0, .int x2, .int 0, .int 0]) (ci := 9) S (c_X9_canBe_2 l D cI cZ cJ o q x2 lo_x2 hi_x2) mi_X9_canBe kw_7_155 ⟨rfl, rfl⟩ ⟨Nat.le_of_ble_eq_true rfl, Nat.le_of_ble_eq_true rfl⟩ hP hK mW_0 rfl rfl hl.1 (Nat.le_of_ble_eq_true rfl) ⟨Nat.le_of_ble_eq_true rfl, Nat.le_of_ble_eq_true rfl⟩ dX9_node_21 ?_
  refine lv_if_ne (tgt := 33) hx hb dX9_node_24 (by decide) (fun _ => ?_) (fun c => absurd c (by decide))
  refine lv_aload_n hx hb dX9_node_33 rfl (lv_at hl 0 rfl) ?_
  refine xg (ci := 9) S inX9 rfl hK hP mW_0 13 (by decide) mF_13 kw_6_161 rfl dX9_node_34 ?_
  refine lv_bipush (v := 110) hx hb dX9_node_37 (by decide) ?_
  refine lv_icmp_ne (tgt := 48) hx hb dX9_node_39 (by decide) (fun _ => ?_) (fun c => absurd c (by decide))
  refine lv_aload_n hx hb dX9_node_48 rfl (lv_at hl 0 rfl) ?_
  refine xg (ci := 9) S inX9 rfl hK hP mW_0 14 (by decide) mF_14 kw_6_162 rfl dX9_node_49 ?_
  refine lv_aload_n hx hb dX9_node_52 rfl (lv_at hl 0 rfl) ?_
  refine xg (ci := 9) S inX9 rfl hK hP mW_0 13 (by decide) mF_13 kw_6_161 rfl dX9_node_53 ?_
  refine lv_iload_n hx hb dX9_node_56 rfl (lv_at hl 1 rfl) ?_
  refine xiast (t0 := 0) S hK hP hD hS mW_12 rfl (vin rfl) dX9_node_57 (fun H locs hP hD hS => ?_)
  have hP : va_P D vwCl ((mW o 0 q cI cZ).set 12 ((q 11), .inl (cI, 110, .inl (upd (fun _ => 0) (0 : Int32).toNatClampNeg 0)))) H := hP
  have hD : va_D A ((mW o 0 q cI cZ).set 12 ((q 11), .inl (cI, 110, .inl (upd (fun _ => 0) (0 : Int32).toNatClampNeg 0)))) := hD
  refine lv_aload_n hx hb dX9_node_58 rfl (lv_at hl 0 rfl) ?_
  refine xg (ci := 9) S inX9 rfl hK hP (q0 := 0) rfl 15 (by decide) mF_15 kw_6_163 rfl dX9_node_59 ?_
  refine lv_aload_n hx hb dX9_node_62 rfl (lv_at hl 0 rfl) ?_
  refine xg (ci := 9) S inX9 rfl hK hP (q0 := 0) rfl 13 (by decide) mF_13 kw_6_161 rfl dX9_node_63 ?_
  refine lv_iload_n hx hb dX9_node_66 rfl (lv_at hl 2 rfl) ?_
  refine xiast (t0 := 0) S hK hP hD hS (q0 := 13) rfl rfl (vin rfl) dX9_node_67 (fun H locs hP hD hS => ?_)
  have hP : va_P D vwCl (((mW o 0 q cI cZ).set 12 ((q 11), .inl (cI, 110, .inl (upd (fun _ => 0) (0 : Int32).toNatClampNeg 0)))).set 13 ((q 12), .inl (cI, 110, .inl (upd (fun _ => 0) (0 : Int32).toNatClampNeg x2)))) H := hP
  have hD : va_D A (((mW o 0 q cI cZ).set 12 ((q 11), .inl (cI, 110, .inl (upd (fun _ => 0) (0 : Int32).toNatClampNeg 0)))).set 13 ((q 12), .inl (cI, 110, .inl (upd (fun _ => 0) (0 : Int32).toNatClampNeg x2)))) := hD
  refine lv_aload_n hx hb dX9_node_68 rfl (lv_at hl 0 rfl) ?_
  refine xg (ci := 9) S inX9 rfl hK hP (q0 := 0) rfl 16 (by decide) mF_16 kw_6_164 rfl dX9_node_69 ?_
  refine lv_aload_n hx hb dX9_node_72 rfl (lv_at hl 0 rfl) ?_
  refine xg (ci := 9) S inX9 rfl hK hP (q0 := 0) rfl 13 (by decide) mF_13 kw_6_161 rfl dX9_node_73 ?_
  refine lv_iload_n hx hb dX9_node_76 rfl (lv_at hl 3 rfl) ?_
  refine xiast (t0 := 0) S hK hP hD hS (q0 := 14) rfl rfl (vin rfl) dX9_node_77 (fun H locs hP hD hS => ?_)
  have hP : va_P D vwCl ((((mW o 0 q cI cZ).set 12 ((q 11), .inl (cI, 110, .inl (upd (fun _ => 0) (0 : Int32).toNatClampNeg 0)))).set 13 ((q 12), .inl (cI, 110, .inl (upd (fun _ => 0) (0 : Int32).toNatClampNeg x2)))).set 14 ((q 13), .inl (cI, 110, .inl (upd (fun _ => 0) (0 : Int32).toNatClampNeg 0)))) H := hP
  have hD : va_D A ((((mW o 0 q cI cZ).set 12 ((q 11), .inl (cI, 110, .inl (upd (fun _ => 0) (0 : Int32).toNatClampNeg 0)))).set 13 ((q 12), .inl (cI, 110, .inl (upd (fun _ => 0) (0 : Int32).toNatClampNeg x2)))).set 14 ((q 13), .inl (cI, 110, .inl (upd (fun _ => 0) (0 : Int32).toNatClampNeg 0)))) := hD
  refine lv_aload_n hx hb dX9_node_78 rfl (lv_at hl 0 rfl) ?_
  refine xg (ci := 9) S inX9 rfl hK hP (q0 := 0) rfl 17 (by decide) mF_17 kw_6_165 rfl dX9_node_79 ?_
  refine lv_aload_n hx hb dX9_node_82 rfl (lv_at hl 0 rfl) ?_
  refine xg (ci := 9) S inX9 rfl hK hP (q0 := 0) rfl 13 (by decide) mF_13 kw_6_161 rfl dX9_node_83 ?_
  refine lv_iload hx hb dX9_node_86 (lv_at hl 4 rfl) ?_
  refine xiast (t0 := 0) S hK hP hD hS (q0 := 15) rfl rfl (vin rfl) dX9_node_88 (fun H locs hP hD hS => ?_)
  have hP : va_P D vwCl (((((mW o 0 q cI cZ).set 12 ((q 11), .inl (cI, 110, .inl (upd (fun _ => 0) (0 : Int32).toNatClampNeg 0)))).set 13 ((q 12), .inl (cI, 110, .inl (upd (fun _ => 0) (0 : Int32).toNatClampNeg x2)))).set 14 ((q 13), .inl (cI, 110, .inl (upd (fun _ => 0) (0 : Int32).toNatClampNeg 0)))).set 15 ((q 14), .inl (cI, 110, .inl (upd (fun _ => 0) (0 : Int32).toNatClampNeg 0)))) H := hP
  have hD : va_D A (((((mW o 0 q cI cZ).set 12 ((q 11), .inl (cI, 110, .inl (upd (fun _ => 0) (0 : Int32).toNatClampNeg 0)))).set 13 ((q 12), .inl (cI, 110, .inl (upd (fun _ => 0) (0 : Int32).toNatClampNeg x2)))).set 14 ((q 13), .inl (cI, 110, .inl (upd (fun _ => 0) (0 : Int32).toNatClampNeg 0)))).set 15 ((q 14), .inl (cI, 110, .inl (upd (fun _ => 0) (0 : Int32).toNatClampNeg 0)))) := hD
  refine lv_aload_n hx hb dX9_node_89 rfl (lv_at hl 0 rfl) ?_
  refine xg (ci := 9) S inX9 rfl hK hP (q0 := 0) rfl 18 (by decide) mF_18 kw_6_166 rfl dX9_node_90 ?_
  refine lv_aload_n hx hb dX9_node_93 rfl (lv_at hl 0 rfl) ?_
  refine xg (ci := 9) S inX9 rfl hK hP (q0 := 0) rfl 13 (by decide) mF_13 kw_6_161 rfl dX9_node_94 ?_
  refine lv_iconst (v := (-1)) hx hb dX9_node_97 (by decide) ?_
  refine xiast (t0 := 0) S hK hP hD hS (q0 := 16) rfl rfl (vin rfl) dX9_node_98 (fun H locs hP hD hS => ?_)
  have hP : va_P D vwCl ((((((mW o 0 q cI cZ).set 12 ((q 11), .inl (cI, 110, .inl (upd (fun _ => 0) (0 : Int32).toNatClampNeg 0)))).set 13 ((q 12), .inl (cI, 110, .inl (upd (fun _ => 0) (0 : Int32).toNatClampNeg x2)))).set 14 ((q 13), .inl (cI, 110, .inl (upd (fun _ => 0) (0 : Int32).toNatClampNeg 0)))).set 15 ((q 14), .inl (cI, 110, .inl (upd (fun _ => 0) (0 : Int32).toNatClampNeg 0)))).set 16 ((q 15), .inl (cI, 110, .inl (upd (fun _ => 0) (0 : Int32).toNatClampNeg (-1))))) H := hP
  have hD : va_D A ((((((mW o 0 q cI cZ).set 12 ((q 11), .inl (cI, 110, .inl (upd (fun _ => 0) (0 : Int32).toNatClampNeg 0)))).set 13 ((q 12), .inl (cI, 110, .inl (upd (fun _ => 0) (0 : Int32).toNatClampNeg x2)))).set 14 ((q 13), .inl (cI, 110, .inl (upd (fun _ => 0) (0 : Int32).toNatClampNeg 0)))).set 15 ((q 14), .inl (cI, 110, .inl (upd (fun _ => 0) (0 : Int32).toNatClampNeg 0)))).set 16 ((q 15), .inl (cI, 110, .inl (upd (fun _ => 0) (0 : Int32).toNatClampNeg (-1))))) := hD
  refine lv_aload_n hx hb dX9_node_99 rfl (lv_at hl 0 rfl) ?_
  refine xg (ci := 9) S inX9 rfl hK hP (q0 := 0) rfl 19 (by decide) mF_19 kw_6_167 rfl dX9_node_100 ?_
  refine lv_aload_n hx hb dX9_node_103 rfl (lv_at hl 0 rfl) ?_
  refine xg (ci := 9) S inX9 rfl hK hP (q0 := 0) rfl 13 (by decide) mF_13 kw_6_161 rfl dX9_node_104 ?_
  refine lv_iconst (v := (-1)) hx hb dX9_node_107 (by decide) ?_
  refine xiast (t0 := 0) S hK hP hD hS (q0 := 17) rfl rfl (vin rfl) dX9_node_108 (fun H locs hP hD hS => ?_)
  have hP : va_P D vwCl (((((((mW o 0 q cI cZ).set 12 ((q 11), .inl (cI, 110, .inl (upd (fun _ => 0) (0 : Int32).toNatClampNeg 0)))).set 13 ((q 12), .inl (cI, 110, .inl (upd (fun _ => 0) (0 : Int32).toNatClampNeg x2)))).set 14 ((q 13), .inl (cI, 110, .inl (upd (fun _ => 0) (0 : Int32).toNatClampNeg 0)))).set 15 ((q 14), .inl (cI, 110, .inl (upd (fun _ => 0) (0 : Int32).toNatClampNeg 0)))).set 16 ((q 15), .inl (cI, 110, .inl (upd (fun _ => 0) (0 : Int32).toNatClampNeg (-1))))).set 17 ((q 16), .inl (cI, 110, .inl (upd (fun _ => 0) (0 : Int32).toNatClampNeg (-1))))) H := hP
  have hD : va_D A (((((((mW o 0 q cI cZ).set 12 ((q 11), .inl (cI, 110, .inl (upd (fun _ => 0) (0 : Int32).toNatClampNeg 0)))).set 13 ((q 12), .inl (cI, 110, .inl (upd (fun _ => 0) (0 : Int32).toNatClampNeg x2)))).set 14 ((q 13), .inl (cI, 110, .inl (upd (fun _ => 0) (0 : Int32).toNatClampNeg 0)))).set 15 ((q 14), .inl (cI, 110, .inl (upd (fun _ => 0) (0 : Int32).toNatClampNeg 0)))).set 16 ((q 15), .inl (cI, 110, .inl (upd (fun _ => 0) (0 : Int32).toNatClampNeg (-1))))).set 17 ((q 16), .inl (cI, 110, .inl (upd (fun _ => 0) (0 : Int32).toNatClampNeg (-1))))) := hD
  refine lv_iconst (v := 0) hx hb dX9_node_109 (by decide) ?_
  refine lv_istore (lv' := [(5, .int 0), (0, .ref o), (1, .int 0), (2, .int x2), (3, .int 0), (4, .int 0)]) hx hb dX9_node_110 hl (by decide) rfl (fun ls hl => ?_)
  refine lv_iload hx hb dX9_node_112 (lv_at hl 0 rfl) ?_
  refine lv_iconst (v := 3) hx hb dX9_node_114 (by decide) ?_
  refine lv_icmp_ge (tgt := 157) hx hb dX9_node_115 (by decide) (fun c => absurd c (by decide)) (fun _ => ?_)
  refine lv_aload_n hx hb dX9_node_118 rfl (lv_at hl 1 rfl) ?_
  refine lv_aload_n hx hb dX9_node_119 rfl (lv_at hl 1 rfl) ?_
  refine xg (ci := 9) S inX9 rfl hK hP (q0 := 0) rfl 13 (by decide) mF_13 kw_6_161 rfl dX9_node_120 ?_
  refine lv_iload hx hb dX9_node_123 (lv_at hl 0 rfl) ?_
  refine rdV (As := [.int 0, .int 0]) (ci := 9) S (c_X9_part_0 l D cI cZ cJ o q x2 lo_x2 hi_x2) mi_X9_part kw_7_185 ⟨rfl, rfl⟩ ⟨Nat.le_of_ble_eq_true rfl, Nat.le_of_ble_eq_true rfl⟩ hP hK (k := 0) rfl rfl rfl hl.1 (Nat.le_of_ble_eq_true rfl) ⟨Nat.le_of_ble_eq_true rfl, Nat.le_of_ble_eq_true rfl⟩ dX9_node_125 ?_
  refine lv_iconst (v := (-1)) hx hb dX9_node_128 (by decide) ?_
  refine lv_icmp_eq (tgt := 151) hx hb dX9_node_129 (by decide) (fun _ => ?_) (fun c => absurd c (by decide))
  refine lv_iinc (v := 1) (lv' := [(5, .int 1), (0, .ref o), (1, .int 0), (2, .int x2), (3, .int 0), (4, .int 0)]) hx hb dX9_node_151 hl (k := 0) rfl (by decide) (by decide) rfl (fun ls hl => ?_)
  refine lv_goto (tgt := 112) hx hb dX9_node_154 (by decide) ?_
  refine lv_iload hx hb dX9_node_112 (lv_at hl 0 rfl) ?_
  refine lv_iconst (v := 3) hx hb dX9_node_114 (by decide) ?_
  refine lv_icmp_ge (tgt := 157) hx hb dX9_node_115 (by decide) (fun c => absurd c (by decide)) (fun _ => ?_)
  refine lv_aload_n hx hb dX9_node_118 rfl (lv_at hl 1 rfl) ?_
  refine lv_aload_n hx hb dX9_node_119 rfl (lv_at hl 1 rfl) ?_
  refine xg (ci := 9) S inX9 rfl hK hP (q0 := 0) rfl 13 (by decide) mF_13 kw_6_161 rfl dX9_node_120 ?_
  refine lv_iload hx hb dX9_node_123 (lv_at hl 0 rfl) ?_
  refine rdV (As := [.int 0, .int 1]) (ci := 9) S (c_X9_part_1 l D cI cZ cJ o q x2 lo_x2 hi_x2) mi_X9_part kw_7_185 ⟨rfl, rfl⟩ ⟨Nat.le_of_ble_eq_true rfl, Nat.le_of_ble_eq_true rfl⟩ hP hK (k := 0) rfl rfl rfl hl.1 (Nat.le_of_ble_eq_true rfl) ⟨Nat.le_of_ble_eq_true rfl, Nat.le_of_ble_eq_true rfl⟩ dX9_node_125 ?_
  refine lv_iconst (v := (-1)) hx hb dX9_node_128 (by decide) ?_
  refine lv_icmp_eq (tgt := 151) hx hb dX9_node_129 (by decide) (fun _ => ?_) (fun c => absurd c (by decide))
  refine lv_iinc (v := 2) (lv' := [(5, .int 2), (0, .ref o), (1, .int 0), (2, .int x2), (3, .int 0), (4, .int 0)]) hx hb dX9_node_151 hl (k := 0) rfl (by decide) (by decide) rfl (fun ls hl => ?_)
  refine lv_goto (tgt := 112) hx hb dX9_node_154 (by decide) ?_
  refine lv_iload hx hb dX9_node_112 (lv_at hl 0 rfl) ?_
  refine lv_iconst (v := 3) hx hb dX9_node_114 (by decide) ?_
  refine lv_icmp_ge (tgt := 157) hx hb dX9_node_115 (by decide) (fun c => absurd c (by decide)) (fun _ => ?_)
  refine lv_aload_n hx hb dX9_node_118 rfl (lv_at hl 1 rfl) ?_
  refine lv_aload_n hx hb dX9_node_119 rfl (lv_at hl 1 rfl) ?_
  refine xg (ci := 9) S inX9 rfl hK hP (q0 := 0) rfl 13 (by decide) mF_13 kw_6_161 rfl dX9_node_120 ?_
  refine lv_iload hx hb dX9_node_123 (lv_at hl 0 rfl) ?_
  refine rdV (As := [.int 0, .int 2]) (ci := 9) S (c_X9_part_2 l D cI cZ cJ o q x2 lo_x2 hi_x2) mi_X9_part kw_7_185 ⟨rfl, rfl⟩ ⟨Nat.le_of_ble_eq_true rfl, Nat.le_of_ble_eq_true rfl⟩ hP hK (k := 0) rfl rfl rfl hl.1 (Nat.le_of_ble_eq_true rfl) ⟨Nat.le_of_ble_eq_true rfl, Nat.le_of_ble_eq_true rfl⟩ dX9_node_125 ?_
  refine lv_iconst (v := (-1)) hx hb dX9_node_128 (by decide) ?_
  refine lv_icmp_eq (tgt := 151) hx hb dX9_node_129 (by decide) (fun _ => ?_) (fun c => absurd c (by decide))
  refine lv_iinc (v := 3) (lv' := [(5, .int 3), (0, .ref o), (1, .int 0), (2, .int x2), (3, .int 0), (4, .int 0)]) hx hb dX9_node_151 hl (k := 0) rfl (by decide) (by decide) rfl (fun ls hl => ?_)
  refine lv_goto (tgt := 112) hx hb dX9_node_154 (by decide) ?_
  refine lv_iload hx hb dX9_node_112 (lv_at hl 0 rfl) ?_
  refine lv_iconst (v := 3) hx hb dX9_node_114 (by decide) ?_
  refine lv_icmp_ge (tgt := 157) hx hb dX9_node_115 (by decide) (fun _ => ?_) (fun c => absurd c (by decide))
  refine lv_aload_n hx hb dX9_node_157 rfl (lv_at hl 1 rfl) ?_
  refine lv_dup hx hb dX9_node_158 rfl ?_
  refine xg (ci := 9) S inX9 rfl hK hP (q0 := 0) rfl 13 (by decide) mF_13 kw_6_161 rfl dX9_node_159 ?_
  refine lv_dup_x1 hx hb dX9_node_162 rfl rfl ?_
  refine lv_iconst (v := 1) hx hb dX9_node_163 (by decide) ?_
  refine xiadd (v := 1) S dX9_node_164 (by decide) ?_
  refine xp (ci := 9) (v := .int 1) S inX9 tyX9 tyX9_ok nmX9 rfl hK hP hD hS (q0 := 0) rfl 13 (by decide) kw_6_161 rfl rfl rfl rfl (Nat.le_of_ble_eq_true rfl) dX9_node_165 (fun H locs hP hD hS => ?_)
  have hP : va_P D vwCl ((((((((mW o 0 q cI cZ).set 0 (o, .inr (9, ((mF 0 q).set 13 (.int 1))))).set 12 ((q 11), .inl (cI, 110, .inl (upd (fun _ => 0) (0 : Int32).toNatClampNeg 0)))).set 13 ((q 12), .inl (cI, 110, .inl (upd (fun _ => 0) (0 : Int32).toNatClampNeg x2)))).set 14 ((q 13), .inl (cI, 110, .inl (upd (fun _ => 0) (0 : Int32).toNatClampNeg 0)))).set 15 ((q 14), .inl (cI, 110, .inl (upd (fun _ => 0) (0 : Int32).toNatClampNeg 0)))).set 16 ((q 15), .inl (cI, 110, .inl (upd (fun _ => 0) (0 : Int32).toNatClampNeg (-1))))).set 17 ((q 16), .inl (cI, 110, .inl (upd (fun _ => 0) (0 : Int32).toNatClampNeg (-1))))) H := hP
  have hD : va_D A ((((((((mW o 0 q cI cZ).set 0 (o, .inr (9, ((mF 0 q).set 13 (.int 1))))).set 12 ((q 11), .inl (cI, 110, .inl (upd (fun _ => 0) (0 : Int32).toNatClampNeg 0)))).set 13 ((q 12), .inl (cI, 110, .inl (upd (fun _ => 0) (0 : Int32).toNatClampNeg x2)))).set 14 ((q 13), .inl (cI, 110, .inl (upd (fun _ => 0) (0 : Int32).toNatClampNeg 0)))).set 15 ((q 14), .inl (cI, 110, .inl (upd (fun _ => 0) (0 : Int32).toNatClampNeg 0)))).set 16 ((q 15), .inl (cI, 110, .inl (upd (fun _ => 0) (0 : Int32).toNatClampNeg (-1))))).set 17 ((q 16), .inl (cI, 110, .inl (upd (fun _ => 0) (0 : Int32).toNatClampNeg (-1))))) := hD
  exact wEnd S hr hlocks hP hD hS (Nat.le_of_ble_eq_true rfl) (Nat.le_of_ble_eq_true rfl) dX9_node_168 rfl

set_option maxHeartbeats 8000000 in
set_option maxRecDepth 100000 in
theorem c_X9_thrown_9 (l : Launch) (D : va_G) (cI cZ cJ : ClassId) (o : Nat) (q : Nat → Nat) (x2 : Int32) (lo_x2 : (-999) ≤ x2) (hi_x2 : x2 ≤ 999) : Met l yX9_thrown (uW yX9_thrown cX9_thrown 1 (some .int)) ({ frames := 0, cells := 0, slots := 0, locals := 0 }) (va_Pc [.ref o] (pS D (tyL cI cZ cJ) ((((((((mW o 0 q cI cZ).set 0 (o, .inr (9, ((mF 0 q).set 13 (.int 1))))).set 12 ((q 11), .inl (cI, 110, .inl (upd (fun _ => 0) (0 : Int32).toNatClampNeg 0)))).set 13 ((q 12), .inl (cI, 110, .inl (upd (fun _ => 0) (0 : Int32).toNatClampNeg x2)))).set 14 ((q 13), .inl (cI, 110, .inl (upd (fun _ => 0) (0 : Int32).toNatClampNeg 0)))).set 15 ((q 14), .inl (cI, 110, .inl (upd (fun _ => 0) (0 : Int32).toNatClampNeg 0)))).set 16 ((q 15), .inl (cI, 110, .inl (upd (fun _ => 0) (0 : Int32).toNatClampNeg (-1))))).set 17 ((q 16), .inl (cI, 110, .inl (upd (fun _ => 0) (0 : Int32).toNatClampNeg (-1))))))) (QcRead (0)) 0 0 (fun _ => False) := by
  refine rdStart (lv := [(0, .ref o)]) (by decide) (Nat.le_of_ble_eq_true rfl) rfl ?_
  intro p e s m args below meth c ls S hr hlocks hl hP hK
  have hx := S.1
  have hb := S.2.1
  refine lv_aload_n hx hb dX9_thrown_0 rfl (lv_at hl 0 rfl) ?_
  refine xg (ci := 9) S inX9 rfl hK hP (q0 := 0) rfl 0 (by decide) rfl kw_6_148 rfl dX9_thrown_1 ?_
  exact rdEnd S hr hlocks dX9_thrown_4 rfl

set_option maxHeartbeats 8000000 in
set_option maxRecDepth 100000 in
theorem h_node_3 (l : Launch) (D : va_G) (cI cZ cJ : ClassId) (o : Nat) (u : Nat → Nat) (ao : Nat) (hst : l.stackTraces = false) (ra ga : Nat → Nat) (sz : Nat) (x2 : Int32) (x4 : Int32) (lo_x2 : (-999) ≤ x2) (hi_x2 : x2 ≤ 999) (ne_x4_0 : ¬ x4 = 0) : vx_Met l yL_node (uWh yL_node cL_node 7 (some .int) [(0, 14, 17, 15), (0, 14, 21, 17)]) ({ frames := 8, cells := 1, slots := 6, locals := 126 }) (va_Pc [.ref o, .int 0, .int x2, .int 0, .int x4, .ref ao] (lS ra ga D (tyL cI cZ cJ) ((xW o u cI cZ cJ) ++ [(ao, .inl (cJ, 1, .inr (.inl (fun _ => 0))))]) sz)) (wQi (1) D ((xW o u cI cZ cJ) ++ [(ao, .inl (cJ, 1, .inr (.inl (fun _ => 0))))]) (va_A ((xW o u cI cZ cJ) ++ [(ao, .inl (cJ, 1, .inr (.inl (fun _ => 0))))]) sz)) (xN (va_A ((xW o u cI cZ cJ) ++ [(ao, .inl (cJ, 1, .inr (.inl (fun _ => 0))))]) sz)) 1 6 (va_A ((xW o u cI cZ cJ) ++ [(ao, .inl (cJ, 1, .inr (.inl (fun _ => 0))))]) sz) := by
  refine hStart (l := l) (y := yL_node) (b := cL_node) (n := 7) (r := (some .int)) (hh := [(0, 14, 17, 15), (0, 14, 21, 17)]) (rm := ({ frames := 8, cells := 1, slots := 6, locals := 126 })) (mc := 1) (ms := 6) (ra := ra) (ga := ga) (D := D) (tys := tyL cI cZ cJ) (ws := ((xW o u cI cZ cJ) ++ [(ao, .inl (cJ, 1, .inr (.inl (fun _ => 0))))])) (av := [.ref o, .int 0, .int x2, .int 0, .int x4, .ref ao]) (sz := sz) (lv := [(0, .ref o), (1, .int 0), (2, .int x2), (3, .int 0), (4, .int x4), (5, .ref ao)]) (Qc := fun A => wQi (1) D ((xW o u cI cZ cJ) ++ [(ao, .inl (cJ, 1, .inr (.inl (fun _ => 0))))]) A) (by decide) (Nat.le_of_ble_eq_true rfl) rfl ?_
  intro p e s m args below meth c ls A H S hr hlocks htab hl hK hP hD hS hA hB hC
  have hx := S.1
  have hb := S.2.1
  refine lv_aload hx hb dL_node_0 (lv_at hl 5 rfl) ?_
  refine lv_iconst (v := 0) hx hb dL_node_2 (by decide) ?_
  refine lv_aload_n hx hb dL_node_3 rfl (lv_at hl 0 rfl) ?_
  refine lv_iload_n hx hb dL_node_4 rfl (lv_at hl 1 rfl) ?_
  refine lv_iload_n hx hb dL_node_5 rfl (lv_at hl 2 rfl) ?_
  refine lv_iload_n hx hb dL_node_6 rfl (lv_at hl 3 rfl) ?_
  refine lv_iload hx hb dL_node_7 (lv_at hl 4 rfl) ?_
  refine cVi [] [(ao, .inl (cJ, 1, .inr (.inl (fun _ => 0))))] (As := [.int 0, .int x2, .int 0, .int x4]) (ci := 8) S (c_X8_node_3 l D cI cZ cJ o u hst ra ga H.size x2 x4 lo_x2 hi_x2 ne_x4_0) mi_X8_node kw_6_23 rfl rfl ⟨Nat.le_of_ble_eq_true rfl, Nat.le_of_ble_eq_true rfl⟩ hP hD hK hS hA hB xW_0 rfl rfl hl.1 (Nat.le_of_ble_eq_true rfl) ⟨Nat.le_of_ble_eq_true rfl, Nat.le_of_ble_eq_true rfl⟩ dL_node_9 (fun ce q9 H locs hz hP hD hS hce hcv hcl => ?_)
  refine vx_catch (name := "java/lang/IllegalArgumentException") S.2.2.2.1 [] (⟨0, 14, 17, 15⟩ : ExceptionTableEntry) [(⟨0, 14, 21, 17⟩ : ExceptionTableEntry)] (htab.trans rfl) (fun _ h => absurd h List.not_mem_nil) (by decide) (by decide) (S.2.2.2.2 _ kw_5_177) (va_Nw.use rfl hB.c1) hce hcv hcl ?_
  have hP : va_P D vwCl ((xW o u cI cZ cJ) ++ [(ao, .inl (cJ, 1, .inr (.inl (fun _ => 0))))]) H := hP
  have hD : va_D A ((xW o u cI cZ cJ) ++ [(ao, .inl (cJ, 1, .inr (.inl (fun _ => 0))))]) := hD
  refine lv_astore (lv' := [(6, .ref q9), (0, .ref o), (1, .int 0), (2, .int x2), (3, .int 0), (4, .int x4), (5, .ref ao)]) hx hb dL_node_17 hl (by decide) rfl (fun ls hl => ?_)
  refine lv_iconst (v := 1) hx hb dL_node_19 (by decide) ?_
  exact vx_ret (wEnd S hr hlocks hP hD hS (Nat.le_of_ble_eq_true rfl) (Nat.le_of_ble_eq_true rfl) dL_node_20 rfl)

set_option maxHeartbeats 8000000 in
set_option maxRecDepth 100000 in
theorem c_X9_canBe_3 (l : Launch) (D : va_G) (cI cZ cJ : ClassId) (o : Nat) (q : Nat → Nat) (x2 : Int32) (x4 : Int32) (lo_x2 : (-999) ≤ x2) (hi_x2 : x2 ≤ 999) (ne_x4_0 : ¬ x4 = 0) : Met l yX9_canBe (uW yX9_canBe cX9_canBe 5 (some .boolean)) ({ frames := 1, cells := 0, slots := 0, locals := 22 }) (va_Pc [.ref o, .int 0, .int x2, .int 0, .int x4] (pS D (tyL cI cZ cJ) (mW o 0 q cI cZ))) (QcRead (0)) 0 0 (fun _ => False) := by
  refine rdStart (lv := [(0, .ref o), (1, .int 0), (2, .int x2), (3, .int 0), (4, .int x4)]) (by decide) (Nat.le_of_ble_eq_true rfl) rfl ?_
  intro p e s m args below meth c ls S hr hlocks hl hP hK
  have hx := S.1
  have hb := S.2.1
  refine lv_iload_n hx hb dX9_canBe_0 rfl (lv_at hl 1 rfl) ?_
  refine lv_tableIn (off := 103) (tgt := 104) hx hb dX9_canBe_1 (by decide) (by decide) (by decide) (by decide) ?_
  refine lv_iload_n hx hb dX9_canBe_104 rfl (lv_at hl 2 rfl) ?_
  refine lv_sipush (v := (-999)) hx hb dX9_canBe_105 (by decide) ?_
  refine lv_sipush (v := 999) hx hb dX9_canBe_108 (by decide) ?_
  refine rdS (As := [.int x2, .int (-999), .int 999]) S (c_X9_isIn_37 l D cI cZ cJ o q x2 lo_x2 hi_x2) ms_X9_isIn kw_7_101 ⟨rfl, rfl⟩ ⟨Nat.le_of_ble_eq_true rfl, Nat.le_of_ble_eq_true rfl⟩ hP hK hl.1 (Nat.le_of_ble_eq_true rfl) ⟨Nat.le_of_ble_eq_true rfl, Nat.le_of_ble_eq_true rfl⟩ dX9_canBe_111 ?_
  refine lv_if_eq (tgt := 130) hx hb dX9_canBe_114 (by decide) (fun c => absurd c (by decide)) (fun _ => ?_)
  refine lv_iload_n hx hb dX9_canBe_117 rfl (lv_at hl 3 rfl) ?_
  refine lv_if_ne (tgt := 130) hx hb dX9_canBe_118 (by decide) (fun c => absurd c (by decide)) (fun _ => ?_)
  refine lv_iload hx hb dX9_canBe_121 (lv_at hl 4 rfl) ?_
  refine lv_if_ne (tgt := 130) hx hb dX9_canBe_123 (by decide) (fun _ => ?_) (fun c => absurd c ne_x4_0)
  refine lv_iconst (v := 0) hx hb dX9_canBe_130 (by decide) ?_
  exact rdEndZ S hr hlocks dX9_canBe_131 rfl rfl

set_option maxHeartbeats 8000000 in
set_option maxRecDepth 100000 in
theorem c_X9_node_3 (l : Launch) (D : va_G) (cI cZ cJ : ClassId) (o : Nat) (q : Nat → Nat) (sz : Nat) (x2 : Int32) (x4 : Int32) (lo_x2 : (-999) ≤ x2) (hi_x2 : x2 ≤ 999) (ne_x4_0 : ¬ x4 = 0) : Met l yX9_node (uW yX9_node cX9_node 6 (some .int)) ({ frames := 2, cells := 0, slots := 0, locals := 46 }) (va_Pc [.ref o, .int 0, .int x2, .int 0, .int x4] (wS D (tyL cI cZ cJ) (mW o 0 q cI cZ) sz)) (wQi (0) D (mW o 1 q cI cZ) (va_A (mW o 0 q cI cZ) sz)) 0 0 (va_A (mW o 0 q cI cZ) sz) := by
  refine wStart (lv := [(0, .ref o), (1, .int 0), (2, .int x2), (3, .int 0), (4, .int x4)]) (Qc := fun A => wQi (0) D (mW o 1 q cI cZ) A) (by decide) (Nat.le_of_ble_eq_true rfl) rfl ?_
  intro p e s m args below meth c ls A H S hr hlocks hnm hl hK hP hD hS hA
  have hx := S.1
  have hb := S.2.1
  refine lv_aload_n hx hb dX9_node_0 rfl (lv_at hl 0 rfl) ?_
  refine lv_iconst (v := 0) hx hb dX9_node_1 (by decide) ?_
  refine xp (ci := 9) (v := .int 0) S inX9 tyX9 tyX9_ok nmX9 rfl hK hP hD hS mW_0 0 (by decide) kw_6_148 rfl rfl rfl rfl (Nat.le_of_ble_eq_true rfl) dX9_node_2 (fun H locs hP hD hS => ?_)
  have hP : va_P D vwCl (mW o 0 q cI cZ) H := hP
  have hD : va_D A (mW o 0 q cI cZ) := hD
  refine lv_iload_n hx hb dX9_node_5 rfl (lv_at hl 1 rfl) ?_
  refine lv_iconst (v := 0) hx hb dX9_node_6 (by decide) ?_
  refine lv_bipush (v := 21) hx hb dX9_node_7 (by decide) ?_
  refine rdS (As := [.int 0, .int 0, .int 21]) S (c_X9_isIn_34 l D cI cZ cJ o q) ms_X9_isIn kw_7_101 ⟨rfl, rfl⟩ ⟨Nat.le_of_ble_eq_true rfl, Nat.le_of_ble_eq_true rfl⟩ hP hK hl.1 (Nat.le_of_ble_eq_true rfl) ⟨Nat.le_of_ble_eq_true rfl, Nat.le_of_ble_eq_true rfl⟩ dX9_node_9 ?_
  refine lv_if_eq (tgt := 27) hx hb dX9_node_12 (by decide) (fun c => absurd c (by decide)) (fun _ => ?_)
  refine lv_aload_n hx hb dX9_node_15 rfl (lv_at hl 0 rfl) ?_
  refine lv_iload_n hx hb dX9_node_16 rfl (lv_at hl 1 rfl) ?_
  refine lv_iload_n hx hb dX9_node_17 rfl (lv_at hl 2 rfl) ?_
  refine lv_iload_n hx hb dX9_node_18 rfl (lv_at hl 3 rfl) ?_
  refine lv_iload hx hb dX9_node_19 (lv_at hl 4 rfl) ?_
  refine rdV (As := [.int 0, .int x2, .int 0, .int x4]) (ci := 9) S (c_X9_canBe_3 l D cI cZ cJ o q x2 x4 lo_x2 hi_x2 ne_x4_0) mi_X9_canBe kw_7_155 ⟨rfl, rfl⟩ ⟨Nat.le_of_ble_eq_true rfl, Nat.le_of_ble_eq_true rfl⟩ hP hK mW_0 rfl rfl hl.1 (Nat.le_of_ble_eq_true rfl) ⟨Nat.le_of_ble_eq_true rfl, Nat.le_of_ble_eq_true rfl⟩ dX9_node_21 ?_
  refine lv_if_ne (tgt := 33) hx hb dX9_node_24 (by decide) (fun c => absurd c (by decide)) (fun _ => ?_)
  refine lv_aload_n hx hb dX9_node_27 rfl (lv_at hl 0 rfl) ?_
  refine lv_iconst (v := 1) hx hb dX9_node_28 (by decide) ?_
  refine wrV (As := [.int 1]) (ci := 9) S (c_X9_no_0 l D cI cZ cJ o q H.size) mi_X9_no kw_7_104 rfl rfl ⟨Nat.le_of_ble_eq_true rfl, Nat.le_of_ble_eq_true rfl⟩ hP hD hK hS hA mW_0 rfl rfl hl.1 (Nat.le_of_ble_eq_true rfl) ⟨Nat.le_of_ble_eq_true rfl, Nat.le_of_ble_eq_true rfl⟩ dX9_node_29 (fun H locs hz hP hD hS => ?_)
  exact wEnd S hr hlocks hP hD hS (Nat.le_of_ble_eq_true rfl) (Nat.le_of_ble_eq_true rfl) dX9_node_32 rfl

set_option maxHeartbeats 8000000 in
set_option maxRecDepth 100000 in
theorem h_node_4 (l : Launch) (D : va_G) (cI cZ cJ : ClassId) (o : Nat) (u : Nat → Nat) (ao : Nat) (hst : l.stackTraces = false) (ra ga : Nat → Nat) (sz : Nat) (x2 : Int32) (x3 : Int32) (x4 : Int32) (lo_x2 : (-999) ≤ x2) (hi_x2 : x2 ≤ 999) (ne_x3_0 : ¬ x3 = 0) : vx_Met l yL_node (uWh yL_node cL_node 7 (some .int) [(0, 14, 17, 15), (0, 14, 21, 17)]) ({ frames := 8, cells := 1, slots := 6, locals := 126 }) (va_Pc [.ref o, .int 0, .int x2, .int x3, .int x4, .ref ao] (lS ra ga D (tyL cI cZ cJ) ((xW o u cI cZ cJ) ++ [(ao, .inl (cJ, 1, .inr (.inl (fun _ => 0))))]) sz)) (wQi (1) D ((xW o u cI cZ cJ) ++ [(ao, .inl (cJ, 1, .inr (.inl (fun _ => 0))))]) (va_A ((xW o u cI cZ cJ) ++ [(ao, .inl (cJ, 1, .inr (.inl (fun _ => 0))))]) sz)) (xN (va_A ((xW o u cI cZ cJ) ++ [(ao, .inl (cJ, 1, .inr (.inl (fun _ => 0))))]) sz)) 1 6 (va_A ((xW o u cI cZ cJ) ++ [(ao, .inl (cJ, 1, .inr (.inl (fun _ => 0))))]) sz) := by
  refine hStart (l := l) (y := yL_node) (b := cL_node) (n := 7) (r := (some .int)) (hh := [(0, 14, 17, 15), (0, 14, 21, 17)]) (rm := ({ frames := 8, cells := 1, slots := 6, locals := 126 })) (mc := 1) (ms := 6) (ra := ra) (ga := ga) (D := D) (tys := tyL cI cZ cJ) (ws := ((xW o u cI cZ cJ) ++ [(ao, .inl (cJ, 1, .inr (.inl (fun _ => 0))))])) (av := [.ref o, .int 0, .int x2, .int x3, .int x4, .ref ao]) (sz := sz) (lv := [(0, .ref o), (1, .int 0), (2, .int x2), (3, .int x3), (4, .int x4), (5, .ref ao)]) (Qc := fun A => wQi (1) D ((xW o u cI cZ cJ) ++ [(ao, .inl (cJ, 1, .inr (.inl (fun _ => 0))))]) A) (by decide) (Nat.le_of_ble_eq_true rfl) rfl ?_
  intro p e s m args below meth c ls A H S hr hlocks htab hl hK hP hD hS hA hB hC
  have hx := S.1
  have hb := S.2.1
  refine lv_aload hx hb dL_node_0 (lv_at hl 5 rfl) ?_
  refine lv_iconst (v := 0) hx hb dL_node_2 (by decide) ?_
  refine lv_aload_n hx hb dL_node_3 rfl (lv_at hl 0 rfl) ?_
  refine lv_iload_n hx hb dL_node_4 rfl (lv_at hl 1 rfl) ?_
  refine lv_iload_n hx hb dL_node_5 rfl (lv_at hl 2 rfl) ?_
  refine lv_iload_n hx hb dL_node_6 rfl (lv_at hl 3 rfl) ?_
  refine lv_iload hx hb dL_node_7 (lv_at hl 4 rfl) ?_
  refine cVi [] [(ao, .inl (cJ, 1, .inr (.inl (fun _ => 0))))] (As := [.int 0, .int x2, .int x3, .int x4]) (ci := 8) S (c_X8_node_4 l D cI cZ cJ o u hst ra ga H.size x2 x3 x4 lo_x2 hi_x2 ne_x3_0) mi_X8_node kw_6_23 rfl rfl ⟨Nat.le_of_ble_eq_true rfl, Nat.le_of_ble_eq_true rfl⟩ hP hD hK hS hA hB xW_0 rfl rfl hl.1 (Nat.le_of_ble_eq_true rfl) ⟨Nat.le_of_ble_eq_true rfl, Nat.le_of_ble_eq_true rfl⟩ dL_node_9 (fun ce q9 H locs hz hP hD hS hce hcv hcl => ?_)
  refine vx_catch (name := "java/lang/IllegalArgumentException") S.2.2.2.1 [] (⟨0, 14, 17, 15⟩ : ExceptionTableEntry) [(⟨0, 14, 21, 17⟩ : ExceptionTableEntry)] (htab.trans rfl) (fun _ h => absurd h List.not_mem_nil) (by decide) (by decide) (S.2.2.2.2 _ kw_5_177) (va_Nw.use rfl hB.c1) hce hcv hcl ?_
  have hP : va_P D vwCl ((xW o u cI cZ cJ) ++ [(ao, .inl (cJ, 1, .inr (.inl (fun _ => 0))))]) H := hP
  have hD : va_D A ((xW o u cI cZ cJ) ++ [(ao, .inl (cJ, 1, .inr (.inl (fun _ => 0))))]) := hD
  refine lv_astore (lv' := [(6, .ref q9), (0, .ref o), (1, .int 0), (2, .int x2), (3, .int x3), (4, .int x4), (5, .ref ao)]) hx hb dL_node_17 hl (by decide) rfl (fun ls hl => ?_)
  refine lv_iconst (v := 1) hx hb dL_node_19 (by decide) ?_
  exact vx_ret (wEnd S hr hlocks hP hD hS (Nat.le_of_ble_eq_true rfl) (Nat.le_of_ble_eq_true rfl) dL_node_20 rfl)

set_option maxHeartbeats 8000000 in
set_option maxRecDepth 100000 in
theorem c_X9_canBe_4 (l : Launch) (D : va_G) (cI cZ cJ : ClassId) (o : Nat) (q : Nat → Nat) (x2 : Int32) (x3 : Int32) (x4 : Int32) (lo_x2 : (-999) ≤ x2) (hi_x2 : x2 ≤ 999) (ne_x3_0 : ¬ x3 = 0) : Met l yX9_canBe (uW yX9_canBe cX9_canBe 5 (some .boolean)) ({ frames := 1, cells := 0, slots := 0, locals := 22 }) (va_Pc [.ref o, .int 0, .int x2, .int x3, .int x4] (pS D (tyL cI cZ cJ) (mW o 0 q cI cZ))) (QcRead (0)) 0 0 (fun _ => False) := by
  refine rdStart (lv := [(0, .ref o), (1, .int 0), (2, .int x2), (3, .int x3), (4, .int x4)]) (by decide) (Nat.le_of_ble_eq_true rfl) rfl ?_
  intro p e s m args below meth c ls S hr hlocks hl hP hK
  have hx := S.1
  have hb := S.2.1
  refine lv_iload_n hx hb dX9_canBe_0 rfl (lv_at hl 1 rfl) ?_
  refine lv_tableIn (off := 103) (tgt := 104) hx hb dX9_canBe_1 (by decide) (by decide) (by decide) (by decide) ?_
  refine lv_iload_n hx hb dX9_canBe_104 rfl (lv_at hl 2 rfl) ?_
  refine lv_sipush (v := (-999)) hx hb dX9_canBe_105 (by decide) ?_
  refine lv_sipush (v := 999) hx hb dX9_canBe_108 (by decide) ?_
  refine rdS (As := [.int x2, .int (-999), .int 999]) S (c_X9_isIn_37 l D cI cZ cJ o q x2 lo_x2 hi_x2) ms_X9_isIn kw_7_101 ⟨rfl, rfl⟩ ⟨Nat.le_of_ble_eq_true rfl, Nat.le_of_ble_eq_true rfl⟩ hP hK hl.1 (Nat.le_of_ble_eq_true rfl) ⟨Nat.le_of_ble_eq_true rfl, Nat.le_of_ble_eq_true rfl⟩ dX9_canBe_111 ?_
  refine lv_if_eq (tgt := 130) hx hb dX9_canBe_114 (by decide) (fun c => absurd c (by decide)) (fun _ => ?_)
  refine lv_iload_n hx hb dX9_canBe_117 rfl (lv_at hl 3 rfl) ?_
  refine lv_if_ne (tgt := 130) hx hb dX9_canBe_118 (by decide) (fun _ => ?_) (fun c => absurd c ne_x3_0)
  refine lv_iconst (v := 0) hx hb dX9_canBe_130 (by decide) ?_
  exact rdEndZ S hr hlocks dX9_canBe_131 rfl rfl

set_option maxHeartbeats 8000000 in
set_option maxRecDepth 100000 in
theorem c_X9_node_4 (l : Launch) (D : va_G) (cI cZ cJ : ClassId) (o : Nat) (q : Nat → Nat) (sz : Nat) (x2 : Int32) (x3 : Int32) (x4 : Int32) (lo_x2 : (-999) ≤ x2) (hi_x2 : x2 ≤ 999) (ne_x3_0 : ¬ x3 = 0) : Met l yX9_node (uW yX9_node cX9_node 6 (some .int)) ({ frames := 2, cells := 0, slots := 0, locals := 46 }) (va_Pc [.ref o, .int 0, .int x2, .int x3, .int x4] (wS D (tyL cI cZ cJ) (mW o 0 q cI cZ) sz)) (wQi (0) D (mW o 1 q cI cZ) (va_A (mW o 0 q cI cZ) sz)) 0 0 (va_A (mW o 0 q cI cZ) sz) := by
  refine wStart (lv := [(0, .ref o), (1, .int 0), (2, .int x2), (3, .int x3), (4, .int x4)]) (Qc := fun A => wQi (0) D (mW o 1 q cI cZ) A) (by decide) (Nat.le_of_ble_eq_true rfl) rfl ?_
  intro p e s m args below meth c ls A H S hr hlocks hnm hl hK hP hD hS hA
  have hx := S.1
  have hb := S.2.1
  refine lv_aload_n hx hb dX9_node_0 rfl (lv_at hl 0 rfl) ?_
  refine lv_iconst (v := 0) hx hb dX9_node_1 (by decide) ?_
  refine xp (ci := 9) (v := .int 0) S inX9 tyX9 tyX9_ok nmX9 rfl hK hP hD hS mW_0 0 (by decide) kw_6_148 rfl rfl rfl rfl (Nat.le_of_ble_eq_true rfl) dX9_node_2 (fun H locs hP hD hS => ?_)
  have hP : va_P D vwCl (mW o 0 q cI cZ) H := hP
  have hD : va_D A (mW o 0 q cI cZ) := hD
  refine lv_iload_n hx hb dX9_node_5 rfl (lv_at hl 1 rfl) ?_
  refine lv_iconst (v := 0) hx hb dX9_node_6 (by decide) ?_
  refine lv_bipush (v := 21) hx hb dX9_node_7 (by decide) ?_
  refine rdS (As := [.int 0, .int 0, .int 21]) S (c_X9_isIn_34 l D cI cZ cJ o q) ms_X9_isIn kw_7_101 ⟨rfl, rfl⟩ ⟨Nat.le_of_ble_eq_true rfl, Nat.le_of_ble_eq_true rfl⟩ hP hK hl.1 (Nat.le_of_ble_eq_true rfl) ⟨Nat.le_of_ble_eq_true rfl, Nat.le_of_ble_eq_true rfl⟩ dX9_node_9 ?_
  refine lv_if_eq (tgt := 27) hx hb dX9_node_12 (by decide) (fun c => absurd c (by decide)) (fun _ => ?_)
  refine lv_aload_n hx hb dX9_node_15 rfl (lv_at hl 0 rfl) ?_
  refine lv_iload_n hx hb dX9_node_16 rfl (lv_at hl 1 rfl) ?_
  refine lv_iload_n hx hb dX9_node_17 rfl (lv_at hl 2 rfl) ?_
  refine lv_iload_n hx hb dX9_node_18 rfl (lv_at hl 3 rfl) ?_
  refine lv_iload hx hb dX9_node_19 (lv_at hl 4 rfl) ?_
  refine rdV (As := [.int 0, .int x2, .int x3, .int x4]) (ci := 9) S (c_X9_canBe_4 l D cI cZ cJ o q x2 x3 x4 lo_x2 hi_x2 ne_x3_0) mi_X9_canBe kw_7_155 ⟨rfl, rfl⟩ ⟨Nat.le_of_ble_eq_true rfl, Nat.le_of_ble_eq_true rfl⟩ hP hK mW_0 rfl rfl hl.1 (Nat.le_of_ble_eq_true rfl) ⟨Nat.le_of_ble_eq_true rfl, Nat.le_of_ble_eq_true rfl⟩ dX9_node_21 ?_
  refine lv_if_ne (tgt := 33) hx hb dX9_node_24 (by decide) (fun c => absurd c (by decide)) (fun _ => ?_)
  refine lv_aload_n hx hb dX9_node_27 rfl (lv_at hl 0 rfl) ?_
  refine lv_iconst (v := 1) hx hb dX9_node_28 (by decide) ?_
  refine wrV (As := [.int 1]) (ci := 9) S (c_X9_no_0 l D cI cZ cJ o q H.size) mi_X9_no kw_7_104 rfl rfl ⟨Nat.le_of_ble_eq_true rfl, Nat.le_of_ble_eq_true rfl⟩ hP hD hK hS hA mW_0 rfl rfl hl.1 (Nat.le_of_ble_eq_true rfl) ⟨Nat.le_of_ble_eq_true rfl, Nat.le_of_ble_eq_true rfl⟩ dX9_node_29 (fun H locs hz hP hD hS => ?_)
  exact wEnd S hr hlocks hP hD hS (Nat.le_of_ble_eq_true rfl) (Nat.le_of_ble_eq_true rfl) dX9_node_32 rfl

set_option maxHeartbeats 8000000 in
set_option maxRecDepth 100000 in
theorem h_node_5 (l : Launch) (D : va_G) (cI cZ cJ : ClassId) (o : Nat) (u : Nat → Nat) (ao : Nat) (hst : l.stackTraces = false) (ra ga : Nat → Nat) (sz : Nat) (x2 : Int32) (x3 : Int32) (x4 : Int32) (hi_x2 : x2 ≤ (-1)) : vx_Met l yL_node (uWh yL_node cL_node 7 (some .int) [(0, 14, 17, 15), (0, 14, 21, 17)]) ({ frames := 8, cells := 1, slots := 6, locals := 126 }) (va_Pc [.ref o, .int 1, .int x2, .int x3, .int x4, .ref ao] (lS ra ga D (tyL cI cZ cJ) ((xW o u cI cZ cJ) ++ [(ao, .inl (cJ, 1, .inr (.inl (fun _ => 0))))]) sz)) (wQi (1) D ((xW o u cI cZ cJ) ++ [(ao, .inl (cJ, 1, .inr (.inl (fun _ => 0))))]) (va_A ((xW o u cI cZ cJ) ++ [(ao, .inl (cJ, 1, .inr (.inl (fun _ => 0))))]) sz)) (xN (va_A ((xW o u cI cZ cJ) ++ [(ao, .inl (cJ, 1, .inr (.inl (fun _ => 0))))]) sz)) 1 6 (va_A ((xW o u cI cZ cJ) ++ [(ao, .inl (cJ, 1, .inr (.inl (fun _ => 0))))]) sz) := by
  refine hStart (l := l) (y := yL_node) (b := cL_node) (n := 7) (r := (some .int)) (hh := [(0, 14, 17, 15), (0, 14, 21, 17)]) (rm := ({ frames := 8, cells := 1, slots := 6, locals := 126 })) (mc := 1) (ms := 6) (ra := ra) (ga := ga) (D := D) (tys := tyL cI cZ cJ) (ws := ((xW o u cI cZ cJ) ++ [(ao, .inl (cJ, 1, .inr (.inl (fun _ => 0))))])) (av := [.ref o, .int 1, .int x2, .int x3, .int x4, .ref ao]) (sz := sz) (lv := [(0, .ref o), (1, .int 1), (2, .int x2), (3, .int x3), (4, .int x4), (5, .ref ao)]) (Qc := fun A => wQi (1) D ((xW o u cI cZ cJ) ++ [(ao, .inl (cJ, 1, .inr (.inl (fun _ => 0))))]) A) (by decide) (Nat.le_of_ble_eq_true rfl) rfl ?_
  intro p e s m args below meth c ls A H S hr hlocks htab hl hK hP hD hS hA hB hC
  have hx := S.1
  have hb := S.2.1
  refine lv_aload hx hb dL_node_0 (lv_at hl 5 rfl) ?_
  refine lv_iconst (v := 0) hx hb dL_node_2 (by decide) ?_
  refine lv_aload_n hx hb dL_node_3 rfl (lv_at hl 0 rfl) ?_
  refine lv_iload_n hx hb dL_node_4 rfl (lv_at hl 1 rfl) ?_
  refine lv_iload_n hx hb dL_node_5 rfl (lv_at hl 2 rfl) ?_
  refine lv_iload_n hx hb dL_node_6 rfl (lv_at hl 3 rfl) ?_
  refine lv_iload hx hb dL_node_7 (lv_at hl 4 rfl) ?_
  refine cVi [] [(ao, .inl (cJ, 1, .inr (.inl (fun _ => 0))))] (As := [.int 1, .int x2, .int x3, .int x4]) (ci := 8) S (c_X8_node_5 l D cI cZ cJ o u hst ra ga H.size x2 x3 x4 hi_x2) mi_X8_node kw_6_23 rfl rfl ⟨Nat.le_of_ble_eq_true rfl, Nat.le_of_ble_eq_true rfl⟩ hP hD hK hS hA hB xW_0 rfl rfl hl.1 (Nat.le_of_ble_eq_true rfl) ⟨Nat.le_of_ble_eq_true rfl, Nat.le_of_ble_eq_true rfl⟩ dL_node_9 (fun ce q9 H locs hz hP hD hS hce hcv hcl => ?_)
  refine vx_catch (name := "java/lang/IllegalArgumentException") S.2.2.2.1 [] (⟨0, 14, 17, 15⟩ : ExceptionTableEntry) [(⟨0, 14, 21, 17⟩ : ExceptionTableEntry)] (htab.trans rfl) (fun _ h => absurd h List.not_mem_nil) (by decide) (by decide) (S.2.2.2.2 _ kw_5_177) (va_Nw.use rfl hB.c1) hce hcv hcl ?_
  have hP : va_P D vwCl ((xW o u cI cZ cJ) ++ [(ao, .inl (cJ, 1, .inr (.inl (fun _ => 0))))]) H := hP
  have hD : va_D A ((xW o u cI cZ cJ) ++ [(ao, .inl (cJ, 1, .inr (.inl (fun _ => 0))))]) := hD
  refine lv_astore (lv' := [(6, .ref q9), (0, .ref o), (1, .int 1), (2, .int x2), (3, .int x3), (4, .int x4), (5, .ref ao)]) hx hb dL_node_17 hl (by decide) rfl (fun ls hl => ?_)
  refine lv_iconst (v := 1) hx hb dL_node_19 (by decide) ?_
  exact vx_ret (wEnd S hr hlocks hP hD hS (Nat.le_of_ble_eq_true rfl) (Nat.le_of_ble_eq_true rfl) dL_node_20 rfl)

set_option maxHeartbeats 8000000 in
set_option maxRecDepth 100000 in
theorem c_X9_isIn_38 (l : Launch) (D : va_G) (cI cZ cJ : ClassId) (o : Nat) (q : Nat → Nat) : Met l yX9_isIn (uW yX9_isIn cX9_isIn 3 (some .boolean)) ({ frames := 0, cells := 0, slots := 0, locals := 0 }) (va_Pc [.int 1, .int 0, .int 21] (pS D (tyL cI cZ cJ) (mW o 0 q cI cZ))) (QcRead (1)) 0 0 (fun _ => False) := by
  refine rdStart (lv := [(0, .int 1), (1, .int 0), (2, .int 21)]) (by decide) (Nat.le_of_ble_eq_true rfl) rfl ?_
  intro p e s m args below meth c ls S hr hlocks hl hP hK
  have hx := S.1
  have hb := S.2.1
  refine lv_iload_n hx hb dX9_isIn_0 rfl (lv_at hl 0 rfl) ?_
  refine lv_iload_n hx hb dX9_isIn_1 rfl (lv_at hl 1 rfl) ?_
  refine lv_icmp_lt (tgt := 14) hx hb dX9_isIn_2 (by decide) (fun c => absurd c (by decide)) (fun _ => ?_)
  refine lv_iload_n hx hb dX9_isIn_5 rfl (lv_at hl 0 rfl) ?_
  refine lv_iload_n hx hb dX9_isIn_6 rfl (lv_at hl 2 rfl) ?_
  refine lv_icmp_gt (tgt := 14) hx hb dX9_isIn_7 (by decide) (fun c => absurd c (by decide)) (fun _ => ?_)
  refine lv_iconst (v := 1) hx hb dX9_isIn_10 (by decide) ?_
  refine lv_goto (tgt := 15) hx hb dX9_isIn_11 (by decide) ?_
  exact rdEndZ S hr hlocks dX9_isIn_15 rfl rfl

set_option maxHeartbeats 8000000 in
set_option maxRecDepth 100000 in
theorem c_X9_canBe_5 (l : Launch) (D : va_G) (cI cZ cJ : ClassId) (o : Nat) (q : Nat → Nat) (x2 : Int32) (x3 : Int32) (x4 : Int32) (hi_x2 : x2 ≤ (-1)) : Met l yX9_canBe (uW yX9_canBe cX9_canBe 5 (some .boolean)) ({ frames := 2, cells := 0, slots := 0, locals := 42 }) (va_Pc [.ref o, .int 1, .int x2, .int x3, .int x4] (pS D (tyL cI cZ cJ) (mW o 0 q cI cZ))) (QcRead (0)) 0 0 (fun _ => False) := by
  refine rdStart (lv := [(0, .ref o), (1, .int 1), (2, .int x2), (3, .int x3), (4, .int x4)]) (by decide) (Nat.le_of_ble_eq_true rfl) rfl ?_
  intro p e s m args below meth c ls S hr hlocks hl hP hK
  have hx := S.1
  have hb := S.2.1
  refine lv_iload_n hx hb dX9_canBe_0 rfl (lv_at hl 1 rfl) ?_
  refine lv_tableIn (off := 131) (tgt := 132) hx hb dX9_canBe_1 (by decide) (by decide) (by decide) (by decide) ?_
  refine lv_iload_n hx hb dX9_canBe_132 rfl (lv_at hl 2 rfl) ?_
  refine rdS (As := [.int x2]) S (c_X9_isName_0 l D cI cZ cJ o q x2 hi_x2) ms_X9_isName kw_7_108 ⟨rfl, rfl⟩ ⟨Nat.le_of_ble_eq_true rfl, Nat.le_of_ble_eq_true rfl⟩ hP hK hl.1 (Nat.le_of_ble_eq_true rfl) ⟨Nat.le_of_ble_eq_true rfl, Nat.le_of_ble_eq_true rfl⟩ dX9_canBe_133 ?_
  refine lv_if_eq (tgt := 152) hx hb dX9_canBe_136 (by decide) (fun _ => ?_) (fun c => absurd c (by decide))
  refine lv_iconst (v := 0) hx hb dX9_canBe_152 (by decide) ?_
  exact rdEndZ S hr hlocks dX9_canBe_153 rfl rfl

set_option maxHeartbeats 8000000 in
set_option maxRecDepth 100000 in
theorem c_X9_node_5 (l : Launch) (D : va_G) (cI cZ cJ : ClassId) (o : Nat) (q : Nat → Nat) (sz : Nat) (x2 : Int32) (x3 : Int32) (x4 : Int32) (hi_x2 : x2 ≤ (-1)) : Met l yX9_node (uW yX9_node cX9_node 6 (some .int)) ({ frames := 3, cells := 0, slots := 0, locals := 66 }) (va_Pc [.ref o, .int 1, .int x2, .int x3, .int x4] (wS D (tyL cI cZ cJ) (mW o 0 q cI cZ) sz)) (wQi (0) D (mW o 1 q cI cZ) (va_A (mW o 0 q cI cZ) sz)) 0 0 (va_A (mW o 0 q cI cZ) sz) := by
  refine wStart (lv := [(0, .ref o), (1, .int 1), (2, .int x2), (3, .int x3), (4, .int x4)]) (Qc := fun A => wQi (0) D (mW o 1 q cI cZ) A) (by decide) (Nat.le_of_ble_eq_true rfl) rfl ?_
  intro p e s m args below meth c ls A H S hr hlocks hnm hl hK hP hD hS hA
  have hx := S.1
  have hb := S.2.1
  refine lv_aload_n hx hb dX9_node_0 rfl (lv_at hl 0 rfl) ?_
  refine lv_iconst (v := 0) hx hb dX9_node_1 (by decide) ?_
  refine xp (ci := 9) (v := .int 0) S inX9 tyX9 tyX9_ok nmX9 rfl hK hP hD hS mW_0 0 (by decide) kw_6_148 rfl rfl rfl rfl (Nat.le_of_ble_eq_true rfl) dX9_node_2 (fun H locs hP hD hS => ?_)
  have hP : va_P D vwCl (mW o 0 q cI cZ) H := hP
  have hD : va_D A (mW o 0 q cI cZ) := hD
  refine lv_iload_n hx hb dX9_node_5 rfl (lv_at hl 1 rfl) ?_
  refine lv_iconst (v := 0) hx hb dX9_node_6 (by decide) ?_
  refine lv_bipush (v := 21) hx hb dX9_node_7 (by decide) ?_
  refine rdS (As := [.int 1, .int 0, .int 21]) S (c_X9_isIn_38 l D cI cZ cJ o q) ms_X9_isIn kw_7_101 ⟨rfl, rfl⟩ ⟨Nat.le_of_ble_eq_true rfl, Nat.le_of_ble_eq_true rfl⟩ hP hK hl.1 (Nat.le_of_ble_eq_true rfl) ⟨Nat.le_of_ble_eq_true rfl, Nat.le_of_ble_eq_true rfl⟩ dX9_node_9 ?_
  refine lv_if_eq (tgt := 27) hx hb dX9_node_12 (by decide) (fun c => absurd c (by decide)) (fun _ => ?_)
  refine lv_aload_n hx hb dX9_node_15 rfl (lv_at hl 0 rfl) ?_
  refine lv_iload_n hx hb dX9_node_16 rfl (lv_at hl 1 rfl) ?_
  refine lv_iload_n hx hb dX9_node_17 rfl (lv_at hl 2 rfl) ?_
  refine lv_iload_n hx hb dX9_node_18 rfl (lv_at hl 3 rfl) ?_
  refine lv_iload hx hb dX9_node_19 (lv_at hl 4 rfl) ?_
  refine rdV (As := [.int 1, .int x2, .int x3, .int x4]) (ci := 9) S (c_X9_canBe_5 l D cI cZ cJ o q x2 x3 x4 hi_x2) mi_X9_canBe kw_7_155 ⟨rfl, rfl⟩ ⟨Nat.le_of_ble_eq_true rfl, Nat.le_of_ble_eq_true rfl⟩ hP hK mW_0 rfl rfl hl.1 (Nat.le_of_ble_eq_true rfl) ⟨Nat.le_of_ble_eq_true rfl, Nat.le_of_ble_eq_true rfl⟩ dX9_node_21 ?_
  refine lv_if_ne (tgt := 33) hx hb dX9_node_24 (by decide) (fun c => absurd c (by decide)) (fun _ => ?_)
  refine lv_aload_n hx hb dX9_node_27 rfl (lv_at hl 0 rfl) ?_
  refine lv_iconst (v := 1) hx hb dX9_node_28 (by decide) ?_
  refine wrV (As := [.int 1]) (ci := 9) S (c_X9_no_0 l D cI cZ cJ o q H.size) mi_X9_no kw_7_104 rfl rfl ⟨Nat.le_of_ble_eq_true rfl, Nat.le_of_ble_eq_true rfl⟩ hP hD hK hS hA mW_0 rfl rfl hl.1 (Nat.le_of_ble_eq_true rfl) ⟨Nat.le_of_ble_eq_true rfl, Nat.le_of_ble_eq_true rfl⟩ dX9_node_29 (fun H locs hz hP hD hS => ?_)
  exact wEnd S hr hlocks hP hD hS (Nat.le_of_ble_eq_true rfl) (Nat.le_of_ble_eq_true rfl) dX9_node_32 rfl

set_option maxHeartbeats 8000000 in
set_option maxRecDepth 100000 in
theorem h_node_6 (l : Launch) (D : va_G) (cI cZ cJ : ClassId) (o : Nat) (u : Nat → Nat) (ao : Nat) (hst : l.stackTraces = false) (ra ga : Nat → Nat) (sz : Nat) (x2 : Int32) (x3 : Int32) (x4 : Int32) (lo_x2 : 16 ≤ x2) : vx_Met l yL_node (uWh yL_node cL_node 7 (some .int) [(0, 14, 17, 15), (0, 14, 21, 17)]) ({ frames := 8, cells := 1, slots := 6, locals := 126 }) (va_Pc [.ref o, .int 1, .int x2, .int x3, .int x4, .ref ao] (lS ra ga D (tyL cI cZ cJ) ((xW o u cI cZ cJ) ++ [(ao, .inl (cJ, 1, .inr (.inl (fun _ => 0))))]) sz)) (wQi (1) D ((xW o u cI cZ cJ) ++ [(ao, .inl (cJ, 1, .inr (.inl (fun _ => 0))))]) (va_A ((xW o u cI cZ cJ) ++ [(ao, .inl (cJ, 1, .inr (.inl (fun _ => 0))))]) sz)) (xN (va_A ((xW o u cI cZ cJ) ++ [(ao, .inl (cJ, 1, .inr (.inl (fun _ => 0))))]) sz)) 1 6 (va_A ((xW o u cI cZ cJ) ++ [(ao, .inl (cJ, 1, .inr (.inl (fun _ => 0))))]) sz) := by
  refine hStart (l := l) (y := yL_node) (b := cL_node) (n := 7) (r := (some .int)) (hh := [(0, 14, 17, 15), (0, 14, 21, 17)]) (rm := ({ frames := 8, cells := 1, slots := 6, locals := 126 })) (mc := 1) (ms := 6) (ra := ra) (ga := ga) (D := D) (tys := tyL cI cZ cJ) (ws := ((xW o u cI cZ cJ) ++ [(ao, .inl (cJ, 1, .inr (.inl (fun _ => 0))))])) (av := [.ref o, .int 1, .int x2, .int x3, .int x4, .ref ao]) (sz := sz) (lv := [(0, .ref o), (1, .int 1), (2, .int x2), (3, .int x3), (4, .int x4), (5, .ref ao)]) (Qc := fun A => wQi (1) D ((xW o u cI cZ cJ) ++ [(ao, .inl (cJ, 1, .inr (.inl (fun _ => 0))))]) A) (by decide) (Nat.le_of_ble_eq_true rfl) rfl ?_
  intro p e s m args below meth c ls A H S hr hlocks htab hl hK hP hD hS hA hB hC
  have hx := S.1
  have hb := S.2.1
  refine lv_aload hx hb dL_node_0 (lv_at hl 5 rfl) ?_
  refine lv_iconst (v := 0) hx hb dL_node_2 (by decide) ?_
  refine lv_aload_n hx hb dL_node_3 rfl (lv_at hl 0 rfl) ?_
  refine lv_iload_n hx hb dL_node_4 rfl (lv_at hl 1 rfl) ?_
  refine lv_iload_n hx hb dL_node_5 rfl (lv_at hl 2 rfl) ?_
  refine lv_iload_n hx hb dL_node_6 rfl (lv_at hl 3 rfl) ?_
  refine lv_iload hx hb dL_node_7 (lv_at hl 4 rfl) ?_
  refine cVi [] [(ao, .inl (cJ, 1, .inr (.inl (fun _ => 0))))] (As := [.int 1, .int x2, .int x3, .int x4]) (ci := 8) S (c_X8_node_6 l D cI cZ cJ o u hst ra ga H.size x2 x3 x4 lo_x2) mi_X8_node kw_6_23 rfl rfl ⟨Nat.le_of_ble_eq_true rfl, Nat.le_of_ble_eq_true rfl⟩ hP hD hK hS hA hB xW_0 rfl rfl hl.1 (Nat.le_of_ble_eq_true rfl) ⟨Nat.le_of_ble_eq_true rfl, Nat.le_of_ble_eq_true rfl⟩ dL_node_9 (fun ce q9 H locs hz hP hD hS hce hcv hcl => ?_)
  refine vx_catch (name := "java/lang/IllegalArgumentException") S.2.2.2.1 [] (⟨0, 14, 17, 15⟩ : ExceptionTableEntry) [(⟨0, 14, 21, 17⟩ : ExceptionTableEntry)] (htab.trans rfl) (fun _ h => absurd h List.not_mem_nil) (by decide) (by decide) (S.2.2.2.2 _ kw_5_177) (va_Nw.use rfl hB.c1) hce hcv hcl ?_
  have hP : va_P D vwCl ((xW o u cI cZ cJ) ++ [(ao, .inl (cJ, 1, .inr (.inl (fun _ => 0))))]) H := hP
  have hD : va_D A ((xW o u cI cZ cJ) ++ [(ao, .inl (cJ, 1, .inr (.inl (fun _ => 0))))]) := hD
  refine lv_astore (lv' := [(6, .ref q9), (0, .ref o), (1, .int 1), (2, .int x2), (3, .int x3), (4, .int x4), (5, .ref ao)]) hx hb dL_node_17 hl (by decide) rfl (fun ls hl => ?_)
  refine lv_iconst (v := 1) hx hb dL_node_19 (by decide) ?_
  exact vx_ret (wEnd S hr hlocks hP hD hS (Nat.le_of_ble_eq_true rfl) (Nat.le_of_ble_eq_true rfl) dL_node_20 rfl)

set_option maxHeartbeats 8000000 in
set_option maxRecDepth 100000 in
theorem c_X9_canBe_6 (l : Launch) (D : va_G) (cI cZ cJ : ClassId) (o : Nat) (q : Nat → Nat) (x2 : Int32) (x3 : Int32) (x4 : Int32) (lo_x2 : 16 ≤ x2) : Met l yX9_canBe (uW yX9_canBe cX9_canBe 5 (some .boolean)) ({ frames := 2, cells := 0, slots := 0, locals := 42 }) (va_Pc [.ref o, .int 1, .int x2, .int x3, .int x4] (pS D (tyL cI cZ cJ) (mW o 0 q cI cZ))) (QcRead (0)) 0 0 (fun _ => False) := by
  refine rdStart (lv := [(0, .ref o), (1, .int 1), (2, .int x2), (3, .int x3), (4, .int x4)]) (by decide) (Nat.le_of_ble_eq_true rfl) rfl ?_
  intro p e s m args below meth c ls S hr hlocks hl hP hK
  have hx := S.1
  have hb := S.2.1
  refine lv_iload_n hx hb dX9_canBe_0 rfl (lv_at hl 1 rfl) ?_
  refine lv_tableIn (off := 131) (tgt := 132) hx hb dX9_canBe_1 (by decide) (by decide) (by decide) (by decide) ?_
  refine lv_iload_n hx hb dX9_canBe_132 rfl (lv_at hl 2 rfl) ?_
  refine rdS (As := [.int x2]) S (c_X9_isName_1 l D cI cZ cJ o q x2 lo_x2) ms_X9_isName kw_7_108 ⟨rfl, rfl⟩ ⟨Nat.le_of_ble_eq_true rfl, Nat.le_of_ble_eq_true rfl⟩ hP hK hl.1 (Nat.le_of_ble_eq_true rfl) ⟨Nat.le_of_ble_eq_true rfl, Nat.le_of_ble_eq_true rfl⟩ dX9_canBe_133 ?_
  refine lv_if_eq (tgt := 152) hx hb dX9_canBe_136 (by decide) (fun _ => ?_) (fun c => absurd c (by decide))
  refine lv_iconst (v := 0) hx hb dX9_canBe_152 (by decide) ?_
  exact rdEndZ S hr hlocks dX9_canBe_153 rfl rfl

set_option maxHeartbeats 8000000 in
set_option maxRecDepth 100000 in
theorem c_X9_node_6 (l : Launch) (D : va_G) (cI cZ cJ : ClassId) (o : Nat) (q : Nat → Nat) (sz : Nat) (x2 : Int32) (x3 : Int32) (x4 : Int32) (lo_x2 : 16 ≤ x2) : Met l yX9_node (uW yX9_node cX9_node 6 (some .int)) ({ frames := 3, cells := 0, slots := 0, locals := 66 }) (va_Pc [.ref o, .int 1, .int x2, .int x3, .int x4] (wS D (tyL cI cZ cJ) (mW o 0 q cI cZ) sz)) (wQi (0) D (mW o 1 q cI cZ) (va_A (mW o 0 q cI cZ) sz)) 0 0 (va_A (mW o 0 q cI cZ) sz) := by
  refine wStart (lv := [(0, .ref o), (1, .int 1), (2, .int x2), (3, .int x3), (4, .int x4)]) (Qc := fun A => wQi (0) D (mW o 1 q cI cZ) A) (by decide) (Nat.le_of_ble_eq_true rfl) rfl ?_
  intro p e s m args below meth c ls A H S hr hlocks hnm hl hK hP hD hS hA
  have hx := S.1
  have hb := S.2.1
  refine lv_aload_n hx hb dX9_node_0 rfl (lv_at hl 0 rfl) ?_
  refine lv_iconst (v := 0) hx hb dX9_node_1 (by decide) ?_
  refine xp (ci := 9) (v := .int 0) S inX9 tyX9 tyX9_ok nmX9 rfl hK hP hD hS mW_0 0 (by decide) kw_6_148 rfl rfl rfl rfl (Nat.le_of_ble_eq_true rfl) dX9_node_2 (fun H locs hP hD hS => ?_)
  have hP : va_P D vwCl (mW o 0 q cI cZ) H := hP
  have hD : va_D A (mW o 0 q cI cZ) := hD
  refine lv_iload_n hx hb dX9_node_5 rfl (lv_at hl 1 rfl) ?_
  refine lv_iconst (v := 0) hx hb dX9_node_6 (by decide) ?_
  refine lv_bipush (v := 21) hx hb dX9_node_7 (by decide) ?_
  refine rdS (As := [.int 1, .int 0, .int 21]) S (c_X9_isIn_38 l D cI cZ cJ o q) ms_X9_isIn kw_7_101 ⟨rfl, rfl⟩ ⟨Nat.le_of_ble_eq_true rfl, Nat.le_of_ble_eq_true rfl⟩ hP hK hl.1 (Nat.le_of_ble_eq_true rfl) ⟨Nat.le_of_ble_eq_true rfl, Nat.le_of_ble_eq_true rfl⟩ dX9_node_9 ?_
  refine lv_if_eq (tgt := 27) hx hb dX9_node_12 (by decide) (fun c => absurd c (by decide)) (fun _ => ?_)
  refine lv_aload_n hx hb dX9_node_15 rfl (lv_at hl 0 rfl) ?_
  refine lv_iload_n hx hb dX9_node_16 rfl (lv_at hl 1 rfl) ?_
  refine lv_iload_n hx hb dX9_node_17 rfl (lv_at hl 2 rfl) ?_
  refine lv_iload_n hx hb dX9_node_18 rfl (lv_at hl 3 rfl) ?_
  refine lv_iload hx hb dX9_node_19 (lv_at hl 4 rfl) ?_
  refine rdV (As := [.int 1, .int x2, .int x3, .int x4]) (ci := 9) S (c_X9_canBe_6 l D cI cZ cJ o q x2 x3 x4 lo_x2) mi_X9_canBe kw_7_155 ⟨rfl, rfl⟩ ⟨Nat.le_of_ble_eq_true rfl, Nat.le_of_ble_eq_true rfl⟩ hP hK mW_0 rfl rfl hl.1 (Nat.le_of_ble_eq_true rfl) ⟨Nat.le_of_ble_eq_true rfl, Nat.le_of_ble_eq_true rfl⟩ dX9_node_21 ?_
  refine lv_if_ne (tgt := 33) hx hb dX9_node_24 (by decide) (fun c => absurd c (by decide)) (fun _ => ?_)
  refine lv_aload_n hx hb dX9_node_27 rfl (lv_at hl 0 rfl) ?_
  refine lv_iconst (v := 1) hx hb dX9_node_28 (by decide) ?_
  refine wrV (As := [.int 1]) (ci := 9) S (c_X9_no_0 l D cI cZ cJ o q H.size) mi_X9_no kw_7_104 rfl rfl ⟨Nat.le_of_ble_eq_true rfl, Nat.le_of_ble_eq_true rfl⟩ hP hD hK hS hA mW_0 rfl rfl hl.1 (Nat.le_of_ble_eq_true rfl) ⟨Nat.le_of_ble_eq_true rfl, Nat.le_of_ble_eq_true rfl⟩ dX9_node_29 (fun H locs hz hP hD hS => ?_)
  exact wEnd S hr hlocks hP hD hS (Nat.le_of_ble_eq_true rfl) (Nat.le_of_ble_eq_true rfl) dX9_node_32 rfl

set_option maxHeartbeats 8000000 in
set_option maxRecDepth 100000 in
theorem h_node_7 (l : Launch) (D : va_G) (cI cZ cJ : ClassId) (o : Nat) (u : Nat → Nat) (ao : Nat) (hst : l.stackTraces = false) (ra ga : Nat → Nat) (sz : Nat) (x2 : Int32) (lo_x2 : 0 ≤ x2) (hi_x2 : x2 ≤ 15) : vx_Met l yL_node (uWh yL_node cL_node 7 (some .int) [(0, 14, 17, 15), (0, 14, 21, 17)]) ({ frames := 4, cells := 0, slots := 0, locals := 90 }) (va_Pc [.ref o, .int 1, .int x2, .int 0, .int 0, .ref ao] (lS ra ga D (tyL cI cZ cJ) ((xW o u cI cZ cJ) ++ [(ao, .inl (cJ, 1, .inr (.inl (fun _ => 0))))]) sz)) (wQi (0) D (((((((((xW o u cI cZ cJ).set 13 ((u 12), .inr (5, ([.int 0, .ref (u 13), .ref (u 14), .ref (u 15), .ref (u 16), .ref (u 17), .ref (u 18)].set 0 (.int 1))))).set 14 ((u 13), .inl (cI, 110, .inl (upd (fun _ => 0) (0 : Int32).toNatClampNeg 1)))).set 15 ((u 14), .inl (cI, 110, .inl (upd (fun _ => 0) (0 : Int32).toNatClampNeg x2)))).set 16 ((u 15), .inl (cI, 110, .inl (upd (fun _ => 0) (0 : Int32).toNatClampNeg 0)))).set 17 ((u 16), .inl (cI, 110, .inl (upd (fun _ => 0) (0 : Int32).toNatClampNeg 0)))).set 18 ((u 17), .inl (cI, 110, .inl (upd (fun _ => 0) (0 : Int32).toNatClampNeg (-1))))).set 19 ((u 18), .inl (cI, 110, .inl (upd (fun _ => 0) (0 : Int32).toNatClampNeg (-1))))) ++ [(ao, .inl (cJ, 1, .inr (.inl (vp_updL (fun _ => 0) (0 : Int32).toNatClampNeg 0))))]) (va_A ((xW o u cI cZ cJ) ++ [(ao, .inl (cJ, 1, .inr (.inl (fun _ => 0))))]) sz)) (xN (va_A ((xW o u cI cZ cJ) ++ [(ao, .inl (cJ, 1, .inr (.inl (fun _ => 0))))]) sz)) 0 0 (va_A ((xW o u cI cZ cJ) ++ [(ao, .inl (cJ, 1, .inr (.inl (fun _ => 0))))]) sz) := by
  refine hStart (l := l) (y := yL_node) (b := cL_node) (n := 7) (r := (some .int)) (hh := [(0, 14, 17, 15), (0, 14, 21, 17)]) (rm := ({ frames := 4, cells := 0, slots := 0, locals := 90 })) (mc := 0) (ms := 0) (ra := ra) (ga := ga) (D := D) (tys := tyL cI cZ cJ) (ws := ((xW o u cI cZ cJ) ++ [(ao, .inl (cJ, 1, .inr (.inl (fun _ => 0))))])) (av := [.ref o, .int 1, .int x2, .int 0, .int 0, .ref ao]) (sz := sz) (lv := [(0, .ref o), (1, .int 1), (2, .int x2), (3, .int 0), (4, .int 0), (5, .ref ao)]) (Qc := fun A => wQi (0) D (((((((((xW o u cI cZ cJ).set 13 ((u 12), .inr (5, ([.int 0, .ref (u 13), .ref (u 14), .ref (u 15), .ref (u 16), .ref (u 17), .ref (u 18)].set 0 (.int 1))))).set 14 ((u 13), .inl (cI, 110, .inl (upd (fun _ => 0) (0 : Int32).toNatClampNeg 1)))).set 15 ((u 14), .inl (cI, 110, .inl (upd (fun _ => 0) (0 : Int32).toNatClampNeg x2)))).set 16 ((u 15), .inl (cI, 110, .inl (upd (fun _ => 0) (0 : Int32).toNatClampNeg 0)))).set 17 ((u 16), .inl (cI, 110, .inl (upd (fun _ => 0) (0 : Int32).toNatClampNeg 0)))).set 18 ((u 17), .inl (cI, 110, .inl (upd (fun _ => 0) (0 : Int32).toNatClampNeg (-1))))).set 19 ((u 18), .inl (cI, 110, .inl (upd (fun _ => 0) (0 : Int32).toNatClampNeg (-1))))) ++ [(ao, .inl (cJ, 1, .inr (.inl (vp_updL (fun _ => 0) (0 : Int32).toNatClampNeg 0))))]) A) (by decide) (Nat.le_of_ble_eq_true rfl) rfl ?_
  intro p e s m args below meth c ls A H S hr hlocks htab hl hK hP hD hS hA hB hC
  have hx := S.1
  have hb := S.2.1
  refine lv_aload hx hb dL_node_0 (lv_at hl 5 rfl) ?_
  refine lv_iconst (v := 0) hx hb dL_node_2 (by decide) ?_
  refine lv_aload_n hx hb dL_node_3 rfl (lv_at hl 0 rfl) ?_
  refine lv_iload_n hx hb dL_node_4 rfl (lv_at hl 1 rfl) ?_
  refine lv_iload_n hx hb dL_node_5 rfl (lv_at hl 2 rfl) ?_
  refine lv_iload_n hx hb dL_node_6 rfl (lv_at hl 3 rfl) ?_
  refine lv_iload hx hb dL_node_7 (lv_at hl 4 rfl) ?_
  refine faVi [] [(ao, .inl (cJ, 1, .inr (.inl (fun _ => 0))))] (As := [.int 1, .int x2, .int 0, .int 0]) (ci := 8) S (c_X8_node_7 l D cI cZ cJ o u ra ga H.size x2 lo_x2 hi_x2) mi_X8_node kw_6_23 rfl rfl ⟨Nat.le_of_ble_eq_true rfl, Nat.le_of_ble_eq_true rfl⟩ hP hD hK hS hA hB xW_0 rfl rfl hl.1 (Nat.le_of_ble_eq_true rfl) ⟨Nat.le_of_ble_eq_true rfl, Nat.le_of_ble_eq_true rfl⟩ dL_node_9 (fun H locs hz hP hD hS => ?_)
  have hP : va_P D vwCl (((((((((xW o u cI cZ cJ).set 13 ((u 12), .inr (5, ([.int 0, .ref (u 13), .ref (u 14), .ref (u 15), .ref (u 16), .ref (u 17), .ref (u 18)].set 0 (.int 1))))).set 14 ((u 13), .inl (cI, 110, .inl (upd (fun _ => 0) (0 : Int32).toNatClampNeg 1)))).set 15 ((u 14), .inl (cI, 110, .inl (upd (fun _ => 0) (0 : Int32).toNatClampNeg x2)))).set 16 ((u 15), .inl (cI, 110, .inl (upd (fun _ => 0) (0 : Int32).toNatClampNeg 0)))).set 17 ((u 16), .inl (cI, 110, .inl (upd (fun _ => 0) (0 : Int32).toNatClampNeg 0)))).set 18 ((u 17), .inl (cI, 110, .inl (upd (fun _ => 0) (0 : Int32).toNatClampNeg (-1))))).set 19 ((u 18), .inl (cI, 110, .inl (upd (fun _ => 0) (0 : Int32).toNatClampNeg (-1))))) ++ [(ao, .inl (cJ, 1, .inr (.inl (fun _ => 0))))]) H := hP
  have hD : va_D A (((((((((xW o u cI cZ cJ).set 13 ((u 12), .inr (5, ([.int 0, .ref (u 13), .ref (u 14), .ref (u 15), .ref (u 16), .ref (u 17), .ref (u 18)].set 0 (.int 1))))).set 14 ((u 13), .inl (cI, 110, .inl (upd (fun _ => 0) (0 : Int32).toNatClampNeg 1)))).set 15 ((u 14), .inl (cI, 110, .inl (upd (fun _ => 0) (0 : Int32).toNatClampNeg x2)))).set 16 ((u 15), .inl (cI, 110, .inl (upd (fun _ => 0) (0 : Int32).toNatClampNeg 0)))).set 17 ((u 16), .inl (cI, 110, .inl (upd (fun _ => 0) (0 : Int32).toNatClampNeg 0)))).set 18 ((u 17), .inl (cI, 110, .inl (upd (fun _ => 0) (0 : Int32).toNatClampNeg (-1))))).set 19 ((u 18), .inl (cI, 110, .inl (upd (fun _ => 0) (0 : Int32).toNatClampNeg (-1))))) ++ [(ao, .inl (cJ, 1, .inr (.inl (fun _ => 0))))]) := hD
  refine lv_i2l (v := 0) hx hb dL_node_12 (by decide) ?_
  refine xlast (t0 := 2) S hK hP hD hS (q0 := 88) rfl rfl (vin rfl) dL_node_13 (fun H locs hP hD hS => ?_)
  have hP : va_P D vwCl (((((((((xW o u cI cZ cJ).set 13 ((u 12), .inr (5, ([.int 0, .ref (u 13), .ref (u 14), .ref (u 15), .ref (u 16), .ref (u 17), .ref (u 18)].set 0 (.int 1))))).set 14 ((u 13), .inl (cI, 110, .inl (upd (fun _ => 0) (0 : Int32).toNatClampNeg 1)))).set 15 ((u 14), .inl (cI, 110, .inl (upd (fun _ => 0) (0 : Int32).toNatClampNeg x2)))).set 16 ((u 15), .inl (cI, 110, .inl (upd (fun _ => 0) (0 : Int32).toNatClampNeg 0)))).set 17 ((u 16), .inl (cI, 110, .inl (upd (fun _ => 0) (0 : Int32).toNatClampNeg 0)))).set 18 ((u 17), .inl (cI, 110, .inl (upd (fun _ => 0) (0 : Int32).toNatClampNeg (-1))))).set 19 ((u 18), .inl (cI, 110, .inl (upd (fun _ => 0) (0 : Int32).toNatClampNeg (-1))))) ++ [(ao, .inl (cJ, 1, .inr (.inl (vp_updL (fun _ => 0) (0 : Int32).toNatClampNeg 0))))]) H := hP
  have hD : va_D A (((((((((xW o u cI cZ cJ).set 13 ((u 12), .inr (5, ([.int 0, .ref (u 13), .ref (u 14), .ref (u 15), .ref (u 16), .ref (u 17), .ref (u 18)].set 0 (.int 1))))).set 14 ((u 13), .inl (cI, 110, .inl (upd (fun _ => 0) (0 : Int32).toNatClampNeg 1)))).set 15 ((u 14), .inl (cI, 110, .inl (upd (fun _ => 0) (0 : Int32).toNatClampNeg x2)))).set 16 ((u 15), .inl (cI, 110, .inl (upd (fun _ => 0) (0 : Int32).toNatClampNeg 0)))).set 17 ((u 16), .inl (cI, 110, .inl (upd (fun _ => 0) (0 : Int32).toNatClampNeg 0)))).set 18 ((u 17), .inl (cI, 110, .inl (upd (fun _ => 0) (0 : Int32).toNatClampNeg (-1))))).set 19 ((u 18), .inl (cI, 110, .inl (upd (fun _ => 0) (0 : Int32).toNatClampNeg (-1))))) ++ [(ao, .inl (cJ, 1, .inr (.inl (vp_updL (fun _ => 0) (0 : Int32).toNatClampNeg 0))))]) := hD
  refine lv_goto (tgt := 25) hx hb dL_node_14 (by decide) ?_
  refine lv_iconst (v := 0) hx hb dL_node_25 (by decide) ?_
  exact vx_ret (wEnd S hr hlocks hP hD hS (Nat.le_of_ble_eq_true rfl) (Nat.le_of_ble_eq_true rfl) dL_node_26 rfl)

set_option maxHeartbeats 8000000 in
set_option maxRecDepth 100000 in
theorem c_X9_canBe_7 (l : Launch) (D : va_G) (cI cZ cJ : ClassId) (o : Nat) (q : Nat → Nat) (x2 : Int32) (lo_x2 : 0 ≤ x2) (hi_x2 : x2 ≤ 15) : Met l yX9_canBe (uW yX9_canBe cX9_canBe 5 (some .boolean)) ({ frames := 2, cells := 0, slots := 0, locals := 42 }) (va_Pc [.ref o, .int 1, .int x2, .int 0, .int 0] (pS D (tyL cI cZ cJ) (mW o 0 q cI cZ))) (QcRead (1)) 0 0 (fun _ => False) := by
  refine rdStart (lv := [(0, .ref o), (1, .int 1), (2, .int x2), (3, .int 0), (4, .int 0)]) (by decide) (Nat.le_of_ble_eq_true rfl) rfl ?_
  intro p e s m args below meth c ls S hr hlocks hl hP hK
  have hx := S.1
  have hb := S.2.1
  refine lv_iload_n hx hb dX9_canBe_0 rfl (lv_at hl 1 rfl) ?_
  refine lv_tableIn (off := 131) (tgt := 132) hx hb dX9_canBe_1 (by decide) (by decide) (by decide) (by decide) ?_
  refine lv_iload_n hx hb dX9_canBe_132 rfl (lv_at hl 2 rfl) ?_
  refine rdS (As := [.int x2]) S (c_X9_isName_2 l D cI cZ cJ o q x2 lo_x2 hi_x2) ms_X9_isName kw_7_108 ⟨rfl, rfl⟩ ⟨Nat.le_of_ble_eq_true rfl, Nat.le_of_ble_eq_true rfl⟩ hP hK hl.1 (Nat.le_of_ble_eq_true rfl) ⟨Nat.le_of_ble_eq_true rfl, Nat.le_of_ble_eq_true rfl⟩ dX9_canBe_133 ?_
  refine lv_if_eq (tgt := 152) hx hb dX9_canBe_136 (by decide) (fun c => absurd c (by decide)) (fun _ => ?_)
  refine lv_iload_n hx hb dX9_canBe_139 rfl (lv_at hl 3 rfl) ?_
  refine lv_if_ne (tgt := 152) hx hb dX9_canBe_140 (by decide) (fun c => absurd c (by decide)) (fun _ => ?_)
  refine lv_iload hx hb dX9_canBe_143 (lv_at hl 4 rfl) ?_
  refine lv_if_ne (tgt := 152) hx hb dX9_canBe_145 (by decide) (fun c => absurd c (by decide)) (fun _ => ?_)
  refine lv_iconst (v := 1) hx hb dX9_canBe_148 (by decide) ?_
  refine lv_goto (tgt := 153) hx hb dX9_canBe_149 (by decide) ?_
  exact rdEndZ S hr hlocks dX9_canBe_153 rfl rfl

set_option maxHeartbeats 8000000 in
set_option maxRecDepth 100000 in
theorem c_X9_parts_1 (l : Launch) (D : va_G) (cI cZ cJ : ClassId) (o : Nat) (q : Nat → Nat) (x2 : Int32) (lo_x2 : 0 ≤ x2) (hi_x2 : x2 ≤ 15) : Met l yX9_parts (uW yX9_parts cX9_parts 1 (some .int)) ({ frames := 0, cells := 0, slots := 0, locals := 0 }) (va_Pc [.int 1] (pS D (tyL cI cZ cJ) (((((((mW o 0 q cI cZ).set 12 ((q 11), .inl (cI, 110, .inl (upd (fun _ => 0) (0 : Int32).toNatClampNeg 1)))).set 13 ((q 12), .inl (cI, 110, .inl (upd (fun _ => 0) (0 : Int32).toNatClampNeg x2)))).set 14 ((q 13), .inl (cI, 110, .inl (upd (fun _ => 0) (0 : Int32).toNatClampNeg 0)))).set 15 ((q 14), .inl (cI, 110, .inl (upd (fun _ => 0) (0 : Int32).toNatClampNeg 0)))).set 16 ((q 15), .inl (cI, 110, .inl (upd (fun _ => 0) (0 : Int32).toNatClampNeg (-1))))).set 17 ((q 16), .inl (cI, 110, .inl (upd (fun _ => 0) (0 : Int32).toNatClampNeg (-1))))))) (QcRead (0)) 0 0 (fun _ => False) := by
  refine rdStart (lv := [(0, .int 1)]) (by decide) (Nat.le_of_ble_eq_true rfl) rfl ?_
  intro p e s m args below meth c ls S hr hlocks hl hP hK
  have hx := S.1
  have hb := S.2.1
  refine lv_iload_n hx hb dX9_parts_0 rfl (lv_at hl 0 rfl) ?_
  refine lv_tableIn (off := 103) (tgt := 104) hx hb dX9_parts_1 (by decide) (by decide) (by decide) (by decide) ?_
  refine lv_iconst (v := 0) hx hb dX9_parts_104 (by decide) ?_
  exact rdEnd S hr hlocks dX9_parts_105 rfl

set_option maxHeartbeats 8000000 in
set_option maxRecDepth 100000 in
theorem c_X9_has_3 (l : Launch) (D : va_G) (cI cZ cJ : ClassId) (o : Nat) (q : Nat → Nat) (x2 : Int32) (lo_x2 : 0 ≤ x2) (hi_x2 : x2 ≤ 15) : Met l yX9_has (uW yX9_has cX9_has 2 (some .boolean)) ({ frames := 0, cells := 0, slots := 0, locals := 0 }) (va_Pc [.int 0, .int 0] (pS D (tyL cI cZ cJ) (((((((mW o 0 q cI cZ).set 12 ((q 11), .inl (cI, 110, .inl (upd (fun _ => 0) (0 : Int32).toNatClampNeg 1)))).set 13 ((q 12), .inl (cI, 110, .inl (upd (fun _ => 0) (0 : Int32).toNatClampNeg x2)))).set 14 ((q 13), .inl (cI, 110, .inl (upd (fun _ => 0) (0 : Int32).toNatClampNeg 0)))).set 15 ((q 14), .inl (cI, 110, .inl (upd (fun _ => 0) (0 : Int32).toNatClampNeg 0)))).set 16 ((q 15), .inl (cI, 110, .inl (upd (fun _ => 0) (0 : Int32).toNatClampNeg (-1))))).set 17 ((q 16), .inl (cI, 110, .inl (upd (fun _ => 0) (0 : Int32).toNatClampNeg (-1))))))) (QcRead (0)) 0 0 (fun _ => False) := by
  refine rdStart (lv := [(0, .int 0), (1, .int 0)]) (by decide) (Nat.le_of_ble_eq_true rfl) rfl ?_
  intro p e s m args below meth c ls S hr hlocks hl hP hK
  have hx := S.1
  have hb := S.2.1
  refine lv_iload_n hx hb dX9_has_0 rfl (lv_at hl 0 rfl) ?_
  refine lv_iload_n hx hb dX9_has_1 rfl (lv_at hl 1 rfl) ?_
  refine xishr (v := 0) S dX9_has_2 (by decide) ?_
  refine lv_iconst (v := 1) hx hb dX9_has_3 (by decide) ?_
  refine xiand (v := 0) S dX9_has_4 (by decide) ?_
  refine lv_iconst (v := 1) hx hb dX9_has_5 (by decide) ?_
  refine lv_icmp_ne (tgt := 13) hx hb dX9_has_6 (by decide) (fun _ => ?_) (fun c => absurd c (by decide))
  refine lv_iconst (v := 0) hx hb dX9_has_13 (by decide) ?_
  exact rdEndZ S hr hlocks dX9_has_14 rfl rfl

set_option maxHeartbeats 8000000 in
set_option maxRecDepth 100000 in
theorem c_X9_part_3 (l : Launch) (D : va_G) (cI cZ cJ : ClassId) (o : Nat) (q : Nat → Nat) (x2 : Int32) (lo_x2 : 0 ≤ x2) (hi_x2 : x2 ≤ 15) : Met l yX9_part (uW yX9_part cX9_part 3 (some .int)) ({ frames := 1, cells := 0, slots := 0, locals := 21 }) (va_Pc [.ref o, .int 0, .int 0] (pS D (tyL cI cZ cJ) (((((((mW o 0 q cI cZ).set 12 ((q 11), .inl (cI, 110, .inl (upd (fun _ => 0) (0 : Int32).toNatClampNeg 1)))).set 13 ((q 12), .inl (cI, 110, .inl (upd (fun _ => 0) (0 : Int32).toNatClampNeg x2)))).set 14 ((q 13), .inl (cI, 110, .inl (upd (fun _ => 0) (0 : Int32).toNatClampNeg 0)))).set 15 ((q 14), .inl (cI, 110, .inl (upd (fun _ => 0) (0 : Int32).toNatClampNeg 0)))).set 16 ((q 15), .inl (cI, 110, .inl (upd (fun _ => 0) (0 : Int32).toNatClampNeg (-1))))).set 17 ((q 16), .inl (cI, 110, .inl (upd (fun _ => 0) (0 : Int32).toNatClampNeg (-1))))))) (QcRead ((-1))) 0 0 (fun _ => False) := by
  refine rdStart (lv := [(0, .ref o), (1, .int 0), (2, .int 0)]) (by decide) (Nat.le_of_ble_eq_true rfl) rfl ?_
  intro p e s m args below meth c ls S hr hlocks hl hP hK
  have hx := S.1
  have hb := S.2.1
  refine lv_aload_n hx hb dX9_part_0 rfl (lv_at hl 0 rfl) ?_
  refine xg (ci := 9) S inX9 rfl hK hP (q0 := 0) rfl 14 (by decide) mF_14 kw_6_162 rfl dX9_part_1 ?_
  refine lv_iload_n hx hb dX9_part_4 rfl (lv_at hl 1 rfl) ?_
  refine xiald (t0 := 0) (v := 1) S hK hP (q0 := 12) rfl rfl (vin rfl) rfl dX9_part_5 ?_
  refine rdS (As := [.int 1]) S (c_X9_parts_1 l D cI cZ cJ o q x2 lo_x2 hi_x2) ms_X9_parts kw_7_189 ⟨rfl, rfl⟩ ⟨Nat.le_of_ble_eq_true rfl, Nat.le_of_ble_eq_true rfl⟩ hP hK hl.1 (Nat.le_of_ble_eq_true rfl) ⟨Nat.le_of_ble_eq_true rfl, Nat.le_of_ble_eq_true rfl⟩ dX9_part_6 ?_
  refine lv_iload_n hx hb dX9_part_9 rfl (lv_at hl 2 rfl) ?_
  refine rdS (As := [.int 0, .int 0]) S (c_X9_has_3 l D cI cZ cJ o q x2 lo_x2 hi_x2) ms_X9_has kw_7_192 ⟨rfl, rfl⟩ ⟨Nat.le_of_ble_eq_true rfl, Nat.le_of_ble_eq_true rfl⟩ hP hK hl.1 (Nat.le_of_ble_eq_true rfl) ⟨Nat.le_of_ble_eq_true rfl, Nat.le_of_ble_eq_true rfl⟩ dX9_part_10 ?_
  refine lv_if_ne (tgt := 18) hx hb dX9_part_13 (by decide) (fun c => absurd c (by decide)) (fun _ => ?_)
  refine lv_iconst (v := (-1)) hx hb dX9_part_16 (by decide) ?_
  exact rdEnd S hr hlocks dX9_part_17 rfl

set_option maxHeartbeats 8000000 in
set_option maxRecDepth 100000 in
theorem c_X9_has_4 (l : Launch) (D : va_G) (cI cZ cJ : ClassId) (o : Nat) (q : Nat → Nat) (x2 : Int32) (lo_x2 : 0 ≤ x2) (hi_x2 : x2 ≤ 15) : Met l yX9_has (uW yX9_has cX9_has 2 (some .boolean)) ({ frames := 0, cells := 0, slots := 0, locals := 0 }) (va_Pc [.int 0, .int 1] (pS D (tyL cI cZ cJ) (((((((mW o 0 q cI cZ).set 12 ((q 11), .inl (cI, 110, .inl (upd (fun _ => 0) (0 : Int32).toNatClampNeg 1)))).set 13 ((q 12), .inl (cI, 110, .inl (upd (fun _ => 0) (0 : Int32).toNatClampNeg x2)))).set 14 ((q 13), .inl (cI, 110, .inl (upd (fun _ => 0) (0 : Int32).toNatClampNeg 0)))).set 15 ((q 14), .inl (cI, 110, .inl (upd (fun _ => 0) (0 : Int32).toNatClampNeg 0)))).set 16 ((q 15), .inl (cI, 110, .inl (upd (fun _ => 0) (0 : Int32).toNatClampNeg (-1))))).set 17 ((q 16), .inl (cI, 110, .inl (upd (fun _ => 0) (0 : Int32).toNatClampNeg (-1))))))) (QcRead (0)) 0 0 (fun _ => False) := by
  refine rdStart (lv := [(0, .int 0), (1, .int 1)]) (by decide) (Nat.le_of_ble_eq_true rfl) rfl ?_
  intro p e s m args below meth c ls S hr hlocks hl hP hK
  have hx := S.1
  have hb := S.2.1
  refine lv_iload_n hx hb dX9_has_0 rfl (lv_at hl 0 rfl) ?_
  refine lv_iload_n hx hb dX9_has_1 rfl (lv_at hl 1 rfl) ?_
  refine xishr (v := 0) S dX9_has_2 (by decide) ?_
  refine lv_iconst (v := 1) hx hb dX9_has_3 (by decide) ?_
  refine xiand (v := 0) S dX9_has_4 (by decide) ?_
  refine lv_iconst (v := 1) hx hb dX9_has_5 (by decide) ?_
  refine lv_icmp_ne (tgt := 13) hx hb dX9_has_6 (by decide) (fun _ => ?_) (fun c => absurd c (by decide))
  refine lv_iconst (v := 0) hx hb dX9_has_13 (by decide) ?_
  exact rdEndZ S hr hlocks dX9_has_14 rfl rfl

set_option maxHeartbeats 8000000 in
set_option maxRecDepth 100000 in
theorem c_X9_part_4 (l : Launch) (D : va_G) (cI cZ cJ : ClassId) (o : Nat) (q : Nat → Nat) (x2 : Int32) (lo_x2 : 0 ≤ x2) (hi_x2 : x2 ≤ 15) : Met l yX9_part (uW yX9_part cX9_part 3 (some .int)) ({ frames := 1, cells := 0, slots := 0, locals := 21 }) (va_Pc [.ref o, .int 0, .int 1] (pS D (tyL cI cZ cJ) (((((((mW o 0 q cI cZ).set 12 ((q 11), .inl (cI, 110, .inl (upd (fun _ => 0) (0 : Int32).toNatClampNeg 1)))).set 13 ((q 12), .inl (cI, 110, .inl (upd (fun _ => 0) (0 : Int32).toNatClampNeg x2)))).set 14 ((q 13), .inl (cI, 110, .inl (upd (fun _ => 0) (0 : Int32).toNatClampNeg 0)))).set 15 ((q 14), .inl (cI, 110, .inl (upd (fun _ => 0) (0 : Int32).toNatClampNeg 0)))).set 16 ((q 15), .inl (cI, 110, .inl (upd (fun _ => 0) (0 : Int32).toNatClampNeg (-1))))).set 17 ((q 16), .inl (cI, 110, .inl (upd (fun _ => 0) (0 : Int32).toNatClampNeg (-1))))))) (QcRead ((-1))) 0 0 (fun _ => False) := by
  refine rdStart (lv := [(0, .ref o), (1, .int 0), (2, .int 1)]) (by decide) (Nat.le_of_ble_eq_true rfl) rfl ?_
  intro p e s m args below meth c ls S hr hlocks hl hP hK
  have hx := S.1
  have hb := S.2.1
  refine lv_aload_n hx hb dX9_part_0 rfl (lv_at hl 0 rfl) ?_
  refine xg (ci := 9) S inX9 rfl hK hP (q0 := 0) rfl 14 (by decide) mF_14 kw_6_162 rfl dX9_part_1 ?_
  refine lv_iload_n hx hb dX9_part_4 rfl (lv_at hl 1 rfl) ?_
  refine xiald (t0 := 0) (v := 1) S hK hP (q0 := 12) rfl rfl (vin rfl) rfl dX9_part_5 ?_
  refine rdS (As := [.int 1]) S (c_X9_parts_1 l D cI cZ cJ o q x2 lo_x2 hi_x2) ms_X9_parts kw_7_189 ⟨rfl, rfl⟩ ⟨Nat.le_of_ble_eq_true rfl, Nat.le_of_ble_eq_true rfl⟩ hP hK hl.1 (Nat.le_of_ble_eq_true rfl) ⟨Nat.le_of_ble_eq_true rfl, Nat.le_of_ble_eq_true rfl⟩ dX9_part_6 ?_
  refine lv_iload_n hx hb dX9_part_9 rfl (lv_at hl 2 rfl) ?_
  refine rdS (As := [.int 0, .int 1]) S (c_X9_has_4 l D cI cZ cJ o q x2 lo_x2 hi_x2) ms_X9_has kw_7_192 ⟨rfl, rfl⟩ ⟨Nat.le_of_ble_eq_true rfl, Nat.le_of_ble_eq_true rfl⟩ hP hK hl.1 (Nat.le_of_ble_eq_true rfl) ⟨Nat.le_of_ble_eq_true rfl, Nat.le_of_ble_eq_true rfl⟩ dX9_part_10 ?_
  refine lv_if_ne (tgt := 18) hx hb dX9_part_13 (by decide) (fun c => absurd c (by decide)) (fun _ => ?_)
  refine lv_iconst (v := (-1)) hx hb dX9_part_16 (by decide) ?_
  exact rdEnd S hr hlocks dX9_part_17 rfl

set_option maxHeartbeats 8000000 in
set_option maxRecDepth 100000 in
theorem c_X9_has_5 (l : Launch) (D : va_G) (cI cZ cJ : ClassId) (o : Nat) (q : Nat → Nat) (x2 : Int32) (lo_x2 : 0 ≤ x2) (hi_x2 : x2 ≤ 15) : Met l yX9_has (uW yX9_has cX9_has 2 (some .boolean)) ({ frames := 0, cells := 0, slots := 0, locals := 0 }) (va_Pc [.int 0, .int 2] (pS D (tyL cI cZ cJ) (((((((mW o 0 q cI cZ).set 12 ((q 11), .inl (cI, 110, .inl (upd (fun _ => 0) (0 : Int32).toNatClampNeg 1)))).set 13 ((q 12), .inl (cI, 110, .inl (upd (fun _ => 0) (0 : Int32).toNatClampNeg x2)))).set 14 ((q 13), .inl (cI, 110, .inl (upd (fun _ => 0) (0 : Int32).toNatClampNeg 0)))).set 15 ((q 14), .inl (cI, 110, .inl (upd (fun _ => 0) (0 : Int32).toNatClampNeg 0)))).set 16 ((q 15), .inl (cI, 110, .inl (upd (fun _ => 0) (0 : Int32).toNatClampNeg (-1))))).set 17 ((q 16), .inl (cI, 110, .inl (upd (fun _ => 0) (0 : Int32).toNatClampNeg (-1))))))) (QcRead (0)) 0 0 (fun _ => False) := by
  refine rdStart (lv := [(0, .int 0), (1, .int 2)]) (by decide) (Nat.le_of_ble_eq_true rfl) rfl ?_
  intro p e s m args below meth c ls S hr hlocks hl hP hK
  have hx := S.1
  have hb := S.2.1
  refine lv_iload_n hx hb dX9_has_0 rfl (lv_at hl 0 rfl) ?_
  refine lv_iload_n hx hb dX9_has_1 rfl (lv_at hl 1 rfl) ?_
  refine xishr (v := 0) S dX9_has_2 (by decide) ?_
  refine lv_iconst (v := 1) hx hb dX9_has_3 (by decide) ?_
  refine xiand (v := 0) S dX9_has_4 (by decide) ?_
  refine lv_iconst (v := 1) hx hb dX9_has_5 (by decide) ?_
  refine lv_icmp_ne (tgt := 13) hx hb dX9_has_6 (by decide) (fun _ => ?_) (fun c => absurd c (by decide))
  refine lv_iconst (v := 0) hx hb dX9_has_13 (by decide) ?_
  exact rdEndZ S hr hlocks dX9_has_14 rfl rfl

set_option maxHeartbeats 8000000 in
set_option maxRecDepth 100000 in
theorem c_X9_part_5 (l : Launch) (D : va_G) (cI cZ cJ : ClassId) (o : Nat) (q : Nat → Nat) (x2 : Int32) (lo_x2 : 0 ≤ x2) (hi_x2 : x2 ≤ 15) : Met l yX9_part (uW yX9_part cX9_part 3 (some .int)) ({ frames := 1, cells := 0, slots := 0, locals := 21 }) (va_Pc [.ref o, .int 0, .int 2] (pS D (tyL cI cZ cJ) (((((((mW o 0 q cI cZ).set 12 ((q 11), .inl (cI, 110, .inl (upd (fun _ => 0) (0 : Int32).toNatClampNeg 1)))).set 13 ((q 12), .inl (cI, 110, .inl (upd (fun _ => 0) (0 : Int32).toNatClampNeg x2)))).set 14 ((q 13), .inl (cI, 110, .inl (upd (fun _ => 0) (0 : Int32).toNatClampNeg 0)))).set 15 ((q 14), .inl (cI, 110, .inl (upd (fun _ => 0) (0 : Int32).toNatClampNeg 0)))).set 16 ((q 15), .inl (cI, 110, .inl (upd (fun _ => 0) (0 : Int32).toNatClampNeg (-1))))).set 17 ((q 16), .inl (cI, 110, .inl (upd (fun _ => 0) (0 : Int32).toNatClampNeg (-1))))))) (QcRead ((-1))) 0 0 (fun _ => False) := by
  refine rdStart (lv := [(0, .ref o), (1, .int 0), (2, .int 2)]) (by decide) (Nat.le_of_ble_eq_true rfl) rfl ?_
  intro p e s m args below meth c ls S hr hlocks hl hP hK
  have hx := S.1
  have hb := S.2.1
  refine lv_aload_n hx hb dX9_part_0 rfl (lv_at hl 0 rfl) ?_
  refine xg (ci := 9) S inX9 rfl hK hP (q0 := 0) rfl 14 (by decide) mF_14 kw_6_162 rfl dX9_part_1 ?_
  refine lv_iload_n hx hb dX9_part_4 rfl (lv_at hl 1 rfl) ?_
  refine xiald (t0 := 0) (v := 1) S hK hP (q0 := 12) rfl rfl (vin rfl) rfl dX9_part_5 ?_
  refine rdS (As := [.int 1]) S (c_X9_parts_1 l D cI cZ cJ o q x2 lo_x2 hi_x2) ms_X9_parts kw_7_189 ⟨rfl, rfl⟩ ⟨Nat.le_of_ble_eq_true rfl, Nat.le_of_ble_eq_true rfl⟩ hP hK hl.1 (Nat.le_of_ble_eq_true rfl) ⟨Nat.le_of_ble_eq_true rfl, Nat.le_of_ble_eq_true rfl⟩ dX9_part_6 ?_
  refine lv_iload_n hx hb dX9_part_9 rfl (lv_at hl 2 rfl) ?_
  refine rdS (As := [.int 0, .int 2]) S (c_X9_has_5 l D cI cZ cJ o q x2 lo_x2 hi_x2) ms_X9_has kw_7_192 ⟨rfl, rfl⟩ ⟨Nat.le_of_ble_eq_true rfl, Nat.le_of_ble_eq_true rfl⟩ hP hK hl.1 (Nat.le_of_ble_eq_true rfl) ⟨Nat.le_of_ble_eq_true rfl, Nat.le_of_ble_eq_true rfl⟩ dX9_part_10 ?_
  refine lv_if_ne (tgt := 18) hx hb dX9_part_13 (by decide) (fun c => absurd c (by decide)) (fun _ => ?_)
  refine lv_iconst (v := (-1)) hx hb dX9_part_16 (by decide) ?_
  exact rdEnd S hr hlocks dX9_part_17 rfl

set_option maxHeartbeats 8000000 in
set_option maxRecDepth 100000 in
theorem c_X9_node_7 (l : Launch) (D : va_G) (cI cZ cJ : ClassId) (o : Nat) (q : Nat → Nat) (sz : Nat) (x2 : Int32) (lo_x2 : 0 ≤ x2) (hi_x2 : x2 ≤ 15) : Met l yX9_node (uW yX9_node cX9_node 6 (some .int)) ({ frames := 3, cells := 0, slots := 0, locals := 66 }) (va_Pc [.ref o, .int 1, .int x2, .int 0, .int 0] (wS D (tyL cI cZ cJ) (mW o 0 q cI cZ) sz)) (wQi (0) D ((((((((mW o 0 q cI cZ).set 0 (o, .inr (9, ((mF 0 q).set 13 (.int 1))))).set 12 ((q 11), .inl (cI, 110, .inl (upd (fun _ => 0) (0 : Int32).toNatClampNeg 1)))).set 13 ((q 12), .inl (cI, 110, .inl (upd (fun _ => 0) (0 : Int32).toNatClampNeg x2)))).set 14 ((q 13), .inl (cI, 110, .inl (upd (fun _ => 0) (0 : Int32).toNatClampNeg 0)))).set 15 ((q 14), .inl (cI, 110, .inl (upd (fun _ => 0) (0 : Int32).toNatClampNeg 0)))).set 16 ((q 15), .inl (cI, 110, .inl (upd (fun _ => 0) (0 : Int32).toNatClampNeg (-1))))).set 17 ((q 16), .inl (cI, 110, .inl (upd (fun _ => 0) (0 : Int32).toNatClampNeg (-1))))) (va_A (mW o 0 q cI cZ) sz)) 0 0 (va_A (mW o 0 q cI cZ) sz) := by
  refine wStart (lv := [(0, .ref o), (1, .int 1), (2, .int x2), (3, .int 0), (4, .int 0)]) (Qc := fun A => wQi (0) D ((((((((mW o 0 q cI cZ).set 0 (o, .inr (9, ((mF 0 q).set 13 (.int 1))))).set 12 ((q 11), .inl (cI, 110, .inl (upd (fun _ => 0) (0 : Int32).toNatClampNeg 1)))).set 13 ((q 12), .inl (cI, 110, .inl (upd (fun _ => 0) (0 : Int32).toNatClampNeg x2)))).set 14 ((q 13), .inl (cI, 110, .inl (upd (fun _ => 0) (0 : Int32).toNatClampNeg 0)))).set 15 ((q 14), .inl (cI, 110, .inl (upd (fun _ => 0) (0 : Int32).toNatClampNeg 0)))).set 16 ((q 15), .inl (cI, 110, .inl (upd (fun _ => 0) (0 : Int32).toNatClampNeg (-1))))).set 17 ((q 16), .inl (cI, 110, .inl (upd (fun _ => 0) (0 : Int32).toNatClampNeg (-1))))) A) (by decide) (Nat.le_of_ble_eq_true rfl) rfl ?_
  intro p e s m args below meth c ls A H S hr hlocks hnm hl hK hP hD hS hA
  have hx := S.1
  have hb := S.2.1
  refine lv_aload_n hx hb dX9_node_0 rfl (lv_at hl 0 rfl) ?_
  refine lv_iconst (v := 0) hx hb dX9_node_1 (by decide) ?_
  refine xp (ci := 9) (v := .int 0) S inX9 tyX9 tyX9_ok nmX9 rfl hK hP hD hS mW_0 0 (by decide) kw_6_148 rfl rfl rfl rfl (Nat.le_of_ble_eq_true rfl) dX9_node_2 (fun H locs hP hD hS => ?_)
  have hP : va_P D vwCl (mW o 0 q cI cZ) H := hP
  have hD : va_D A (mW o 0 q cI cZ) := hD
  refine lv_iload_n hx hb dX9_node_5 rfl (lv_at hl 1 rfl) ?_
  refine lv_iconst (v := 0) hx hb dX9_node_6 (by decide) ?_
  refine lv_bipush (v := 21) hx hb dX9_node_7 (by decide) ?_
  refine rdS (As := [.int 1, .int 0, .int 21]) S (c_X9_isIn_38 l D cI cZ cJ o q) ms_X9_isIn kw_7_101 ⟨rfl, rfl⟩ ⟨Nat.le_of_ble_eq_true rfl, Nat.le_of_ble_eq_true rfl⟩ hP hK hl.1 (Nat.le_of_ble_eq_true rfl) ⟨Nat.le_of_ble_eq_true rfl, Nat.le_of_ble_eq_true rfl⟩ dX9_node_9 ?_
  refine lv_if_eq (tgt := 27) hx hb dX9_node_12 (by decide) (fun c => absurd c (by decide)) (fun _ => ?_)
  refine lv_aload_n hx hb dX9_node_15 rfl (lv_at hl 0 rfl) ?_
  refine lv_iload_n hx hb dX9_node_16 rfl (lv_at hl 1 rfl) ?_
  refine lv_iload_n hx hb dX9_node_17 rfl (lv_at hl 2 rfl) ?_
  refine lv_iload_n hx hb dX9_node_18 rfl (lv_at hl 3 rfl) ?_
  refine lv_iload hx hb dX9_node_19 (lv_at hl 4 rfl) ?_
  refine rdV (As := [.int 1, .int x2, .int 0, .int 0]) (ci := 9) S (c_X9_canBe_7 l D cI cZ cJ o q x2 lo_x2 hi_x2) mi_X9_canBe kw_7_155 ⟨rfl, rfl⟩ ⟨Nat.le_of_ble_eq_true rfl, Nat.le_of_ble_eq_true rfl⟩ hP hK mW_0 rfl rfl hl.1 (Nat.le_of_ble_eq_true rfl) ⟨Nat.le_of_ble_eq_true rfl, Nat.le_of_ble_eq_true rfl⟩ dX9_node_21 ?_
  refine lv_if_ne (tgt := 33) hx hb dX9_node_24 (by decide) (fun _ => ?_) (fun c => absurd c (by decide))
  refine lv_aload_n hx hb dX9_node_33 rfl (lv_at hl 0 rfl) ?_
  refine xg (ci := 9) S inX9 rfl hK hP mW_0 13 (by decide) mF_13 kw_6_161 rfl dX9_node_34 ?_
  refine lv_bipush (v := 110) hx hb dX9_node_37 (by decide) ?_
  refine lv_icmp_ne (tgt := 48) hx hb dX9_node_39 (by decide) (fun _ => ?_) (fun c => absurd c (by decide))
  refine lv_aload_n hx hb dX9_node_48 rfl (lv_at hl 0 rfl) ?_
  refine xg (ci := 9) S inX9 rfl hK hP mW_0 14 (by decide) mF_14 kw_6_162 rfl dX9_node_49 ?_
  refine lv_aload_n hx hb dX9_node_52 rfl (lv_at hl 0 rfl) ?_
  refine xg (ci := 9) S inX9 rfl hK hP mW_0 13 (by decide) mF_13 kw_6_161 rfl dX9_node_53 ?_
  refine lv_iload_n hx hb dX9_node_56 rfl (lv_at hl 1 rfl) ?_
  refine xiast (t0 := 0) S hK hP hD hS mW_12 rfl (vin rfl) dX9_node_57 (fun H locs hP hD hS => ?_)
  have hP : va_P D vwCl ((mW o 0 q cI cZ).set 12 ((q 11), .inl (cI, 110, .inl (upd (fun _ => 0) (0 : Int32).toNatClampNeg 1)))) H := hP
  have hD : va_D A ((mW o 0 q cI cZ).set 12 ((q 11), .inl (cI, 110, .inl (upd (fun _ => 0) (0 : Int32).toNatClampNeg 1)))) := hD
  refine lv_aload_n hx hb dX9_node_58 rfl (lv_at hl 0 rfl) ?_
  refine xg (ci := 9) S inX9 rfl hK hP (q0 := 0) rfl 15 (by decide) mF_15 kw_6_163 rfl dX9_node_59 ?_
  refine lv_aload_n hx hb dX9_node_62 rfl (lv_at hl 0 rfl) ?_
  refine xg (ci := 9) S inX9 rfl hK hP (q0 := 0) rfl 13 (by decide) mF_13 kw_6_161 rfl dX9_node_63 ?_
  refine lv_iload_n hx hb dX9_node_66 rfl (lv_at hl 2 rfl) ?_
  refine xiast (t0 := 0) S hK hP hD hS (q0 := 13) rfl rfl (vin rfl) dX9_node_67 (fun H locs hP hD hS => ?_)
  have hP : va_P D vwCl (((mW o 0 q cI cZ).set 12 ((q 11), .inl (cI, 110, .inl (upd (fun _ => 0) (0 : Int32).toNatClampNeg 1)))).set 13 ((q 12), .inl (cI, 110, .inl (upd (fun _ => 0) (0 : Int32).toNatClampNeg x2)))) H := hP
  have hD : va_D A (((mW o 0 q cI cZ).set 12 ((q 11), .inl (cI, 110, .inl (upd (fun _ => 0) (0 : Int32).toNatClampNeg 1)))).set 13 ((q 12), .inl (cI, 110, .inl (upd (fun _ => 0) (0 : Int32).toNatClampNeg x2)))) := hD
  refine lv_aload_n hx hb dX9_node_68 rfl (lv_at hl 0 rfl) ?_
  refine xg (ci := 9) S inX9 rfl hK hP (q0 := 0) rfl 16 (by decide) mF_16 kw_6_164 rfl dX9_node_69 ?_
  refine lv_aload_n hx hb dX9_node_72 rfl (lv_at hl 0 rfl) ?_
  refine xg (ci := 9) S inX9 rfl hK hP (q0 := 0) rfl 13 (by decide) mF_13 kw_6_161 rfl dX9_node_73 ?_
  refine lv_iload_n hx hb dX9_node_76 rfl (lv_at hl 3 rfl) ?_
  refine xiast (t0 := 0) S hK hP hD hS (q0 := 14) rfl rfl (vin rfl) dX9_node_77 (fun H locs hP hD hS => ?_)
  have hP : va_P D vwCl ((((mW o 0 q cI cZ).set 12 ((q 11), .inl (cI, 110, .inl (upd (fun _ => 0) (0 : Int32).toNatClampNeg 1)))).set 13 ((q 12), .inl (cI, 110, .inl (upd (fun _ => 0) (0 : Int32).toNatClampNeg x2)))).set 14 ((q 13), .inl (cI, 110, .inl (upd (fun _ => 0) (0 : Int32).toNatClampNeg 0)))) H := hP
  have hD : va_D A ((((mW o 0 q cI cZ).set 12 ((q 11), .inl (cI, 110, .inl (upd (fun _ => 0) (0 : Int32).toNatClampNeg 1)))).set 13 ((q 12), .inl (cI, 110, .inl (upd (fun _ => 0) (0 : Int32).toNatClampNeg x2)))).set 14 ((q 13), .inl (cI, 110, .inl (upd (fun _ => 0) (0 : Int32).toNatClampNeg 0)))) := hD
  refine lv_aload_n hx hb dX9_node_78 rfl (lv_at hl 0 rfl) ?_
  refine xg (ci := 9) S inX9 rfl hK hP (q0 := 0) rfl 17 (by decide) mF_17 kw_6_165 rfl dX9_node_79 ?_
  refine lv_aload_n hx hb dX9_node_82 rfl (lv_at hl 0 rfl) ?_
  refine xg (ci := 9) S inX9 rfl hK hP (q0 := 0) rfl 13 (by decide) mF_13 kw_6_161 rfl dX9_node_83 ?_
  refine lv_iload hx hb dX9_node_86 (lv_at hl 4 rfl) ?_
  refine xiast (t0 := 0) S hK hP hD hS (q0 := 15) rfl rfl (vin rfl) dX9_node_88 (fun H locs hP hD hS => ?_)
  have hP : va_P D vwCl (((((mW o 0 q cI cZ).set 12 ((q 11), .inl (cI, 110, .inl (upd (fun _ => 0) (0 : Int32).toNatClampNeg 1)))).set 13 ((q 12), .inl (cI, 110, .inl (upd (fun _ => 0) (0 : Int32).toNatClampNeg x2)))).set 14 ((q 13), .inl (cI, 110, .inl (upd (fun _ => 0) (0 : Int32).toNatClampNeg 0)))).set 15 ((q 14), .inl (cI, 110, .inl (upd (fun _ => 0) (0 : Int32).toNatClampNeg 0)))) H := hP
  have hD : va_D A (((((mW o 0 q cI cZ).set 12 ((q 11), .inl (cI, 110, .inl (upd (fun _ => 0) (0 : Int32).toNatClampNeg 1)))).set 13 ((q 12), .inl (cI, 110, .inl (upd (fun _ => 0) (0 : Int32).toNatClampNeg x2)))).set 14 ((q 13), .inl (cI, 110, .inl (upd (fun _ => 0) (0 : Int32).toNatClampNeg 0)))).set 15 ((q 14), .inl (cI, 110, .inl (upd (fun _ => 0) (0 : Int32).toNatClampNeg 0)))) := hD
  refine lv_aload_n hx hb dX9_node_89 rfl (lv_at hl 0 rfl) ?_
  refine xg (ci := 9) S inX9 rfl hK hP (q0 := 0) rfl 18 (by decide) mF_18 kw_6_166 rfl dX9_node_90 ?_
  refine lv_aload_n hx hb dX9_node_93 rfl (lv_at hl 0 rfl) ?_
  refine xg (ci := 9) S inX9 rfl hK hP (q0 := 0) rfl 13 (by decide) mF_13 kw_6_161 rfl dX9_node_94 ?_
  refine lv_iconst (v := (-1)) hx hb dX9_node_97 (by decide) ?_
  refine xiast (t0 := 0) S hK hP hD hS (q0 := 16) rfl rfl (vin rfl) dX9_node_98 (fun H locs hP hD hS => ?_)
  have hP : va_P D vwCl ((((((mW o 0 q cI cZ).set 12 ((q 11), .inl (cI, 110, .inl (upd (fun _ => 0) (0 : Int32).toNatClampNeg 1)))).set 13 ((q 12), .inl (cI, 110, .inl (upd (fun _ => 0) (0 : Int32).toNatClampNeg x2)))).set 14 ((q 13), .inl (cI, 110, .inl (upd (fun _ => 0) (0 : Int32).toNatClampNeg 0)))).set 15 ((q 14), .inl (cI, 110, .inl (upd (fun _ => 0) (0 : Int32).toNatClampNeg 0)))).set 16 ((q 15), .inl (cI, 110, .inl (upd (fun _ => 0) (0 : Int32).toNatClampNeg (-1))))) H := hP
  have hD : va_D A ((((((mW o 0 q cI cZ).set 12 ((q 11), .inl (cI, 110, .inl (upd (fun _ => 0) (0 : Int32).toNatClampNeg 1)))).set 13 ((q 12), .inl (cI, 110, .inl (upd (fun _ => 0) (0 : Int32).toNatClampNeg x2)))).set 14 ((q 13), .inl (cI, 110, .inl (upd (fun _ => 0) (0 : Int32).toNatClampNeg 0)))).set 15 ((q 14), .inl (cI, 110, .inl (upd (fun _ => 0) (0 : Int32).toNatClampNeg 0)))).set 16 ((q 15), .inl (cI, 110, .inl (upd (fun _ => 0) (0 : Int32).toNatClampNeg (-1))))) := hD
  refine lv_aload_n hx hb dX9_node_99 rfl (lv_at hl 0 rfl) ?_
  refine xg (ci := 9) S inX9 rfl hK hP (q0 := 0) rfl 19 (by decide) mF_19 kw_6_167 rfl dX9_node_100 ?_
  refine lv_aload_n hx hb dX9_node_103 rfl (lv_at hl 0 rfl) ?_
  refine xg (ci := 9) S inX9 rfl hK hP (q0 := 0) rfl 13 (by decide) mF_13 kw_6_161 rfl dX9_node_104 ?_
  refine lv_iconst (v := (-1)) hx hb dX9_node_107 (by decide) ?_
  refine xiast (t0 := 0) S hK hP hD hS (q0 := 17) rfl rfl (vin rfl) dX9_node_108 (fun H locs hP hD hS => ?_)
  have hP : va_P D vwCl (((((((mW o 0 q cI cZ).set 12 ((q 11), .inl (cI, 110, .inl (upd (fun _ => 0) (0 : Int32).toNatClampNeg 1)))).set 13 ((q 12), .inl (cI, 110, .inl (upd (fun _ => 0) (0 : Int32).toNatClampNeg x2)))).set 14 ((q 13), .inl (cI, 110, .inl (upd (fun _ => 0) (0 : Int32).toNatClampNeg 0)))).set 15 ((q 14), .inl (cI, 110, .inl (upd (fun _ => 0) (0 : Int32).toNatClampNeg 0)))).set 16 ((q 15), .inl (cI, 110, .inl (upd (fun _ => 0) (0 : Int32).toNatClampNeg (-1))))).set 17 ((q 16), .inl (cI, 110, .inl (upd (fun _ => 0) (0 : Int32).toNatClampNeg (-1))))) H := hP
  have hD : va_D A (((((((mW o 0 q cI cZ).set 12 ((q 11), .inl (cI, 110, .inl (upd (fun _ => 0) (0 : Int32).toNatClampNeg 1)))).set 13 ((q 12), .inl (cI, 110, .inl (upd (fun _ => 0) (0 : Int32).toNatClampNeg x2)))).set 14 ((q 13), .inl (cI, 110, .inl (upd (fun _ => 0) (0 : Int32).toNatClampNeg 0)))).set 15 ((q 14), .inl (cI, 110, .inl (upd (fun _ => 0) (0 : Int32).toNatClampNeg 0)))).set 16 ((q 15), .inl (cI, 110, .inl (upd (fun _ => 0) (0 : Int32).toNatClampNeg (-1))))).set 17 ((q 16), .inl (cI, 110, .inl (upd (fun _ => 0) (0 : Int32).toNatClampNeg (-1))))) := hD
  refine lv_iconst (v := 0) hx hb dX9_node_109 (by decide) ?_
  refine lv_istore (lv' := [(5, .int 0), (0, .ref o), (1, .int 1), (2, .int x2), (3, .int 0), (4, .int 0)]) hx hb dX9_node_110 hl (by decide) rfl (fun ls hl => ?_)
  refine lv_iload hx hb dX9_node_112 (lv_at hl 0 rfl) ?_
  refine lv_iconst (v := 3) hx hb dX9_node_114 (by decide) ?_
  refine lv_icmp_ge (tgt := 157) hx hb dX9_node_115 (by decide) (fun c => absurd c (by decide)) (fun _ => ?_)
  refine lv_aload_n hx hb dX9_node_118 rfl (lv_at hl 1 rfl) ?_
  refine lv_aload_n hx hb dX9_node_119 rfl (lv_at hl 1 rfl) ?_
  refine xg (ci := 9) S inX9 rfl hK hP (q0 := 0) rfl 13 (by decide) mF_13 kw_6_161 rfl dX9_node_120 ?_
  refine lv_iload hx hb dX9_node_123 (lv_at hl 0 rfl) ?_
  refine rdV (As := [.int 0, .int 0]) (ci := 9) S (c_X9_part_3 l D cI cZ cJ o q x2 lo_x2 hi_x2) mi_X9_part kw_7_185 ⟨rfl, rfl⟩ ⟨Nat.le_of_ble_eq_true rfl, Nat.le_of_ble_eq_true rfl⟩ hP hK (k := 0) rfl rfl rfl hl.1 (Nat.le_of_ble_eq_true rfl) ⟨Nat.le_of_ble_eq_true rfl, Nat.le_of_ble_eq_true rfl⟩ dX9_node_125 ?_
  refine lv_iconst (v := (-1)) hx hb dX9_node_128 (by decide) ?_
  refine lv_icmp_eq (tgt := 151) hx hb dX9_node_129 (by decide) (fun _ => ?_) (fun c => absurd c (by decide))
  refine lv_iinc (v := 1) (lv' := [(5, .int 1), (0, .ref o), (1, .int 1), (2, .int x2), (3, .int 0), (4, .int 0)]) hx hb dX9_node_151 hl (k := 0) rfl (by decide) (by decide) rfl (fun ls hl => ?_)
  refine lv_goto (tgt := 112) hx hb dX9_node_154 (by decide) ?_
  refine lv_iload hx hb dX9_node_112 (lv_at hl 0 rfl) ?_
  refine lv_iconst (v := 3) hx hb dX9_node_114 (by decide) ?_
  refine lv_icmp_ge (tgt := 157) hx hb dX9_node_115 (by decide) (fun c => absurd c (by decide)) (fun _ => ?_)
  refine lv_aload_n hx hb dX9_node_118 rfl (lv_at hl 1 rfl) ?_
  refine lv_aload_n hx hb dX9_node_119 rfl (lv_at hl 1 rfl) ?_
  refine xg (ci := 9) S inX9 rfl hK hP (q0 := 0) rfl 13 (by decide) mF_13 kw_6_161 rfl dX9_node_120 ?_
  refine lv_iload hx hb dX9_node_123 (lv_at hl 0 rfl) ?_
  refine rdV (As := [.int 0, .int 1]) (ci := 9) S (c_X9_part_4 l D cI cZ cJ o q x2 lo_x2 hi_x2) mi_X9_part kw_7_185 ⟨rfl, rfl⟩ ⟨Nat.le_of_ble_eq_true rfl, Nat.le_of_ble_eq_true rfl⟩ hP hK (k := 0) rfl rfl rfl hl.1 (Nat.le_of_ble_eq_true rfl) ⟨Nat.le_of_ble_eq_true rfl, Nat.le_of_ble_eq_true rfl⟩ dX9_node_125 ?_
  refine lv_iconst (v := (-1)) hx hb dX9_node_128 (by decide) ?_
  refine lv_icmp_eq (tgt := 151) hx hb dX9_node_129 (by decide) (fun _ => ?_) (fun c => absurd c (by decide))
  refine lv_iinc (v := 2) (lv' := [(5, .int 2), (0, .ref o), (1, .int 1), (2, .int x2), (3, .int 0), (4, .int 0)]) hx hb dX9_node_151 hl (k := 0) rfl (by decide) (by decide) rfl (fun ls hl => ?_)
  refine lv_goto (tgt := 112) hx hb dX9_node_154 (by decide) ?_
  refine lv_iload hx hb dX9_node_112 (lv_at hl 0 rfl) ?_
  refine lv_iconst (v := 3) hx hb dX9_node_114 (by decide) ?_
  refine lv_icmp_ge (tgt := 157) hx hb dX9_node_115 (by decide) (fun c => absurd c (by decide)) (fun _ => ?_)
  refine lv_aload_n hx hb dX9_node_118 rfl (lv_at hl 1 rfl) ?_
  refine lv_aload_n hx hb dX9_node_119 rfl (lv_at hl 1 rfl) ?_
  refine xg (ci := 9) S inX9 rfl hK hP (q0 := 0) rfl 13 (by decide) mF_13 kw_6_161 rfl dX9_node_120 ?_
  refine lv_iload hx hb dX9_node_123 (lv_at hl 0 rfl) ?_
  refine rdV (As := [.int 0, .int 2]) (ci := 9) S (c_X9_part_5 l D cI cZ cJ o q x2 lo_x2 hi_x2) mi_X9_part kw_7_185 ⟨rfl, rfl⟩ ⟨Nat.le_of_ble_eq_true rfl, Nat.le_of_ble_eq_true rfl⟩ hP hK (k := 0) rfl rfl rfl hl.1 (Nat.le_of_ble_eq_true rfl) ⟨Nat.le_of_ble_eq_true rfl, Nat.le_of_ble_eq_true rfl⟩ dX9_node_125 ?_
  refine lv_iconst (v := (-1)) hx hb dX9_node_128 (by decide) ?_
  refine lv_icmp_eq (tgt := 151) hx hb dX9_node_129 (by decide) (fun _ => ?_) (fun c => absurd c (by decide))
  refine lv_iinc (v := 3) (lv' := [(5, .int 3), (0, .ref o), (1, .int 1), (2, .int x2), (3, .int 0), (4, .int 0)]) hx hb dX9_node_151 hl (k := 0) rfl (by decide) (by decide) rfl (fun ls hl => ?_)
  refine lv_goto (tgt := 112) hx hb dX9_node_154 (by decide) ?_
  refine lv_iload hx hb dX9_node_112 (lv_at hl 0 rfl) ?_
  refine lv_iconst (v := 3) hx hb dX9_node_114 (by decide) ?_
  refine lv_icmp_ge (tgt := 157) hx hb dX9_node_115 (by decide) (fun _ => ?_) (fun c => absurd c (by decide))
  refine lv_aload_n hx hb dX9_node_157 rfl (lv_at hl 1 rfl) ?_
  refine lv_dup hx hb dX9_node_158 rfl ?_
  refine xg (ci := 9) S inX9 rfl hK hP (q0 := 0) rfl 13 (by decide) mF_13 kw_6_161 rfl dX9_node_159 ?_
  refine lv_dup_x1 hx hb dX9_node_162 rfl rfl ?_
  refine lv_iconst (v := 1) hx hb dX9_node_163 (by decide) ?_
  refine xiadd (v := 1) S dX9_node_164 (by decide) ?_
  refine xp (ci := 9) (v := .int 1) S inX9 tyX9 tyX9_ok nmX9 rfl hK hP hD hS (q0 := 0) rfl 13 (by decide) kw_6_161 rfl rfl rfl rfl (Nat.le_of_ble_eq_true rfl) dX9_node_165 (fun H locs hP hD hS => ?_)
  have hP : va_P D vwCl ((((((((mW o 0 q cI cZ).set 0 (o, .inr (9, ((mF 0 q).set 13 (.int 1))))).set 12 ((q 11), .inl (cI, 110, .inl (upd (fun _ => 0) (0 : Int32).toNatClampNeg 1)))).set 13 ((q 12), .inl (cI, 110, .inl (upd (fun _ => 0) (0 : Int32).toNatClampNeg x2)))).set 14 ((q 13), .inl (cI, 110, .inl (upd (fun _ => 0) (0 : Int32).toNatClampNeg 0)))).set 15 ((q 14), .inl (cI, 110, .inl (upd (fun _ => 0) (0 : Int32).toNatClampNeg 0)))).set 16 ((q 15), .inl (cI, 110, .inl (upd (fun _ => 0) (0 : Int32).toNatClampNeg (-1))))).set 17 ((q 16), .inl (cI, 110, .inl (upd (fun _ => 0) (0 : Int32).toNatClampNeg (-1))))) H := hP
  have hD : va_D A ((((((((mW o 0 q cI cZ).set 0 (o, .inr (9, ((mF 0 q).set 13 (.int 1))))).set 12 ((q 11), .inl (cI, 110, .inl (upd (fun _ => 0) (0 : Int32).toNatClampNeg 1)))).set 13 ((q 12), .inl (cI, 110, .inl (upd (fun _ => 0) (0 : Int32).toNatClampNeg x2)))).set 14 ((q 13), .inl (cI, 110, .inl (upd (fun _ => 0) (0 : Int32).toNatClampNeg 0)))).set 15 ((q 14), .inl (cI, 110, .inl (upd (fun _ => 0) (0 : Int32).toNatClampNeg 0)))).set 16 ((q 15), .inl (cI, 110, .inl (upd (fun _ => 0) (0 : Int32).toNatClampNeg (-1))))).set 17 ((q 16), .inl (cI, 110, .inl (upd (fun _ => 0) (0 : Int32).toNatClampNeg (-1))))) := hD
  exact wEnd S hr hlocks hP hD hS (Nat.le_of_ble_eq_true rfl) (Nat.le_of_ble_eq_true rfl) dX9_node_168 rfl

set_option maxHeartbeats 8000000 in
set_option maxRecDepth 100000 in
theorem c_X9_thrown_10 (l : Launch) (D : va_G) (cI cZ cJ : ClassId) (o : Nat) (q : Nat → Nat) (x2 : Int32) (lo_x2 : 0 ≤ x2) (hi_x2 : x2 ≤ 15) : Met l yX9_thrown (uW yX9_thrown cX9_thrown 1 (some .int)) ({ frames := 0, cells := 0, slots := 0, locals := 0 }) (va_Pc [.ref o] (pS D (tyL cI cZ cJ) ((((((((mW o 0 q cI cZ).set 0 (o, .inr (9, ((mF 0 q).set 13 (.int 1))))).set 12 ((q 11), .inl (cI, 110, .inl (upd (fun _ => 0) (0 : Int32).toNatClampNeg 1)))).set 13 ((q 12), .inl (cI, 110, .inl (upd (fun _ => 0) (0 : Int32).toNatClampNeg x2)))).set 14 ((q 13), .inl (cI, 110, .inl (upd (fun _ => 0) (0 : Int32).toNatClampNeg 0)))).set 15 ((q 14), .inl (cI, 110, .inl (upd (fun _ => 0) (0 : Int32).toNatClampNeg 0)))).set 16 ((q 15), .inl (cI, 110, .inl (upd (fun _ => 0) (0 : Int32).toNatClampNeg (-1))))).set 17 ((q 16), .inl (cI, 110, .inl (upd (fun _ => 0) (0 : Int32).toNatClampNeg (-1))))))) (QcRead (0)) 0 0 (fun _ => False) := by
  refine rdStart (lv := [(0, .ref o)]) (by decide) (Nat.le_of_ble_eq_true rfl) rfl ?_
  intro p e s m args below meth c ls S hr hlocks hl hP hK
  have hx := S.1
  have hb := S.2.1
  refine lv_aload_n hx hb dX9_thrown_0 rfl (lv_at hl 0 rfl) ?_
  refine xg (ci := 9) S inX9 rfl hK hP (q0 := 0) rfl 0 (by decide) rfl kw_6_148 rfl dX9_thrown_1 ?_
  exact rdEnd S hr hlocks dX9_thrown_4 rfl

set_option maxHeartbeats 8000000 in
set_option maxRecDepth 100000 in
theorem h_node_8 (l : Launch) (D : va_G) (cI cZ cJ : ClassId) (o : Nat) (u : Nat → Nat) (ao : Nat) (hst : l.stackTraces = false) (ra ga : Nat → Nat) (sz : Nat) (x2 : Int32) (x4 : Int32) (lo_x2 : 0 ≤ x2) (hi_x2 : x2 ≤ 15) (ne_x4_0 : ¬ x4 = 0) : vx_Met l yL_node (uWh yL_node cL_node 7 (some .int) [(0, 14, 17, 15), (0, 14, 21, 17)]) ({ frames := 8, cells := 1, slots := 6, locals := 126 }) (va_Pc [.ref o, .int 1, .int x2, .int 0, .int x4, .ref ao] (lS ra ga D (tyL cI cZ cJ) ((xW o u cI cZ cJ) ++ [(ao, .inl (cJ, 1, .inr (.inl (fun _ => 0))))]) sz)) (wQi (1) D ((xW o u cI cZ cJ) ++ [(ao, .inl (cJ, 1, .inr (.inl (fun _ => 0))))]) (va_A ((xW o u cI cZ cJ) ++ [(ao, .inl (cJ, 1, .inr (.inl (fun _ => 0))))]) sz)) (xN (va_A ((xW o u cI cZ cJ) ++ [(ao, .inl (cJ, 1, .inr (.inl (fun _ => 0))))]) sz)) 1 6 (va_A ((xW o u cI cZ cJ) ++ [(ao, .inl (cJ, 1, .inr (.inl (fun _ => 0))))]) sz) := by
  refine hStart (l := l) (y := yL_node) (b := cL_node) (n := 7) (r := (some .int)) (hh := [(0, 14, 17, 15), (0, 14, 21, 17)]) (rm := ({ frames := 8, cells := 1, slots := 6, locals := 126 })) (mc := 1) (ms := 6) (ra := ra) (ga := ga) (D := D) (tys := tyL cI cZ cJ) (ws := ((xW o u cI cZ cJ) ++ [(ao, .inl (cJ, 1, .inr (.inl (fun _ => 0))))])) (av := [.ref o, .int 1, .int x2, .int 0, .int x4, .ref ao]) (sz := sz) (lv := [(0, .ref o), (1, .int 1), (2, .int x2), (3, .int 0), (4, .int x4), (5, .ref ao)]) (Qc := fun A => wQi (1) D ((xW o u cI cZ cJ) ++ [(ao, .inl (cJ, 1, .inr (.inl (fun _ => 0))))]) A) (by decide) (Nat.le_of_ble_eq_true rfl) rfl ?_
  intro p e s m args below meth c ls A H S hr hlocks htab hl hK hP hD hS hA hB hC
  have hx := S.1
  have hb := S.2.1
  refine lv_aload hx hb dL_node_0 (lv_at hl 5 rfl) ?_
  refine lv_iconst (v := 0) hx hb dL_node_2 (by decide) ?_
  refine lv_aload_n hx hb dL_node_3 rfl (lv_at hl 0 rfl) ?_
  refine lv_iload_n hx hb dL_node_4 rfl (lv_at hl 1 rfl) ?_
  refine lv_iload_n hx hb dL_node_5 rfl (lv_at hl 2 rfl) ?_
  refine lv_iload_n hx hb dL_node_6 rfl (lv_at hl 3 rfl) ?_
  refine lv_iload hx hb dL_node_7 (lv_at hl 4 rfl) ?_
  refine cVi [] [(ao, .inl (cJ, 1, .inr (.inl (fun _ => 0))))] (As := [.int 1, .int x2, .int 0, .int x4]) (ci := 8) S (c_X8_node_8 l D cI cZ cJ o u hst ra ga H.size x2 x4 lo_x2 hi_x2 ne_x4_0) mi_X8_node kw_6_23 rfl rfl ⟨Nat.le_of_ble_eq_true rfl, Nat.le_of_ble_eq_true rfl⟩ hP hD hK hS hA hB xW_0 rfl rfl hl.1 (Nat.le_of_ble_eq_true rfl) ⟨Nat.le_of_ble_eq_true rfl, Nat.le_of_ble_eq_true rfl⟩ dL_node_9 (fun ce q9 H locs hz hP hD hS hce hcv hcl => ?_)
  refine vx_catch (name := "java/lang/IllegalArgumentException") S.2.2.2.1 [] (⟨0, 14, 17, 15⟩ : ExceptionTableEntry) [(⟨0, 14, 21, 17⟩ : ExceptionTableEntry)] (htab.trans rfl) (fun _ h => absurd h List.not_mem_nil) (by decide) (by decide) (S.2.2.2.2 _ kw_5_177) (va_Nw.use rfl hB.c1) hce hcv hcl ?_
  have hP : va_P D vwCl ((xW o u cI cZ cJ) ++ [(ao, .inl (cJ, 1, .inr (.inl (fun _ => 0))))]) H := hP
  have hD : va_D A ((xW o u cI cZ cJ) ++ [(ao, .inl (cJ, 1, .inr (.inl (fun _ => 0))))]) := hD
  refine lv_astore (lv' := [(6, .ref q9), (0, .ref o), (1, .int 1), (2, .int x2), (3, .int 0), (4, .int x4), (5, .ref ao)]) hx hb dL_node_17 hl (by decide) rfl (fun ls hl => ?_)
  refine lv_iconst (v := 1) hx hb dL_node_19 (by decide) ?_
  exact vx_ret (wEnd S hr hlocks hP hD hS (Nat.le_of_ble_eq_true rfl) (Nat.le_of_ble_eq_true rfl) dL_node_20 rfl)

set_option maxHeartbeats 8000000 in
set_option maxRecDepth 100000 in
theorem c_X9_canBe_8 (l : Launch) (D : va_G) (cI cZ cJ : ClassId) (o : Nat) (q : Nat → Nat) (x2 : Int32) (x4 : Int32) (lo_x2 : 0 ≤ x2) (hi_x2 : x2 ≤ 15) (ne_x4_0 : ¬ x4 = 0) : Met l yX9_canBe (uW yX9_canBe cX9_canBe 5 (some .boolean)) ({ frames := 2, cells := 0, slots := 0, locals := 42 }) (va_Pc [.ref o, .int 1, .int x2, .int 0, .int x4] (pS D (tyL cI cZ cJ) (mW o 0 q cI cZ))) (QcRead (0)) 0 0 (fun _ => False) := by
  refine rdStart (lv := [(0, .ref o), (1, .int 1), (2, .int x2), (3, .int 0), (4, .int x4)]) (by decide) (Nat.le_of_ble_eq_true rfl) rfl ?_
  intro p e s m args below meth c ls S hr hlocks hl hP hK
  have hx := S.1
  have hb := S.2.1
  refine lv_iload_n hx hb dX9_canBe_0 rfl (lv_at hl 1 rfl) ?_
  refine lv_tableIn (off := 131) (tgt := 132) hx hb dX9_canBe_1 (by decide) (by decide) (by decide) (by decide) ?_
  refine lv_iload_n hx hb dX9_canBe_132 rfl (lv_at hl 2 rfl) ?_
  refine rdS (As := [.int x2]) S (c_X9_isName_2 l D cI cZ cJ o q x2 lo_x2 hi_x2) ms_X9_isName kw_7_108 ⟨rfl, rfl⟩ ⟨Nat.le_of_ble_eq_true rfl, Nat.le_of_ble_eq_true rfl⟩ hP hK hl.1 (Nat.le_of_ble_eq_true rfl) ⟨Nat.le_of_ble_eq_true rfl, Nat.le_of_ble_eq_true rfl⟩ dX9_canBe_133 ?_
  refine lv_if_eq (tgt := 152) hx hb dX9_canBe_136 (by decide) (fun c => absurd c (by decide)) (fun _ => ?_)
  refine lv_iload_n hx hb dX9_canBe_139 rfl (lv_at hl 3 rfl) ?_
  refine lv_if_ne (tgt := 152) hx hb dX9_canBe_140 (by decide) (fun c => absurd c (by decide)) (fun _ => ?_)
  refine lv_iload hx hb dX9_canBe_143 (lv_at hl 4 rfl) ?_
  refine lv_if_ne (tgt := 152) hx hb dX9_canBe_145 (by decide) (fun _ => ?_) (fun c => absurd c ne_x4_0)
  refine lv_iconst (v := 0) hx hb dX9_canBe_152 (by decide) ?_
  exact rdEndZ S hr hlocks dX9_canBe_153 rfl rfl

set_option maxHeartbeats 8000000 in
set_option maxRecDepth 100000 in
theorem c_X9_node_8 (l : Launch) (D : va_G) (cI cZ cJ : ClassId) (o : Nat) (q : Nat → Nat) (sz : Nat) (x2 : Int32) (x4 : Int32) (lo_x2 : 0 ≤ x2) (hi_x2 : x2 ≤ 15) (ne_x4_0 : ¬ x4 = 0) : Met l yX9_node (uW yX9_node cX9_node 6 (some .int)) ({ frames := 3, cells := 0, slots := 0, locals := 66 }) (va_Pc [.ref o, .int 1, .int x2, .int 0, .int x4] (wS D (tyL cI cZ cJ) (mW o 0 q cI cZ) sz)) (wQi (0) D (mW o 1 q cI cZ) (va_A (mW o 0 q cI cZ) sz)) 0 0 (va_A (mW o 0 q cI cZ) sz) := by
  refine wStart (lv := [(0, .ref o), (1, .int 1), (2, .int x2), (3, .int 0), (4, .int x4)]) (Qc := fun A => wQi (0) D (mW o 1 q cI cZ) A) (by decide) (Nat.le_of_ble_eq_true rfl) rfl ?_
  intro p e s m args below meth c ls A H S hr hlocks hnm hl hK hP hD hS hA
  have hx := S.1
  have hb := S.2.1
  refine lv_aload_n hx hb dX9_node_0 rfl (lv_at hl 0 rfl) ?_
  refine lv_iconst (v := 0) hx hb dX9_node_1 (by decide) ?_
  refine xp (ci := 9) (v := .int 0) S inX9 tyX9 tyX9_ok nmX9 rfl hK hP hD hS mW_0 0 (by decide) kw_6_148 rfl rfl rfl rfl (Nat.le_of_ble_eq_true rfl) dX9_node_2 (fun H locs hP hD hS => ?_)
  have hP : va_P D vwCl (mW o 0 q cI cZ) H := hP
  have hD : va_D A (mW o 0 q cI cZ) := hD
  refine lv_iload_n hx hb dX9_node_5 rfl (lv_at hl 1 rfl) ?_
  refine lv_iconst (v := 0) hx hb dX9_node_6 (by decide) ?_
  refine lv_bipush (v := 21) hx hb dX9_node_7 (by decide) ?_
  refine rdS (As := [.int 1, .int 0, .int 21]) S (c_X9_isIn_38 l D cI cZ cJ o q) ms_X9_isIn kw_7_101 ⟨rfl, rfl⟩ ⟨Nat.le_of_ble_eq_true rfl, Nat.le_of_ble_eq_true rfl⟩ hP hK hl.1 (Nat.le_of_ble_eq_true rfl) ⟨Nat.le_of_ble_eq_true rfl, Nat.le_of_ble_eq_true rfl⟩ dX9_node_9 ?_
  refine lv_if_eq (tgt := 27) hx hb dX9_node_12 (by decide) (fun c => absurd c (by decide)) (fun _ => ?_)
  refine lv_aload_n hx hb dX9_node_15 rfl (lv_at hl 0 rfl) ?_
  refine lv_iload_n hx hb dX9_node_16 rfl (lv_at hl 1 rfl) ?_
  refine lv_iload_n hx hb dX9_node_17 rfl (lv_at hl 2 rfl) ?_
  refine lv_iload_n hx hb dX9_node_18 rfl (lv_at hl 3 rfl) ?_
  refine lv_iload hx hb dX9_node_19 (lv_at hl 4 rfl) ?_
  refine rdV (As := [.int 1, .int x2, .int 0, .int x4]) (ci := 9) S (c_X9_canBe_8 l D cI cZ cJ o q x2 x4 lo_x2 hi_x2 ne_x4_0) mi_X9_canBe kw_7_155 ⟨rfl, rfl⟩ ⟨Nat.le_of_ble_eq_true rfl, Nat.le_of_ble_eq_true rfl⟩ hP hK mW_0 rfl rfl hl.1 (Nat.le_of_ble_eq_true rfl) ⟨Nat.le_of_ble_eq_true rfl, Nat.le_of_ble_eq_true rfl⟩ dX9_node_21 ?_
  refine lv_if_ne (tgt := 33) hx hb dX9_node_24 (by decide) (fun c => absurd c (by decide)) (fun _ => ?_)
  refine lv_aload_n hx hb dX9_node_27 rfl (lv_at hl 0 rfl) ?_
  refine lv_iconst (v := 1) hx hb dX9_node_28 (by decide) ?_
  refine wrV (As := [.int 1]) (ci := 9) S (c_X9_no_0 l D cI cZ cJ o q H.size) mi_X9_no kw_7_104 rfl rfl ⟨Nat.le_of_ble_eq_true rfl, Nat.le_of_ble_eq_true rfl⟩ hP hD hK hS hA mW_0 rfl rfl hl.1 (Nat.le_of_ble_eq_true rfl) ⟨Nat.le_of_ble_eq_true rfl, Nat.le_of_ble_eq_true rfl⟩ dX9_node_29 (fun H locs hz hP hD hS => ?_)
  exact wEnd S hr hlocks hP hD hS (Nat.le_of_ble_eq_true rfl) (Nat.le_of_ble_eq_true rfl) dX9_node_32 rfl

set_option maxHeartbeats 8000000 in
set_option maxRecDepth 100000 in
theorem h_node_9 (l : Launch) (D : va_G) (cI cZ cJ : ClassId) (o : Nat) (u : Nat → Nat) (ao : Nat) (hst : l.stackTraces = false) (ra ga : Nat → Nat) (sz : Nat) (x2 : Int32) (x3 : Int32) (x4 : Int32) (lo_x2 : 0 ≤ x2) (hi_x2 : x2 ≤ 15) (ne_x3_0 : ¬ x3 = 0) : vx_Met l yL_node (uWh yL_node cL_node 7 (some .int) [(0, 14, 17, 15), (0, 14, 21, 17)]) ({ frames := 8, cells := 1, slots := 6, locals := 126 }) (va_Pc [.ref o, .int 1, .int x2, .int x3, .int x4, .ref ao] (lS ra ga D (tyL cI cZ cJ) ((xW o u cI cZ cJ) ++ [(ao, .inl (cJ, 1, .inr (.inl (fun _ => 0))))]) sz)) (wQi (1) D ((xW o u cI cZ cJ) ++ [(ao, .inl (cJ, 1, .inr (.inl (fun _ => 0))))]) (va_A ((xW o u cI cZ cJ) ++ [(ao, .inl (cJ, 1, .inr (.inl (fun _ => 0))))]) sz)) (xN (va_A ((xW o u cI cZ cJ) ++ [(ao, .inl (cJ, 1, .inr (.inl (fun _ => 0))))]) sz)) 1 6 (va_A ((xW o u cI cZ cJ) ++ [(ao, .inl (cJ, 1, .inr (.inl (fun _ => 0))))]) sz) := by
  refine hStart (l := l) (y := yL_node) (b := cL_node) (n := 7) (r := (some .int)) (hh := [(0, 14, 17, 15), (0, 14, 21, 17)]) (rm := ({ frames := 8, cells := 1, slots := 6, locals := 126 })) (mc := 1) (ms := 6) (ra := ra) (ga := ga) (D := D) (tys := tyL cI cZ cJ) (ws := ((xW o u cI cZ cJ) ++ [(ao, .inl (cJ, 1, .inr (.inl (fun _ => 0))))])) (av := [.ref o, .int 1, .int x2, .int x3, .int x4, .ref ao]) (sz := sz) (lv := [(0, .ref o), (1, .int 1), (2, .int x2), (3, .int x3), (4, .int x4), (5, .ref ao)]) (Qc := fun A => wQi (1) D ((xW o u cI cZ cJ) ++ [(ao, .inl (cJ, 1, .inr (.inl (fun _ => 0))))]) A) (by decide) (Nat.le_of_ble_eq_true rfl) rfl ?_
  intro p e s m args below meth c ls A H S hr hlocks htab hl hK hP hD hS hA hB hC
  have hx := S.1
  have hb := S.2.1
  refine lv_aload hx hb dL_node_0 (lv_at hl 5 rfl) ?_
  refine lv_iconst (v := 0) hx hb dL_node_2 (by decide) ?_
  refine lv_aload_n hx hb dL_node_3 rfl (lv_at hl 0 rfl) ?_
  refine lv_iload_n hx hb dL_node_4 rfl (lv_at hl 1 rfl) ?_
  refine lv_iload_n hx hb dL_node_5 rfl (lv_at hl 2 rfl) ?_
  refine lv_iload_n hx hb dL_node_6 rfl (lv_at hl 3 rfl) ?_
  refine lv_iload hx hb dL_node_7 (lv_at hl 4 rfl) ?_
  refine cVi [] [(ao, .inl (cJ, 1, .inr (.inl (fun _ => 0))))] (As := [.int 1, .int x2, .int x3, .int x4]) (ci := 8) S (c_X8_node_9 l D cI cZ cJ o u hst ra ga H.size x2 x3 x4 lo_x2 hi_x2 ne_x3_0) mi_X8_node kw_6_23 rfl rfl ⟨Nat.le_of_ble_eq_true rfl, Nat.le_of_ble_eq_true rfl⟩ hP hD hK hS hA hB xW_0 rfl rfl hl.1 (Nat.le_of_ble_eq_true rfl) ⟨Nat.le_of_ble_eq_true rfl, Nat.le_of_ble_eq_true rfl⟩ dL_node_9 (fun ce q9 H locs hz hP hD hS hce hcv hcl => ?_)
  refine vx_catch (name := "java/lang/IllegalArgumentException") S.2.2.2.1 [] (⟨0, 14, 17, 15⟩ : ExceptionTableEntry) [(⟨0, 14, 21, 17⟩ : ExceptionTableEntry)] (htab.trans rfl) (fun _ h => absurd h List.not_mem_nil) (by decide) (by decide) (S.2.2.2.2 _ kw_5_177) (va_Nw.use rfl hB.c1) hce hcv hcl ?_
  have hP : va_P D vwCl ((xW o u cI cZ cJ) ++ [(ao, .inl (cJ, 1, .inr (.inl (fun _ => 0))))]) H := hP
  have hD : va_D A ((xW o u cI cZ cJ) ++ [(ao, .inl (cJ, 1, .inr (.inl (fun _ => 0))))]) := hD
  refine lv_astore (lv' := [(6, .ref q9), (0, .ref o), (1, .int 1), (2, .int x2), (3, .int x3), (4, .int x4), (5, .ref ao)]) hx hb dL_node_17 hl (by decide) rfl (fun ls hl => ?_)
  refine lv_iconst (v := 1) hx hb dL_node_19 (by decide) ?_
  exact vx_ret (wEnd S hr hlocks hP hD hS (Nat.le_of_ble_eq_true rfl) (Nat.le_of_ble_eq_true rfl) dL_node_20 rfl)

set_option maxHeartbeats 8000000 in
set_option maxRecDepth 100000 in
theorem c_X9_canBe_9 (l : Launch) (D : va_G) (cI cZ cJ : ClassId) (o : Nat) (q : Nat → Nat) (x2 : Int32) (x3 : Int32) (x4 : Int32) (lo_x2 : 0 ≤ x2) (hi_x2 : x2 ≤ 15) (ne_x3_0 : ¬ x3 = 0) : Met l yX9_canBe (uW yX9_canBe cX9_canBe 5 (some .boolean)) ({ frames := 2, cells := 0, slots := 0, locals := 42 }) (va_Pc [.ref o, .int 1, .int x2, .int x3, .int x4] (pS D (tyL cI cZ cJ) (mW o 0 q cI cZ))) (QcRead (0)) 0 0 (fun _ => False) := by
  refine rdStart (lv := [(0, .ref o), (1, .int 1), (2, .int x2), (3, .int x3), (4, .int x4)]) (by decide) (Nat.le_of_ble_eq_true rfl) rfl ?_
  intro p e s m args below meth c ls S hr hlocks hl hP hK
  have hx := S.1
  have hb := S.2.1
  refine lv_iload_n hx hb dX9_canBe_0 rfl (lv_at hl 1 rfl) ?_
  refine lv_tableIn (off := 131) (tgt := 132) hx hb dX9_canBe_1 (by decide) (by decide) (by decide) (by decide) ?_
  refine lv_iload_n hx hb dX9_canBe_132 rfl (lv_at hl 2 rfl) ?_
  refine rdS (As := [.int x2]) S (c_X9_isName_2 l D cI cZ cJ o q x2 lo_x2 hi_x2) ms_X9_isName kw_7_108 ⟨rfl, rfl⟩ ⟨Nat.le_of_ble_eq_true rfl, Nat.le_of_ble_eq_true rfl⟩ hP hK hl.1 (Nat.le_of_ble_eq_true rfl) ⟨Nat.le_of_ble_eq_true rfl, Nat.le_of_ble_eq_true rfl⟩ dX9_canBe_133 ?_
  refine lv_if_eq (tgt := 152) hx hb dX9_canBe_136 (by decide) (fun c => absurd c (by decide)) (fun _ => ?_)
  refine lv_iload_n hx hb dX9_canBe_139 rfl (lv_at hl 3 rfl) ?_
  refine lv_if_ne (tgt := 152) hx hb dX9_canBe_140 (by decide) (fun _ => ?_) (fun c => absurd c ne_x3_0)
  refine lv_iconst (v := 0) hx hb dX9_canBe_152 (by decide) ?_
  exact rdEndZ S hr hlocks dX9_canBe_153 rfl rfl

set_option maxHeartbeats 8000000 in
set_option maxRecDepth 100000 in
theorem c_X9_node_9 (l : Launch) (D : va_G) (cI cZ cJ : ClassId) (o : Nat) (q : Nat → Nat) (sz : Nat) (x2 : Int32) (x3 : Int32) (x4 : Int32) (lo_x2 : 0 ≤ x2) (hi_x2 : x2 ≤ 15) (ne_x3_0 : ¬ x3 = 0) : Met l yX9_node (uW yX9_node cX9_node 6 (some .int)) ({ frames := 3, cells := 0, slots := 0, locals := 66 }) (va_Pc [.ref o, .int 1, .int x2, .int x3, .int x4] (wS D (tyL cI cZ cJ) (mW o 0 q cI cZ) sz)) (wQi (0) D (mW o 1 q cI cZ) (va_A (mW o 0 q cI cZ) sz)) 0 0 (va_A (mW o 0 q cI cZ) sz) := by
  refine wStart (lv := [(0, .ref o), (1, .int 1), (2, .int x2), (3, .int x3), (4, .int x4)]) (Qc := fun A => wQi (0) D (mW o 1 q cI cZ) A) (by decide) (Nat.le_of_ble_eq_true rfl) rfl ?_
  intro p e s m args below meth c ls A H S hr hlocks hnm hl hK hP hD hS hA
  have hx := S.1
  have hb := S.2.1
  refine lv_aload_n hx hb dX9_node_0 rfl (lv_at hl 0 rfl) ?_
  refine lv_iconst (v := 0) hx hb dX9_node_1 (by decide) ?_
  refine xp (ci := 9) (v := .int 0) S inX9 tyX9 tyX9_ok nmX9 rfl hK hP hD hS mW_0 0 (by decide) kw_6_148 rfl rfl rfl rfl (Nat.le_of_ble_eq_true rfl) dX9_node_2 (fun H locs hP hD hS => ?_)
  have hP : va_P D vwCl (mW o 0 q cI cZ) H := hP
  have hD : va_D A (mW o 0 q cI cZ) := hD
  refine lv_iload_n hx hb dX9_node_5 rfl (lv_at hl 1 rfl) ?_
  refine lv_iconst (v := 0) hx hb dX9_node_6 (by decide) ?_
  refine lv_bipush (v := 21) hx hb dX9_node_7 (by decide) ?_
  refine rdS (As := [.int 1, .int 0, .int 21]) S (c_X9_isIn_38 l D cI cZ cJ o q) ms_X9_isIn kw_7_101 ⟨rfl, rfl⟩ ⟨Nat.le_of_ble_eq_true rfl, Nat.le_of_ble_eq_true rfl⟩ hP hK hl.1 (Nat.le_of_ble_eq_true rfl) ⟨Nat.le_of_ble_eq_true rfl, Nat.le_of_ble_eq_true rfl⟩ dX9_node_9 ?_
  refine lv_if_eq (tgt := 27) hx hb dX9_node_12 (by decide) (fun c => absurd c (by decide)) (fun _ => ?_)
  refine lv_aload_n hx hb dX9_node_15 rfl (lv_at hl 0 rfl) ?_
  refine lv_iload_n hx hb dX9_node_16 rfl (lv_at hl 1 rfl) ?_
  refine lv_iload_n hx hb dX9_node_17 rfl (lv_at hl 2 rfl) ?_
  refine lv_iload_n hx hb dX9_node_18 rfl (lv_at hl 3 rfl) ?_
  refine lv_iload hx hb dX9_node_19 (lv_at hl 4 rfl) ?_
  refine rdV (As := [.int 1, .int x2, .int x3, .int x4]) (ci := 9) S (c_X9_canBe_9 l D cI cZ cJ o q x2 x3 x4 lo_x2 hi_x2 ne_x3_0) mi_X9_canBe kw_7_155 ⟨rfl, rfl⟩ ⟨Nat.le_of_ble_eq_true rfl, Nat.le_of_ble_eq_true rfl⟩ hP hK mW_0 rfl rfl hl.1 (Nat.le_of_ble_eq_true rfl) ⟨Nat.le_of_ble_eq_true rfl, Nat.le_of_ble_eq_true rfl⟩ dX9_node_21 ?_
  refine lv_if_ne (tgt := 33) hx hb dX9_node_24 (by decide) (fun c => absurd c (by decide)) (fun _ => ?_)
  refine lv_aload_n hx hb dX9_node_27 rfl (lv_at hl 0 rfl) ?_
  refine lv_iconst (v := 1) hx hb dX9_node_28 (by decide) ?_
  refine wrV (As := [.int 1]) (ci := 9) S (c_X9_no_0 l D cI cZ cJ o q H.size) mi_X9_no kw_7_104 rfl rfl ⟨Nat.le_of_ble_eq_true rfl, Nat.le_of_ble_eq_true rfl⟩ hP hD hK hS hA mW_0 rfl rfl hl.1 (Nat.le_of_ble_eq_true rfl) ⟨Nat.le_of_ble_eq_true rfl, Nat.le_of_ble_eq_true rfl⟩ dX9_node_29 (fun H locs hz hP hD hS => ?_)
  exact wEnd S hr hlocks hP hD hS (Nat.le_of_ble_eq_true rfl) (Nat.le_of_ble_eq_true rfl) dX9_node_32 rfl

set_option maxHeartbeats 8000000 in
set_option maxRecDepth 100000 in
theorem h_node_10 (l : Launch) (D : va_G) (cI cZ cJ : ClassId) (o : Nat) (u : Nat → Nat) (ao : Nat) (hst : l.stackTraces = false) (ra ga : Nat → Nat) (sz : Nat) (x2 : Int32) (x3 : Int32) (x4 : Int32) : vx_Met l yL_node (uWh yL_node cL_node 7 (some .int) [(0, 14, 17, 15), (0, 14, 21, 17)]) ({ frames := 8, cells := 1, slots := 6, locals := 126 }) (va_Pc [.ref o, .int 2, .int x2, .int x3, .int x4, .ref ao] (lS ra ga D (tyL cI cZ cJ) ((xW o u cI cZ cJ) ++ [(ao, .inl (cJ, 1, .inr (.inl (fun _ => 0))))]) sz)) (wQi (1) D ((xW o u cI cZ cJ) ++ [(ao, .inl (cJ, 1, .inr (.inl (fun _ => 0))))]) (va_A ((xW o u cI cZ cJ) ++ [(ao, .inl (cJ, 1, .inr (.inl (fun _ => 0))))]) sz)) (xN (va_A ((xW o u cI cZ cJ) ++ [(ao, .inl (cJ, 1, .inr (.inl (fun _ => 0))))]) sz)) 1 6 (va_A ((xW o u cI cZ cJ) ++ [(ao, .inl (cJ, 1, .inr (.inl (fun _ => 0))))]) sz) := by
  refine hStart (l := l) (y := yL_node) (b := cL_node) (n := 7) (r := (some .int)) (hh := [(0, 14, 17, 15), (0, 14, 21, 17)]) (rm := ({ frames := 8, cells := 1, slots := 6, locals := 126 })) (mc := 1) (ms := 6) (ra := ra) (ga := ga) (D := D) (tys := tyL cI cZ cJ) (ws := ((xW o u cI cZ cJ) ++ [(ao, .inl (cJ, 1, .inr (.inl (fun _ => 0))))])) (av := [.ref o, .int 2, .int x2, .int x3, .int x4, .ref ao]) (sz := sz) (lv := [(0, .ref o), (1, .int 2), (2, .int x2), (3, .int x3), (4, .int x4), (5, .ref ao)]) (Qc := fun A => wQi (1) D ((xW o u cI cZ cJ) ++ [(ao, .inl (cJ, 1, .inr (.inl (fun _ => 0))))]) A) (by decide) (Nat.le_of_ble_eq_true rfl) rfl ?_
  intro p e s m args below meth c ls A H S hr hlocks htab hl hK hP hD hS hA hB hC
  have hx := S.1
  have hb := S.2.1
  refine lv_aload hx hb dL_node_0 (lv_at hl 5 rfl) ?_
  refine lv_iconst (v := 0) hx hb dL_node_2 (by decide) ?_
  refine lv_aload_n hx hb dL_node_3 rfl (lv_at hl 0 rfl) ?_
  refine lv_iload_n hx hb dL_node_4 rfl (lv_at hl 1 rfl) ?_
  refine lv_iload_n hx hb dL_node_5 rfl (lv_at hl 2 rfl) ?_
  refine lv_iload_n hx hb dL_node_6 rfl (lv_at hl 3 rfl) ?_
  refine lv_iload hx hb dL_node_7 (lv_at hl 4 rfl) ?_
  refine cVi [] [(ao, .inl (cJ, 1, .inr (.inl (fun _ => 0))))] (As := [.int 2, .int x2, .int x3, .int x4]) (ci := 8) S (c_X8_node_10 l D cI cZ cJ o u hst ra ga H.size x2 x3 x4) mi_X8_node kw_6_23 rfl rfl ⟨Nat.le_of_ble_eq_true rfl, Nat.le_of_ble_eq_true rfl⟩ hP hD hK hS hA hB xW_0 rfl rfl hl.1 (Nat.le_of_ble_eq_true rfl) ⟨Nat.le_of_ble_eq_true rfl, Nat.le_of_ble_eq_true rfl⟩ dL_node_9 (fun ce q9 H locs hz hP hD hS hce hcv hcl => ?_)
  refine vx_catch (name := "java/lang/IllegalArgumentException") S.2.2.2.1 [] (⟨0, 14, 17, 15⟩ : ExceptionTableEntry) [(⟨0, 14, 21, 17⟩ : ExceptionTableEntry)] (htab.trans rfl) (fun _ h => absurd h List.not_mem_nil) (by decide) (by decide) (S.2.2.2.2 _ kw_5_177) (va_Nw.use rfl hB.c1) hce hcv hcl ?_
  have hP : va_P D vwCl ((xW o u cI cZ cJ) ++ [(ao, .inl (cJ, 1, .inr (.inl (fun _ => 0))))]) H := hP
  have hD : va_D A ((xW o u cI cZ cJ) ++ [(ao, .inl (cJ, 1, .inr (.inl (fun _ => 0))))]) := hD
  refine lv_astore (lv' := [(6, .ref q9), (0, .ref o), (1, .int 2), (2, .int x2), (3, .int x3), (4, .int x4), (5, .ref ao)]) hx hb dL_node_17 hl (by decide) rfl (fun ls hl => ?_)
  refine lv_iconst (v := 1) hx hb dL_node_19 (by decide) ?_
  exact vx_ret (wEnd S hr hlocks hP hD hS (Nat.le_of_ble_eq_true rfl) (Nat.le_of_ble_eq_true rfl) dL_node_20 rfl)

set_option maxHeartbeats 8000000 in
set_option maxRecDepth 100000 in
theorem c_X9_isIn_39 (l : Launch) (D : va_G) (cI cZ cJ : ClassId) (o : Nat) (q : Nat → Nat) : Met l yX9_isIn (uW yX9_isIn cX9_isIn 3 (some .boolean)) ({ frames := 0, cells := 0, slots := 0, locals := 0 }) (va_Pc [.int 2, .int 0, .int 21] (pS D (tyL cI cZ cJ) (mW o 0 q cI cZ))) (QcRead (1)) 0 0 (fun _ => False) := by
  refine rdStart (lv := [(0, .int 2), (1, .int 0), (2, .int 21)]) (by decide) (Nat.le_of_ble_eq_true rfl) rfl ?_
  intro p e s m args below meth c ls S hr hlocks hl hP hK
  have hx := S.1
  have hb := S.2.1
  refine lv_iload_n hx hb dX9_isIn_0 rfl (lv_at hl 0 rfl) ?_
  refine lv_iload_n hx hb dX9_isIn_1 rfl (lv_at hl 1 rfl) ?_
  refine lv_icmp_lt (tgt := 14) hx hb dX9_isIn_2 (by decide) (fun c => absurd c (by decide)) (fun _ => ?_)
  refine lv_iload_n hx hb dX9_isIn_5 rfl (lv_at hl 0 rfl) ?_
  refine lv_iload_n hx hb dX9_isIn_6 rfl (lv_at hl 2 rfl) ?_
  refine lv_icmp_gt (tgt := 14) hx hb dX9_isIn_7 (by decide) (fun c => absurd c (by decide)) (fun _ => ?_)
  refine lv_iconst (v := 1) hx hb dX9_isIn_10 (by decide) ?_
  refine lv_goto (tgt := 15) hx hb dX9_isIn_11 (by decide) ?_
  exact rdEndZ S hr hlocks dX9_isIn_15 rfl rfl

set_option maxHeartbeats 8000000 in
set_option maxRecDepth 100000 in
theorem c_X9_isIn_40 (l : Launch) (D : va_G) (cI cZ cJ : ClassId) (o : Nat) (q : Nat → Nat) (x3 : Int32) : Met l yX9_isIn (uW yX9_isIn cX9_isIn 3 (some .boolean)) ({ frames := 0, cells := 0, slots := 0, locals := 0 }) (va_Pc [.int x3, .int 0, .int (-1)] (pS D (tyL cI cZ cJ) (mW o 0 q cI cZ))) (QcRead (0)) 0 0 (fun _ => False) := by
  refine rdStart (lv := [(0, .int x3), (1, .int 0), (2, .int (-1))]) (by decide) (Nat.le_of_ble_eq_true rfl) rfl ?_
  intro p e s m args below meth c ls S hr hlocks hl hP hK
  have hx := S.1
  have hb := S.2.1
  refine lv_iload_n hx hb dX9_isIn_0 rfl (lv_at hl 0 rfl) ?_
  refine lv_iload_n hx hb dX9_isIn_1 rfl (lv_at hl 1 rfl) ?_
  refine lv_icmp_lt (tgt := 14) hx hb dX9_isIn_2 (by decide) (fun c_2 => ?_) (fun c_2 => ?_)
  · have hi_x3 : x3 ≤ (-1) := u_lt c_2 (by decide)
    refine lv_iconst (v := 0) hx hb dX9_isIn_14 (by decide) ?_
    exact rdEndZ S hr hlocks dX9_isIn_15 rfl rfl
  · have lo_x3 : 0 ≤ x3 := l_nlt c_2
    refine lv_iload_n hx hb dX9_isIn_5 rfl (lv_at hl 0 rfl) ?_
    refine lv_iload_n hx hb dX9_isIn_6 rfl (lv_at hl 2 rfl) ?_
    refine lv_icmp_gt (tgt := 14) hx hb dX9_isIn_7 (by decide) (fun _ => ?_) (fun c => absurd (b_gt lo_x3 (by decide)) c)
    refine lv_iconst (v := 0) hx hb dX9_isIn_14 (by decide) ?_
    exact rdEndZ S hr hlocks dX9_isIn_15 rfl rfl

set_option maxHeartbeats 8000000 in
set_option maxRecDepth 100000 in
theorem c_X9_isNode_0 (l : Launch) (D : va_G) (cI cZ cJ : ClassId) (o : Nat) (q : Nat → Nat) (x3 : Int32) : Met l yX9_isNode (uW yX9_isNode cX9_isNode 2 (some .boolean)) ({ frames := 1, cells := 0, slots := 0, locals := 22 }) (va_Pc [.ref o, .int x3] (pS D (tyL cI cZ cJ) (mW o 0 q cI cZ))) (QcRead (0)) 0 0 (fun _ => False) := by
  refine rdStart (lv := [(0, .ref o), (1, .int x3)]) (by decide) (Nat.le_of_ble_eq_true rfl) rfl ?_
  intro p e s m args below meth c ls S hr hlocks hl hP hK
  have hx := S.1
  have hb := S.2.1
  refine lv_iload_n hx hb dX9_isNode_0 rfl (lv_at hl 1 rfl) ?_
  refine lv_iconst (v := 0) hx hb dX9_isNode_1 (by decide) ?_
  refine lv_aload_n hx hb dX9_isNode_2 rfl (lv_at hl 0 rfl) ?_
  refine xg (ci := 9) S inX9 rfl hK hP mW_0 13 (by decide) mF_13 kw_6_161 rfl dX9_isNode_3 ?_
  refine lv_iconst (v := 1) hx hb dX9_isNode_6 (by decide) ?_
  refine xisub (v := (-1)) S dX9_isNode_7 (by decide) ?_
  refine rdS (As := [.int x3, .int 0, .int (-1)]) S (c_X9_isIn_40 l D cI cZ cJ o q x3) ms_X9_isIn kw_7_101 ⟨rfl, rfl⟩ ⟨Nat.le_of_ble_eq_true rfl, Nat.le_of_ble_eq_true rfl⟩ hP hK hl.1 (Nat.le_of_ble_eq_true rfl) ⟨Nat.le_of_ble_eq_true rfl, Nat.le_of_ble_eq_true rfl⟩ dX9_isNode_8 ?_
  exact rdEndZ S hr hlocks dX9_isNode_11 rfl rfl

set_option maxHeartbeats 8000000 in
set_option maxRecDepth 100000 in
theorem c_X9_isFree_0 (l : Launch) (D : va_G) (cI cZ cJ : ClassId) (o : Nat) (q : Nat → Nat) (x3 : Int32) : Met l yX9_isFree (uW yX9_isFree cX9_isFree 2 (some .boolean)) ({ frames := 2, cells := 0, slots := 0, locals := 43 }) (va_Pc [.ref o, .int x3] (pS D (tyL cI cZ cJ) (mW o 0 q cI cZ))) (QcRead (0)) 0 0 (fun _ => False) := by
  refine rdStart (lv := [(0, .ref o), (1, .int x3)]) (by decide) (Nat.le_of_ble_eq_true rfl) rfl ?_
  intro p e s m args below meth c ls S hr hlocks hl hP hK
  have hx := S.1
  have hb := S.2.1
  refine lv_aload_n hx hb dX9_isFree_0 rfl (lv_at hl 0 rfl) ?_
  refine lv_iload_n hx hb dX9_isFree_1 rfl (lv_at hl 1 rfl) ?_
  refine rdV (As := [.int x3]) (ci := 9) S (c_X9_isNode_0 l D cI cZ cJ o q x3) mi_X9_isNode kw_7_167 ⟨rfl, rfl⟩ ⟨Nat.le_of_ble_eq_true rfl, Nat.le_of_ble_eq_true rfl⟩ hP hK mW_0 rfl rfl hl.1 (Nat.le_of_ble_eq_true rfl) ⟨Nat.le_of_ble_eq_true rfl, Nat.le_of_ble_eq_true rfl⟩ dX9_isFree_2 ?_
  refine lv_if_eq (tgt := 32) hx hb dX9_isFree_5 (by decide) (fun _ => ?_) (fun c => absurd c (by decide))
  refine lv_iconst (v := 0) hx hb dX9_isFree_32 (by decide) ?_
  exact rdEndZ S hr hlocks dX9_isFree_33 rfl rfl

set_option maxHeartbeats 8000000 in
set_option maxRecDepth 100000 in
theorem c_X9_isFreeExpression_0 (l : Launch) (D : va_G) (cI cZ cJ : ClassId) (o : Nat) (q : Nat → Nat) (x3 : Int32) : Met l yX9_isFreeExpression (uW yX9_isFreeExpression cX9_isFreeExpression 2 (some .boolean)) ({ frames := 3, cells := 0, slots := 0, locals := 64 }) (va_Pc [.ref o, .int x3] (pS D (tyL cI cZ cJ) (mW o 0 q cI cZ))) (QcRead (0)) 0 0 (fun _ => False) := by
  refine rdStart (lv := [(0, .ref o), (1, .int x3)]) (by decide) (Nat.le_of_ble_eq_true rfl) rfl ?_
  intro p e s m args below meth c ls S hr hlocks hl hP hK
  have hx := S.1
  have hb := S.2.1
  refine lv_aload_n hx hb dX9_isFreeExpression_0 rfl (lv_at hl 0 rfl) ?_
  refine lv_iload_n hx hb dX9_isFreeExpression_1 rfl (lv_at hl 1 rfl) ?_
  refine rdV (As := [.int x3]) (ci := 9) S (c_X9_isFree_0 l D cI cZ cJ o q x3) mi_X9_isFree kw_7_163 ⟨rfl, rfl⟩ ⟨Nat.le_of_ble_eq_true rfl, Nat.le_of_ble_eq_true rfl⟩ hP hK mW_0 rfl rfl hl.1 (Nat.le_of_ble_eq_true rfl) ⟨Nat.le_of_ble_eq_true rfl, Nat.le_of_ble_eq_true rfl⟩ dX9_isFreeExpression_2 ?_
  refine lv_if_eq (tgt := 24) hx hb dX9_isFreeExpression_5 (by decide) (fun _ => ?_) (fun c => absurd c (by decide))
  refine lv_iconst (v := 0) hx hb dX9_isFreeExpression_24 (by decide) ?_
  exact rdEndZ S hr hlocks dX9_isFreeExpression_25 rfl rfl

set_option maxHeartbeats 8000000 in
set_option maxRecDepth 100000 in
theorem c_X9_canBe_10 (l : Launch) (D : va_G) (cI cZ cJ : ClassId) (o : Nat) (q : Nat → Nat) (x2 : Int32) (x3 : Int32) (x4 : Int32) : Met l yX9_canBe (uW yX9_canBe cX9_canBe 5 (some .boolean)) ({ frames := 4, cells := 0, slots := 0, locals := 85 }) (va_Pc [.ref o, .int 2, .int x2, .int x3, .int x4] (pS D (tyL cI cZ cJ) (mW o 0 q cI cZ))) (QcRead (0)) 0 0 (fun _ => False) := by
  refine rdStart (lv := [(0, .ref o), (1, .int 2), (2, .int x2), (3, .int x3), (4, .int x4)]) (by decide) (Nat.le_of_ble_eq_true rfl) rfl ?_
  intro p e s m args below meth c ls S hr hlocks hl hP hK
  have hx := S.1
  have hb := S.2.1
  refine lv_iload_n hx hb dX9_canBe_0 rfl (lv_at hl 1 rfl) ?_
  refine lv_tableIn (off := 153) (tgt := 154) hx hb dX9_canBe_1 (by decide) (by decide) (by decide) (by decide) ?_
  refine lv_iload_n hx hb dX9_canBe_154 rfl (lv_at hl 2 rfl) ?_
  by_cases d_155 : x2 < 0
  · have hi_x2 : x2 ≤ (-1) := u_lt d_155 (by decide)
    refine rdS (As := [.int x2]) S (c_X9_isName_0 l D cI cZ cJ o q x2 hi_x2) ms_X9_isName kw_7_108 ⟨rfl, rfl⟩ ⟨Nat.le_of_ble_eq_true rfl, Nat.le_of_ble_eq_true rfl⟩ hP hK hl.1 (Nat.le_of_ble_eq_true rfl) ⟨Nat.le_of_ble_eq_true rfl, Nat.le_of_ble_eq_true rfl⟩ dX9_canBe_155 ?_
    refine lv_if_eq (tgt := 178) hx hb dX9_canBe_158 (by decide) (fun _ => ?_) (fun c => absurd c (by decide))
    refine lv_iconst (v := 0) hx hb dX9_canBe_178 (by decide) ?_
    exact rdEndZ S hr hlocks dX9_canBe_179 rfl rfl
  · have lo_x2 : 0 ≤ x2 := l_nlt d_155
    by_cases d_155 : 15 < x2
    · have lo_x2 : 16 ≤ x2 := l_gt d_155 (by decide)
      refine rdS (As := [.int x2]) S (c_X9_isName_1 l D cI cZ cJ o q x2 lo_x2) ms_X9_isName kw_7_108 ⟨rfl, rfl⟩ ⟨Nat.le_of_ble_eq_true rfl, Nat.le_of_ble_eq_true rfl⟩ hP hK hl.1 (Nat.le_of_ble_eq_true rfl) ⟨Nat.le_of_ble_eq_true rfl, Nat.le_of_ble_eq_true rfl⟩ dX9_canBe_155 ?_
      refine lv_if_eq (tgt := 178) hx hb dX9_canBe_158 (by decide) (fun _ => ?_) (fun c => absurd c (by decide))
      refine lv_iconst (v := 0) hx hb dX9_canBe_178 (by decide) ?_
      exact rdEndZ S hr hlocks dX9_canBe_179 rfl rfl
    · have hi_x2 : x2 ≤ 15 := u_ngt d_155
      refine rdS (As := [.int x2]) S (c_X9_isName_2 l D cI cZ cJ o q x2 lo_x2 hi_x2) ms_X9_isName kw_7_108 ⟨rfl, rfl⟩ ⟨Nat.le_of_ble_eq_true rfl, Nat.le_of_ble_eq_true rfl⟩ hP hK hl.1 (Nat.le_of_ble_eq_true rfl) ⟨Nat.le_of_ble_eq_true rfl, Nat.le_of_ble_eq_true rfl⟩ dX9_canBe_155 ?_
      refine lv_if_eq (tgt := 178) hx hb dX9_canBe_158 (by decide) (fun c => absurd c (by decide)) (fun _ => ?_)
      refine lv_aload_n hx hb dX9_canBe_161 rfl (lv_at hl 0 rfl) ?_
      refine lv_iload_n hx hb dX9_canBe_162 rfl (lv_at hl 3 rfl) ?_
      refine rdV (As := [.int x3]) (ci := 9) S (c_X9_isFreeExpression_0 l D cI cZ cJ o q x3) mi_X9_isFreeExpression kw_7_159 ⟨rfl, rfl⟩ ⟨Nat.le_of_ble_eq_true rfl, Nat.le_of_ble_eq_true rfl⟩ hP hK mW_0 rfl rfl hl.1 (Nat.le_of_ble_eq_true rfl) ⟨Nat.le_of_ble_eq_true rfl, Nat.le_of_ble_eq_true rfl⟩ dX9_canBe_163 ?_
      refine lv_if_eq (tgt := 178) hx hb dX9_canBe_166 (by decide) (fun _ => ?_) (fun c => absurd c (by decide))
      refine lv_iconst (v := 0) hx hb dX9_canBe_178 (by decide) ?_
      exact rdEndZ S hr hlocks dX9_canBe_179 rfl rfl

set_option maxHeartbeats 8000000 in
set_option maxRecDepth 100000 in
theorem c_X9_node_10 (l : Launch) (D : va_G) (cI cZ cJ : ClassId) (o : Nat) (q : Nat → Nat) (sz : Nat) (x2 : Int32) (x3 : Int32) (x4 : Int32) : Met l yX9_node (uW yX9_node cX9_node 6 (some .int)) ({ frames := 5, cells := 0, slots := 0, locals := 109 }) (va_Pc [.ref o, .int 2, .int x2, .int x3, .int x4] (wS D (tyL cI cZ cJ) (mW o 0 q cI cZ) sz)) (wQi (0) D (mW o 1 q cI cZ) (va_A (mW o 0 q cI cZ) sz)) 0 0 (va_A (mW o 0 q cI cZ) sz) := by
  refine wStart (lv := [(0, .ref o), (1, .int 2), (2, .int x2), (3, .int x3), (4, .int x4)]) (Qc := fun A => wQi (0) D (mW o 1 q cI cZ) A) (by decide) (Nat.le_of_ble_eq_true rfl) rfl ?_
  intro p e s m args below meth c ls A H S hr hlocks hnm hl hK hP hD hS hA
  have hx := S.1
  have hb := S.2.1
  refine lv_aload_n hx hb dX9_node_0 rfl (lv_at hl 0 rfl) ?_
  refine lv_iconst (v := 0) hx hb dX9_node_1 (by decide) ?_
  refine xp (ci := 9) (v := .int 0) S inX9 tyX9 tyX9_ok nmX9 rfl hK hP hD hS mW_0 0 (by decide) kw_6_148 rfl rfl rfl rfl (Nat.le_of_ble_eq_true rfl) dX9_node_2 (fun H locs hP hD hS => ?_)
  have hP : va_P D vwCl (mW o 0 q cI cZ) H := hP
  have hD : va_D A (mW o 0 q cI cZ) := hD
  refine lv_iload_n hx hb dX9_node_5 rfl (lv_at hl 1 rfl) ?_
  refine lv_iconst (v := 0) hx hb dX9_node_6 (by decide) ?_
  refine lv_bipush (v := 21) hx hb dX9_node_7 (by decide) ?_
  refine rdS (As := [.int 2, .int 0, .int 21]) S (c_X9_isIn_39 l D cI cZ cJ o q) ms_X9_isIn kw_7_101 ⟨rfl, rfl⟩ ⟨Nat.le_of_ble_eq_true rfl, Nat.le_of_ble_eq_true rfl⟩ hP hK hl.1 (Nat.le_of_ble_eq_true rfl) ⟨Nat.le_of_ble_eq_true rfl, Nat.le_of_ble_eq_true rfl⟩ dX9_node_9 ?_
  refine lv_if_eq (tgt := 27) hx hb dX9_node_12 (by decide) (fun c => absurd c (by decide)) (fun _ => ?_)
  refine lv_aload_n hx hb dX9_node_15 rfl (lv_at hl 0 rfl) ?_
  refine lv_iload_n hx hb dX9_node_16 rfl (lv_at hl 1 rfl) ?_
  refine lv_iload_n hx hb dX9_node_17 rfl (lv_at hl 2 rfl) ?_
  refine lv_iload_n hx hb dX9_node_18 rfl (lv_at hl 3 rfl) ?_
  refine lv_iload hx hb dX9_node_19 (lv_at hl 4 rfl) ?_
  refine rdV (As := [.int 2, .int x2, .int x3, .int x4]) (ci := 9) S (c_X9_canBe_10 l D cI cZ cJ o q x2 x3 x4) mi_X9_canBe kw_7_155 ⟨rfl, rfl⟩ ⟨Nat.le_of_ble_eq_true rfl, Nat.le_of_ble_eq_true rfl⟩ hP hK mW_0 rfl rfl hl.1 (Nat.le_of_ble_eq_true rfl) ⟨Nat.le_of_ble_eq_true rfl, Nat.le_of_ble_eq_true rfl⟩ dX9_node_21 ?_
  refine lv_if_ne (tgt := 33) hx hb dX9_node_24 (by decide) (fun c => absurd c (by decide)) (fun _ => ?_)
  refine lv_aload_n hx hb dX9_node_27 rfl (lv_at hl 0 rfl) ?_
  refine lv_iconst (v := 1) hx hb dX9_node_28 (by decide) ?_
  refine wrV (As := [.int 1]) (ci := 9) S (c_X9_no_0 l D cI cZ cJ o q H.size) mi_X9_no kw_7_104 rfl rfl ⟨Nat.le_of_ble_eq_true rfl, Nat.le_of_ble_eq_true rfl⟩ hP hD hK hS hA mW_0 rfl rfl hl.1 (Nat.le_of_ble_eq_true rfl) ⟨Nat.le_of_ble_eq_true rfl, Nat.le_of_ble_eq_true rfl⟩ dX9_node_29 (fun H locs hz hP hD hS => ?_)
  exact wEnd S hr hlocks hP hD hS (Nat.le_of_ble_eq_true rfl) (Nat.le_of_ble_eq_true rfl) dX9_node_32 rfl

set_option maxHeartbeats 8000000 in
set_option maxRecDepth 100000 in
theorem h_node_11 (l : Launch) (D : va_G) (cI cZ cJ : ClassId) (o : Nat) (u : Nat → Nat) (ao : Nat) (hst : l.stackTraces = false) (ra ga : Nat → Nat) (sz : Nat) (x2 : Int32) (x3 : Int32) (x4 : Int32) : vx_Met l yL_node (uWh yL_node cL_node 7 (some .int) [(0, 14, 17, 15), (0, 14, 21, 17)]) ({ frames := 8, cells := 1, slots := 6, locals := 126 }) (va_Pc [.ref o, .int 3, .int x2, .int x3, .int x4, .ref ao] (lS ra ga D (tyL cI cZ cJ) ((xW o u cI cZ cJ) ++ [(ao, .inl (cJ, 1, .inr (.inl (fun _ => 0))))]) sz)) (wQi (1) D ((xW o u cI cZ cJ) ++ [(ao, .inl (cJ, 1, .inr (.inl (fun _ => 0))))]) (va_A ((xW o u cI cZ cJ) ++ [(ao, .inl (cJ, 1, .inr (.inl (fun _ => 0))))]) sz)) (xN (va_A ((xW o u cI cZ cJ) ++ [(ao, .inl (cJ, 1, .inr (.inl (fun _ => 0))))]) sz)) 1 6 (va_A ((xW o u cI cZ cJ) ++ [(ao, .inl (cJ, 1, .inr (.inl (fun _ => 0))))]) sz) := by
  refine hStart (l := l) (y := yL_node) (b := cL_node) (n := 7) (r := (some .int)) (hh := [(0, 14, 17, 15), (0, 14, 21, 17)]) (rm := ({ frames := 8, cells := 1, slots := 6, locals := 126 })) (mc := 1) (ms := 6) (ra := ra) (ga := ga) (D := D) (tys := tyL cI cZ cJ) (ws := ((xW o u cI cZ cJ) ++ [(ao, .inl (cJ, 1, .inr (.inl (fun _ => 0))))])) (av := [.ref o, .int 3, .int x2, .int x3, .int x4, .ref ao]) (sz := sz) (lv := [(0, .ref o), (1, .int 3), (2, .int x2), (3, .int x3), (4, .int x4), (5, .ref ao)]) (Qc := fun A => wQi (1) D ((xW o u cI cZ cJ) ++ [(ao, .inl (cJ, 1, .inr (.inl (fun _ => 0))))]) A) (by decide) (Nat.le_of_ble_eq_true rfl) rfl ?_
  intro p e s m args below meth c ls A H S hr hlocks htab hl hK hP hD hS hA hB hC
  have hx := S.1
  have hb := S.2.1
  refine lv_aload hx hb dL_node_0 (lv_at hl 5 rfl) ?_
  refine lv_iconst (v := 0) hx hb dL_node_2 (by decide) ?_
  refine lv_aload_n hx hb dL_node_3 rfl (lv_at hl 0 rfl) ?_
  refine lv_iload_n hx hb dL_node_4 rfl (lv_at hl 1 rfl) ?_
  refine lv_iload_n hx hb dL_node_5 rfl (lv_at hl 2 rfl) ?_
  refine lv_iload_n hx hb dL_node_6 rfl (lv_at hl 3 rfl) ?_
  refine lv_iload hx hb dL_node_7 (lv_at hl 4 rfl) ?_
  refine cVi [] [(ao, .inl (cJ, 1, .inr (.inl (fun _ => 0))))] (As := [.int 3, .int x2, .int x3, .int x4]) (ci := 8) S (c_X8_node_11 l D cI cZ cJ o u hst ra ga H.size x2 x3 x4) mi_X8_node kw_6_23 rfl rfl ⟨Nat.le_of_ble_eq_true rfl, Nat.le_of_ble_eq_true rfl⟩ hP hD hK hS hA hB xW_0 rfl rfl hl.1 (Nat.le_of_ble_eq_true rfl) ⟨Nat.le_of_ble_eq_true rfl, Nat.le_of_ble_eq_true rfl⟩ dL_node_9 (fun ce q9 H locs hz hP hD hS hce hcv hcl => ?_)
  refine vx_catch (name := "java/lang/IllegalArgumentException") S.2.2.2.1 [] (⟨0, 14, 17, 15⟩ : ExceptionTableEntry) [(⟨0, 14, 21, 17⟩ : ExceptionTableEntry)] (htab.trans rfl) (fun _ h => absurd h List.not_mem_nil) (by decide) (by decide) (S.2.2.2.2 _ kw_5_177) (va_Nw.use rfl hB.c1) hce hcv hcl ?_
  have hP : va_P D vwCl ((xW o u cI cZ cJ) ++ [(ao, .inl (cJ, 1, .inr (.inl (fun _ => 0))))]) H := hP
  have hD : va_D A ((xW o u cI cZ cJ) ++ [(ao, .inl (cJ, 1, .inr (.inl (fun _ => 0))))]) := hD
  refine lv_astore (lv' := [(6, .ref q9), (0, .ref o), (1, .int 3), (2, .int x2), (3, .int x3), (4, .int x4), (5, .ref ao)]) hx hb dL_node_17 hl (by decide) rfl (fun ls hl => ?_)
  refine lv_iconst (v := 1) hx hb dL_node_19 (by decide) ?_
  exact vx_ret (wEnd S hr hlocks hP hD hS (Nat.le_of_ble_eq_true rfl) (Nat.le_of_ble_eq_true rfl) dL_node_20 rfl)

set_option maxHeartbeats 8000000 in
set_option maxRecDepth 100000 in
theorem c_X9_isIn_41 (l : Launch) (D : va_G) (cI cZ cJ : ClassId) (o : Nat) (q : Nat → Nat) : Met l yX9_isIn (uW yX9_isIn cX9_isIn 3 (some .boolean)) ({ frames := 0, cells := 0, slots := 0, locals := 0 }) (va_Pc [.int 3, .int 0, .int 21] (pS D (tyL cI cZ cJ) (mW o 0 q cI cZ))) (QcRead (1)) 0 0 (fun _ => False) := by
  refine rdStart (lv := [(0, .int 3), (1, .int 0), (2, .int 21)]) (by decide) (Nat.le_of_ble_eq_true rfl) rfl ?_
  intro p e s m args below meth c ls S hr hlocks hl hP hK
  have hx := S.1
  have hb := S.2.1
  refine lv_iload_n hx hb dX9_isIn_0 rfl (lv_at hl 0 rfl) ?_
  refine lv_iload_n hx hb dX9_isIn_1 rfl (lv_at hl 1 rfl) ?_
  refine lv_icmp_lt (tgt := 14) hx hb dX9_isIn_2 (by decide) (fun c => absurd c (by decide)) (fun _ => ?_)
  refine lv_iload_n hx hb dX9_isIn_5 rfl (lv_at hl 0 rfl) ?_
  refine lv_iload_n hx hb dX9_isIn_6 rfl (lv_at hl 2 rfl) ?_
  refine lv_icmp_gt (tgt := 14) hx hb dX9_isIn_7 (by decide) (fun c => absurd c (by decide)) (fun _ => ?_)
  refine lv_iconst (v := 1) hx hb dX9_isIn_10 (by decide) ?_
  refine lv_goto (tgt := 15) hx hb dX9_isIn_11 (by decide) ?_
  exact rdEndZ S hr hlocks dX9_isIn_15 rfl rfl

set_option maxHeartbeats 8000000 in
set_option maxRecDepth 100000 in
theorem c_X9_canBe_11 (l : Launch) (D : va_G) (cI cZ cJ : ClassId) (o : Nat) (q : Nat → Nat) (x2 : Int32) (x3 : Int32) (x4 : Int32) : Met l yX9_canBe (uW yX9_canBe cX9_canBe 5 (some .boolean)) ({ frames := 4, cells := 0, slots := 0, locals := 85 }) (va_Pc [.ref o, .int 3, .int x2, .int x3, .int x4] (pS D (tyL cI cZ cJ) (mW o 0 q cI cZ))) (QcRead (0)) 0 0 (fun _ => False) := by
  refine rdStart (lv := [(0, .ref o), (1, .int 3), (2, .int x2), (3, .int x3), (4, .int x4)]) (by decide) (Nat.le_of_ble_eq_true rfl) rfl ?_
  intro p e s m args below meth c ls S hr hlocks hl hP hK
  have hx := S.1
  have hb := S.2.1
  refine lv_iload_n hx hb dX9_canBe_0 rfl (lv_at hl 1 rfl) ?_
  refine lv_tableIn (off := 179) (tgt := 180) hx hb dX9_canBe_1 (by decide) (by decide) (by decide) (by decide) ?_
  refine lv_iload_n hx hb dX9_canBe_180 rfl (lv_at hl 2 rfl) ?_
  refine lv_if_ne (tgt := 211) hx hb dX9_canBe_181 (by decide) (fun c_181 => ?_) (fun c_181 => ?_)
  · have ne_x2_0 : ¬ x2 = 0 := c_181
    refine lv_iconst (v := 0) hx hb dX9_canBe_211 (by decide) ?_
    exact rdEndZ S hr hlocks dX9_canBe_212 rfl rfl
  · have e_x2 : x2 = 0 := c_181
    subst e_x2
    refine lv_aload_n hx hb dX9_canBe_184 rfl (lv_at hl 0 rfl) ?_
    refine lv_iload_n hx hb dX9_canBe_185 rfl (lv_at hl 3 rfl) ?_
    refine rdV (As := [.int x3]) (ci := 9) S (c_X9_isFreeExpression_0 l D cI cZ cJ o q x3) mi_X9_isFreeExpression kw_7_159 ⟨rfl, rfl⟩ ⟨Nat.le_of_ble_eq_true rfl, Nat.le_of_ble_eq_true rfl⟩ hP hK mW_0 rfl rfl hl.1 (Nat.le_of_ble_eq_true rfl) ⟨Nat.le_of_ble_eq_true rfl, Nat.le_of_ble_eq_true rfl⟩ dX9_canBe_186 ?_
    refine lv_if_eq (tgt := 211) hx hb dX9_canBe_189 (by decide) (fun _ => ?_) (fun c => absurd c (by decide))
    refine lv_iconst (v := 0) hx hb dX9_canBe_211 (by decide) ?_
    exact rdEndZ S hr hlocks dX9_canBe_212 rfl rfl

set_option maxHeartbeats 8000000 in
set_option maxRecDepth 100000 in
theorem c_X9_node_11 (l : Launch) (D : va_G) (cI cZ cJ : ClassId) (o : Nat) (q : Nat → Nat) (sz : Nat) (x2 : Int32) (x3 : Int32) (x4 : Int32) : Met l yX9_node (uW yX9_node cX9_node 6 (some .int)) ({ frames := 5, cells := 0, slots := 0, locals := 109 }) (va_Pc [.ref o, .int 3, .int x2, .int x3, .int x4] (wS D (tyL cI cZ cJ) (mW o 0 q cI cZ) sz)) (wQi (0) D (mW o 1 q cI cZ) (va_A (mW o 0 q cI cZ) sz)) 0 0 (va_A (mW o 0 q cI cZ) sz) := by
  refine wStart (lv := [(0, .ref o), (1, .int 3), (2, .int x2), (3, .int x3), (4, .int x4)]) (Qc := fun A => wQi (0) D (mW o 1 q cI cZ) A) (by decide) (Nat.le_of_ble_eq_true rfl) rfl ?_
  intro p e s m args below meth c ls A H S hr hlocks hnm hl hK hP hD hS hA
  have hx := S.1
  have hb := S.2.1
  refine lv_aload_n hx hb dX9_node_0 rfl (lv_at hl 0 rfl) ?_
  refine lv_iconst (v := 0) hx hb dX9_node_1 (by decide) ?_
  refine xp (ci := 9) (v := .int 0) S inX9 tyX9 tyX9_ok nmX9 rfl hK hP hD hS mW_0 0 (by decide) kw_6_148 rfl rfl rfl rfl (Nat.le_of_ble_eq_true rfl) dX9_node_2 (fun H locs hP hD hS => ?_)
  have hP : va_P D vwCl (mW o 0 q cI cZ) H := hP
  have hD : va_D A (mW o 0 q cI cZ) := hD
  refine lv_iload_n hx hb dX9_node_5 rfl (lv_at hl 1 rfl) ?_
  refine lv_iconst (v := 0) hx hb dX9_node_6 (by decide) ?_
  refine lv_bipush (v := 21) hx hb dX9_node_7 (by decide) ?_
  refine rdS (As := [.int 3, .int 0, .int 21]) S (c_X9_isIn_41 l D cI cZ cJ o q) ms_X9_isIn kw_7_101 ⟨rfl, rfl⟩ ⟨Nat.le_of_ble_eq_true rfl, Nat.le_of_ble_eq_true rfl⟩ hP hK hl.1 (Nat.le_of_ble_eq_true rfl) ⟨Nat.le_of_ble_eq_true rfl, Nat.le_of_ble_eq_true rfl⟩ dX9_node_9 ?_
  refine lv_if_eq (tgt := 27) hx hb dX9_node_12 (by decide) (fun c => absurd c (by decide)) (fun _ => ?_)
  refine lv_aload_n hx hb dX9_node_15 rfl (lv_at hl 0 rfl) ?_
  refine lv_iload_n hx hb dX9_node_16 rfl (lv_at hl 1 rfl) ?_
  refine lv_iload_n hx hb dX9_node_17 rfl (lv_at hl 2 rfl) ?_
  refine lv_iload_n hx hb dX9_node_18 rfl (lv_at hl 3 rfl) ?_
  refine lv_iload hx hb dX9_node_19 (lv_at hl 4 rfl) ?_
  refine rdV (As := [.int 3, .int x2, .int x3, .int x4]) (ci := 9) S (c_X9_canBe_11 l D cI cZ cJ o q x2 x3 x4) mi_X9_canBe kw_7_155 ⟨rfl, rfl⟩ ⟨Nat.le_of_ble_eq_true rfl, Nat.le_of_ble_eq_true rfl⟩ hP hK mW_0 rfl rfl hl.1 (Nat.le_of_ble_eq_true rfl) ⟨Nat.le_of_ble_eq_true rfl, Nat.le_of_ble_eq_true rfl⟩ dX9_node_21 ?_
  refine lv_if_ne (tgt := 33) hx hb dX9_node_24 (by decide) (fun c => absurd c (by decide)) (fun _ => ?_)
  refine lv_aload_n hx hb dX9_node_27 rfl (lv_at hl 0 rfl) ?_
  refine lv_iconst (v := 1) hx hb dX9_node_28 (by decide) ?_
  refine wrV (As := [.int 1]) (ci := 9) S (c_X9_no_0 l D cI cZ cJ o q H.size) mi_X9_no kw_7_104 rfl rfl ⟨Nat.le_of_ble_eq_true rfl, Nat.le_of_ble_eq_true rfl⟩ hP hD hK hS hA mW_0 rfl rfl hl.1 (Nat.le_of_ble_eq_true rfl) ⟨Nat.le_of_ble_eq_true rfl, Nat.le_of_ble_eq_true rfl⟩ dX9_node_29 (fun H locs hz hP hD hS => ?_)
  exact wEnd S hr hlocks hP hD hS (Nat.le_of_ble_eq_true rfl) (Nat.le_of_ble_eq_true rfl) dX9_node_32 rfl

set_option maxHeartbeats 8000000 in
set_option maxRecDepth 100000 in
theorem h_node_12 (l : Launch) (D : va_G) (cI cZ cJ : ClassId) (o : Nat) (u : Nat → Nat) (ao : Nat) (hst : l.stackTraces = false) (ra ga : Nat → Nat) (sz : Nat) (x2 : Int32) (x3 : Int32) (x4 : Int32) : vx_Met l yL_node (uWh yL_node cL_node 7 (some .int) [(0, 14, 17, 15), (0, 14, 21, 17)]) ({ frames := 8, cells := 1, slots := 6, locals := 126 }) (va_Pc [.ref o, .int 4, .int x2, .int x3, .int x4, .ref ao] (lS ra ga D (tyL cI cZ cJ) ((xW o u cI cZ cJ) ++ [(ao, .inl (cJ, 1, .inr (.inl (fun _ => 0))))]) sz)) (wQi (1) D ((xW o u cI cZ cJ) ++ [(ao, .inl (cJ, 1, .inr (.inl (fun _ => 0))))]) (va_A ((xW o u cI cZ cJ) ++ [(ao, .inl (cJ, 1, .inr (.inl (fun _ => 0))))]) sz)) (xN (va_A ((xW o u cI cZ cJ) ++ [(ao, .inl (cJ, 1, .inr (.inl (fun _ => 0))))]) sz)) 1 6 (va_A ((xW o u cI cZ cJ) ++ [(ao, .inl (cJ, 1, .inr (.inl (fun _ => 0))))]) sz) := by
  refine hStart (l := l) (y := yL_node) (b := cL_node) (n := 7) (r := (some .int)) (hh := [(0, 14, 17, 15), (0, 14, 21, 17)]) (rm := ({ frames := 8, cells := 1, slots := 6, locals := 126 })) (mc := 1) (ms := 6) (ra := ra) (ga := ga) (D := D) (tys := tyL cI cZ cJ) (ws := ((xW o u cI cZ cJ) ++ [(ao, .inl (cJ, 1, .inr (.inl (fun _ => 0))))])) (av := [.ref o, .int 4, .int x2, .int x3, .int x4, .ref ao]) (sz := sz) (lv := [(0, .ref o), (1, .int 4), (2, .int x2), (3, .int x3), (4, .int x4), (5, .ref ao)]) (Qc := fun A => wQi (1) D ((xW o u cI cZ cJ) ++ [(ao, .inl (cJ, 1, .inr (.inl (fun _ => 0))))]) A) (by decide) (Nat.le_of_ble_eq_true rfl) rfl ?_
  intro p e s m args below meth c ls A H S hr hlocks htab hl hK hP hD hS hA hB hC
  have hx := S.1
  have hb := S.2.1
  refine lv_aload hx hb dL_node_0 (lv_at hl 5 rfl) ?_
  refine lv_iconst (v := 0) hx hb dL_node_2 (by decide) ?_
  refine lv_aload_n hx hb dL_node_3 rfl (lv_at hl 0 rfl) ?_
  refine lv_iload_n hx hb dL_node_4 rfl (lv_at hl 1 rfl) ?_
  refine lv_iload_n hx hb dL_node_5 rfl (lv_at hl 2 rfl) ?_
  refine lv_iload_n hx hb dL_node_6 rfl (lv_at hl 3 rfl) ?_
  refine lv_iload hx hb dL_node_7 (lv_at hl 4 rfl) ?_
  refine cVi [] [(ao, .inl (cJ, 1, .inr (.inl (fun _ => 0))))] (As := [.int 4, .int x2, .int x3, .int x4]) (ci := 8) S (c_X8_node_12 l D cI cZ cJ o u hst ra ga H.size x2 x3 x4) mi_X8_node kw_6_23 rfl rfl ⟨Nat.le_of_ble_eq_true rfl, Nat.le_of_ble_eq_true rfl⟩ hP hD hK hS hA hB xW_0 rfl rfl hl.1 (Nat.le_of_ble_eq_true rfl) ⟨Nat.le_of_ble_eq_true rfl, Nat.le_of_ble_eq_true rfl⟩ dL_node_9 (fun ce q9 H locs hz hP hD hS hce hcv hcl => ?_)
  refine vx_catch (name := "java/lang/IllegalArgumentException") S.2.2.2.1 [] (⟨0, 14, 17, 15⟩ : ExceptionTableEntry) [(⟨0, 14, 21, 17⟩ : ExceptionTableEntry)] (htab.trans rfl) (fun _ h => absurd h List.not_mem_nil) (by decide) (by decide) (S.2.2.2.2 _ kw_5_177) (va_Nw.use rfl hB.c1) hce hcv hcl ?_
  have hP : va_P D vwCl ((xW o u cI cZ cJ) ++ [(ao, .inl (cJ, 1, .inr (.inl (fun _ => 0))))]) H := hP
  have hD : va_D A ((xW o u cI cZ cJ) ++ [(ao, .inl (cJ, 1, .inr (.inl (fun _ => 0))))]) := hD
  refine lv_astore (lv' := [(6, .ref q9), (0, .ref o), (1, .int 4), (2, .int x2), (3, .int x3), (4, .int x4), (5, .ref ao)]) hx hb dL_node_17 hl (by decide) rfl (fun ls hl => ?_)
  refine lv_iconst (v := 1) hx hb dL_node_19 (by decide) ?_
  exact vx_ret (wEnd S hr hlocks hP hD hS (Nat.le_of_ble_eq_true rfl) (Nat.le_of_ble_eq_true rfl) dL_node_20 rfl)

set_option maxHeartbeats 8000000 in
set_option maxRecDepth 100000 in
theorem c_X9_isIn_42 (l : Launch) (D : va_G) (cI cZ cJ : ClassId) (o : Nat) (q : Nat → Nat) : Met l yX9_isIn (uW yX9_isIn cX9_isIn 3 (some .boolean)) ({ frames := 0, cells := 0, slots := 0, locals := 0 }) (va_Pc [.int 4, .int 0, .int 21] (pS D (tyL cI cZ cJ) (mW o 0 q cI cZ))) (QcRead (1)) 0 0 (fun _ => False) := by
  refine rdStart (lv := [(0, .int 4), (1, .int 0), (2, .int 21)]) (by decide) (Nat.le_of_ble_eq_true rfl) rfl ?_
  intro p e s m args below meth c ls S hr hlocks hl hP hK
  have hx := S.1
  have hb := S.2.1
  refine lv_iload_n hx hb dX9_isIn_0 rfl (lv_at hl 0 rfl) ?_
  refine lv_iload_n hx hb dX9_isIn_1 rfl (lv_at hl 1 rfl) ?_
  refine lv_icmp_lt (tgt := 14) hx hb dX9_isIn_2 (by decide) (fun c => absurd c (by decide)) (fun _ => ?_)
  refine lv_iload_n hx hb dX9_isIn_5 rfl (lv_at hl 0 rfl) ?_
  refine lv_iload_n hx hb dX9_isIn_6 rfl (lv_at hl 2 rfl) ?_
  refine lv_icmp_gt (tgt := 14) hx hb dX9_isIn_7 (by decide) (fun c => absurd c (by decide)) (fun _ => ?_)
  refine lv_iconst (v := 1) hx hb dX9_isIn_10 (by decide) ?_
  refine lv_goto (tgt := 15) hx hb dX9_isIn_11 (by decide) ?_
  exact rdEndZ S hr hlocks dX9_isIn_15 rfl rfl

set_option maxHeartbeats 8000000 in
set_option maxRecDepth 100000 in
theorem c_X9_canBe_12 (l : Launch) (D : va_G) (cI cZ cJ : ClassId) (o : Nat) (q : Nat → Nat) (x2 : Int32) (x3 : Int32) (x4 : Int32) : Met l yX9_canBe (uW yX9_canBe cX9_canBe 5 (some .boolean)) ({ frames := 4, cells := 0, slots := 0, locals := 85 }) (va_Pc [.ref o, .int 4, .int x2, .int x3, .int x4] (pS D (tyL cI cZ cJ) (mW o 0 q cI cZ))) (QcRead (0)) 0 0 (fun _ => False) := by
  refine rdStart (lv := [(0, .ref o), (1, .int 4), (2, .int x2), (3, .int x3), (4, .int x4)]) (by decide) (Nat.le_of_ble_eq_true rfl) rfl ?_
  intro p e s m args below meth c ls S hr hlocks hl hP hK
  have hx := S.1
  have hb := S.2.1
  refine lv_iload_n hx hb dX9_canBe_0 rfl (lv_at hl 1 rfl) ?_
  refine lv_tableIn (off := 179) (tgt := 180) hx hb dX9_canBe_1 (by decide) (by decide) (by decide) (by decide) ?_
  refine lv_iload_n hx hb dX9_canBe_180 rfl (lv_at hl 2 rfl) ?_
  refine lv_if_ne (tgt := 211) hx hb dX9_canBe_181 (by decide) (fun c_181 => ?_) (fun c_181 => ?_)
  · have ne_x2_0 : ¬ x2 = 0 := c_181
    refine lv_iconst (v := 0) hx hb dX9_canBe_211 (by decide) ?_
    exact rdEndZ S hr hlocks dX9_canBe_212 rfl rfl
  · have e_x2 : x2 = 0 := c_181
    subst e_x2
    refine lv_aload_n hx hb dX9_canBe_184 rfl (lv_at hl 0 rfl) ?_
    refine lv_iload_n hx hb dX9_canBe_185 rfl (lv_at hl 3 rfl) ?_
    refine rdV (As := [.int x3]) (ci := 9) S (c_X9_isFreeExpression_0 l D cI cZ cJ o q x3) mi_X9_isFreeExpression kw_7_159 ⟨rfl, rfl⟩ ⟨Nat.le_of_ble_eq_true rfl, Nat.le_of_ble_eq_true rfl⟩ hP hK mW_0 rfl rfl hl.1 (Nat.le_of_ble_eq_true rfl) ⟨Nat.le_of_ble_eq_true rfl, Nat.le_of_ble_eq_true rfl⟩ dX9_canBe_186 ?_
    refine lv_if_eq (tgt := 211) hx hb dX9_canBe_189 (by decide) (fun _ => ?_) (fun c => absurd c (by decide))
    refine lv_iconst (v := 0) hx hb dX9_canBe_211 (by decide) ?_
    exact rdEndZ S hr hlocks dX9_canBe_212 rfl rfl

set_option maxHeartbeats 8000000 in
set_option maxRecDepth 100000 in
theorem c_X9_node_12 (l : Launch) (D : va_G) (cI cZ cJ : ClassId) (o : Nat) (q : Nat → Nat) (sz : Nat) (x2 : Int32) (x3 : Int32) (x4 : Int32) : Met l yX9_node (uW yX9_node cX9_node 6 (some .int)) ({ frames := 5, cells := 0, slots := 0, locals := 109 }) (va_Pc [.ref o, .int 4, .int x2, .int x3, .int x4] (wS D (tyL cI cZ cJ) (mW o 0 q cI cZ) sz)) (wQi (0) D (mW o 1 q cI cZ) (va_A (mW o 0 q cI cZ) sz)) 0 0 (va_A (mW o 0 q cI cZ) sz) := by
  refine wStart (lv := [(0, .ref o), (1, .int 4), (2, .int x2), (3, .int x3), (4, .int x4)]) (Qc := fun A => wQi (0) D (mW o 1 q cI cZ) A) (by decide) (Nat.le_of_ble_eq_true rfl) rfl ?_
  intro p e s m args below meth c ls A H S hr hlocks hnm hl hK hP hD hS hA
  have hx := S.1
  have hb := S.2.1
  refine lv_aload_n hx hb dX9_node_0 rfl (lv_at hl 0 rfl) ?_
  refine lv_iconst (v := 0) hx hb dX9_node_1 (by decide) ?_
  refine xp (ci := 9) (v := .int 0) S inX9 tyX9 tyX9_ok nmX9 rfl hK hP hD hS mW_0 0 (by decide) kw_6_148 rfl rfl rfl rfl (Nat.le_of_ble_eq_true rfl) dX9_node_2 (fun H locs hP hD hS => ?_)
  have hP : va_P D vwCl (mW o 0 q cI cZ) H := hP
  have hD : va_D A (mW o 0 q cI cZ) := hD
  refine lv_iload_n hx hb dX9_node_5 rfl (lv_at hl 1 rfl) ?_
  refine lv_iconst (v := 0) hx hb dX9_node_6 (by decide) ?_
  refine lv_bipush (v := 21) hx hb dX9_node_7 (by decide) ?_
  refine rdS (As := [.int 4, .int 0, .int 21]) S (c_X9_isIn_42 l D cI cZ cJ o q) ms_X9_isIn kw_7_101 ⟨rfl, rfl⟩ ⟨Nat.le_of_ble_eq_true rfl, Nat.le_of_ble_eq_true rfl⟩ hP hK hl.1 (Nat.le_of_ble_eq_true rfl) ⟨Nat.le_of_ble_eq_true rfl, Nat.le_of_ble_eq_true rfl⟩ dX9_node_9 ?_
  refine lv_if_eq (tgt := 27) hx hb dX9_node_12 (by decide) (fun c => absurd c (by decide)) (fun _ => ?_)
  refine lv_aload_n hx hb dX9_node_15 rfl (lv_at hl 0 rfl) ?_
  refine lv_iload_n hx hb dX9_node_16 rfl (lv_at hl 1 rfl) ?_
  refine lv_iload_n hx hb dX9_node_17 rfl (lv_at hl 2 rfl) ?_
  refine lv_iload_n hx hb dX9_node_18 rfl (lv_at hl 3 rfl) ?_
  refine lv_iload hx hb dX9_node_19 (lv_at hl 4 rfl) ?_
  refine rdV (As := [.int 4, .int x2, .int x3, .int x4]) (ci := 9) S (c_X9_canBe_12 l D cI cZ cJ o q x2 x3 x4) mi_X9_canBe kw_7_155 ⟨rfl, rfl⟩ ⟨Nat.le_of_ble_eq_true rfl, Nat.le_of_ble_eq_true rfl⟩ hP hK mW_0 rfl rfl hl.1 (Nat.le_of_ble_eq_true rfl) ⟨Nat.le_of_ble_eq_true rfl, Nat.le_of_ble_eq_true rfl⟩ dX9_node_21 ?_
  refine lv_if_ne (tgt := 33) hx hb dX9_node_24 (by decide) (fun c => absurd c (by decide)) (fun _ => ?_)
  refine lv_aload_n hx hb dX9_node_27 rfl (lv_at hl 0 rfl) ?_
  refine lv_iconst (v := 1) hx hb dX9_node_28 (by decide) ?_
  refine wrV (As := [.int 1]) (ci := 9) S (c_X9_no_0 l D cI cZ cJ o q H.size) mi_X9_no kw_7_104 rfl rfl ⟨Nat.le_of_ble_eq_true rfl, Nat.le_of_ble_eq_true rfl⟩ hP hD hK hS hA mW_0 rfl rfl hl.1 (Nat.le_of_ble_eq_true rfl) ⟨Nat.le_of_ble_eq_true rfl, Nat.le_of_ble_eq_true rfl⟩ dX9_node_29 (fun H locs hz hP hD hS => ?_)
  exact wEnd S hr hlocks hP hD hS (Nat.le_of_ble_eq_true rfl) (Nat.le_of_ble_eq_true rfl) dX9_node_32 rfl

set_option maxHeartbeats 8000000 in
set_option maxRecDepth 100000 in
theorem h_node_13 (l : Launch) (D : va_G) (cI cZ cJ : ClassId) (o : Nat) (u : Nat → Nat) (ao : Nat) (hst : l.stackTraces = false) (ra ga : Nat → Nat) (sz : Nat) (x2 : Int32) (x3 : Int32) (x4 : Int32) : vx_Met l yL_node (uWh yL_node cL_node 7 (some .int) [(0, 14, 17, 15), (0, 14, 21, 17)]) ({ frames := 8, cells := 1, slots := 6, locals := 126 }) (va_Pc [.ref o, .int 5, .int x2, .int x3, .int x4, .ref ao] (lS ra ga D (tyL cI cZ cJ) ((xW o u cI cZ cJ) ++ [(ao, .inl (cJ, 1, .inr (.inl (fun _ => 0))))]) sz)) (wQi (1) D ((xW o u cI cZ cJ) ++ [(ao, .inl (cJ, 1, .inr (.inl (fun _ => 0))))]) (va_A ((xW o u cI cZ cJ) ++ [(ao, .inl (cJ, 1, .inr (.inl (fun _ => 0))))]) sz)) (xN (va_A ((xW o u cI cZ cJ) ++ [(ao, .inl (cJ, 1, .inr (.inl (fun _ => 0))))]) sz)) 1 6 (va_A ((xW o u cI cZ cJ) ++ [(ao, .inl (cJ, 1, .inr (.inl (fun _ => 0))))]) sz) := by
  refine hStart (l := l) (y := yL_node) (b := cL_node) (n := 7) (r := (some .int)) (hh := [(0, 14, 17, 15), (0, 14, 21, 17)]) (rm := ({ frames := 8, cells := 1, slots := 6, locals := 126 })) (mc := 1) (ms := 6) (ra := ra) (ga := ga) (D := D) (tys := tyL cI cZ cJ) (ws := ((xW o u cI cZ cJ) ++ [(ao, .inl (cJ, 1, .inr (.inl (fun _ => 0))))])) (av := [.ref o, .int 5, .int x2, .int x3, .int x4, .ref ao]) (sz := sz) (lv := [(0, .ref o), (1, .int 5), (2, .int x2), (3, .int x3), (4, .int x4), (5, .ref ao)]) (Qc := fun A => wQi (1) D ((xW o u cI cZ cJ) ++ [(ao, .inl (cJ, 1, .inr (.inl (fun _ => 0))))]) A) (by decide) (Nat.le_of_ble_eq_true rfl) rfl ?_
  intro p e s m args below meth c ls A H S hr hlocks htab hl hK hP hD hS hA hB hC
  have hx := S.1
  have hb := S.2.1
  refine lv_aload hx hb dL_node_0 (lv_at hl 5 rfl) ?_
  refine lv_iconst (v := 0) hx hb dL_node_2 (by decide) ?_
  refine lv_aload_n hx hb dL_node_3 rfl (lv_at hl 0 rfl) ?_
  refine lv_iload_n hx hb dL_node_4 rfl (lv_at hl 1 rfl) ?_
  refine lv_iload_n hx hb dL_node_5 rfl (lv_at hl 2 rfl) ?_
  refine lv_iload_n hx hb dL_node_6 rfl (lv_at hl 3 rfl) ?_
  refine lv_iload hx hb dL_node_7 (lv_at hl 4 rfl) ?_
  refine cVi [] [(ao, .inl (cJ, 1, .inr (.inl (fun _ => 0))))] (As := [.int 5, .int x2, .int x3, .int x4]) (ci := 8) S (c_X8_node_13 l D cI cZ cJ o u hst ra ga H.size x2 x3 x4) mi_X8_node kw_6_23 rfl rfl ⟨Nat.le_of_ble_eq_true rfl, Nat.le_of_ble_eq_true rfl⟩ hP hD hK hS hA hB xW_0 rfl rfl hl.1 (Nat.le_of_ble_eq_true rfl) ⟨Nat.le_of_ble_eq_true rfl, Nat.le_of_ble_eq_true rfl⟩ dL_node_9 (fun ce q9 H locs hz hP hD hS hce hcv hcl => ?_)
  refine vx_catch (name := "java/lang/IllegalArgumentException") S.2.2.2.1 [] (⟨0, 14, 17, 15⟩ : ExceptionTableEntry) [(⟨0, 14, 21, 17⟩ : ExceptionTableEntry)] (htab.trans rfl) (fun _ h => absurd h List.not_mem_nil) (by decide) (by decide) (S.2.2.2.2 _ kw_5_177) (va_Nw.use rfl hB.c1) hce hcv hcl ?_
  have hP : va_P D vwCl ((xW o u cI cZ cJ) ++ [(ao, .inl (cJ, 1, .inr (.inl (fun _ => 0))))]) H := hP
  have hD : va_D A ((xW o u cI cZ cJ) ++ [(ao, .inl (cJ, 1, .inr (.inl (fun _ => 0))))]) := hD
  refine lv_astore (lv' := [(6, .ref q9), (0, .ref o), (1, .int 5), (2, .int x2), (3, .int x3), (4, .int x4), (5, .ref ao)]) hx hb dL_node_17 hl (by decide) rfl (fun ls hl => ?_)
  refine lv_iconst (v := 1) hx hb dL_node_19 (by decide) ?_
  exact vx_ret (wEnd S hr hlocks hP hD hS (Nat.le_of_ble_eq_true rfl) (Nat.le_of_ble_eq_true rfl) dL_node_20 rfl)

set_option maxHeartbeats 8000000 in
set_option maxRecDepth 100000 in
theorem c_X9_isIn_43 (l : Launch) (D : va_G) (cI cZ cJ : ClassId) (o : Nat) (q : Nat → Nat) : Met l yX9_isIn (uW yX9_isIn cX9_isIn 3 (some .boolean)) ({ frames := 0, cells := 0, slots := 0, locals := 0 }) (va_Pc [.int 5, .int 0, .int 21] (pS D (tyL cI cZ cJ) (mW o 0 q cI cZ))) (QcRead (1)) 0 0 (fun _ => False) := by
  refine rdStart (lv := [(0, .int 5), (1, .int 0), (2, .int 21)]) (by decide) (Nat.le_of_ble_eq_true rfl) rfl ?_
  intro p e s m args below meth c ls S hr hlocks hl hP hK
  have hx := S.1
  have hb := S.2.1
  refine lv_iload_n hx hb dX9_isIn_0 rfl (lv_at hl 0 rfl) ?_
  refine lv_iload_n hx hb dX9_isIn_1 rfl (lv_at hl 1 rfl) ?_
  refine lv_icmp_lt (tgt := 14) hx hb dX9_isIn_2 (by decide) (fun c => absurd c (by decide)) (fun _ => ?_)
  refine lv_iload_n hx hb dX9_isIn_5 rfl (lv_at hl 0 rfl) ?_
  refine lv_iload_n hx hb dX9_isIn_6 rfl (lv_at hl 2 rfl) ?_
  refine lv_icmp_gt (tgt := 14) hx hb dX9_isIn_7 (by decide) (fun c => absurd c (by decide)) (fun _ => ?_)
  refine lv_iconst (v := 1) hx hb dX9_isIn_10 (by decide) ?_
  refine lv_goto (tgt := 15) hx hb dX9_isIn_11 (by decide) ?_
  exact rdEndZ S hr hlocks dX9_isIn_15 rfl rfl

set_option maxHeartbeats 8000000 in
set_option maxRecDepth 100000 in
theorem c_X9_canBe_13 (l : Launch) (D : va_G) (cI cZ cJ : ClassId) (o : Nat) (q : Nat → Nat) (x2 : Int32) (x3 : Int32) (x4 : Int32) : Met l yX9_canBe (uW yX9_canBe cX9_canBe 5 (some .boolean)) ({ frames := 4, cells := 0, slots := 0, locals := 85 }) (va_Pc [.ref o, .int 5, .int x2, .int x3, .int x4] (pS D (tyL cI cZ cJ) (mW o 0 q cI cZ))) (QcRead (0)) 0 0 (fun _ => False) := by
  refine rdStart (lv := [(0, .ref o), (1, .int 5), (2, .int x2), (3, .int x3), (4, .int x4)]) (by decide) (Nat.le_of_ble_eq_true rfl) rfl ?_
  intro p e s m args below meth c ls S hr hlocks hl hP hK
  have hx := S.1
  have hb := S.2.1
  refine lv_iload_n hx hb dX9_canBe_0 rfl (lv_at hl 1 rfl) ?_
  refine lv_tableIn (off := 179) (tgt := 180) hx hb dX9_canBe_1 (by decide) (by decide) (by decide) (by decide) ?_
  refine lv_iload_n hx hb dX9_canBe_180 rfl (lv_at hl 2 rfl) ?_
  refine lv_if_ne (tgt := 211) hx hb dX9_canBe_181 (by decide) (fun c_181 => ?_) (fun c_181 => ?_)
  · have ne_x2_0 : ¬ x2 = 0 := c_181
    refine lv_iconst (v := 0) hx hb dX9_canBe_211 (by decide) ?_
    exact rdEndZ S hr hlocks dX9_canBe_212 rfl rfl
  · have e_x2 : x2 = 0 := c_181
    subst e_x2
    refine lv_aload_n hx hb dX9_canBe_184 rfl (lv_at hl 0 rfl) ?_
    refine lv_iload_n hx hb dX9_canBe_185 rfl (lv_at hl 3 rfl) ?_
    refine rdV (As := [.int x3]) (ci := 9) S (c_X9_isFreeExpression_0 l D cI cZ cJ o q x3) mi_X9_isFreeExpression kw_7_159 ⟨rfl, rfl⟩ ⟨Nat.le_of_ble_eq_true rfl, Nat.le_of_ble_eq_true rfl⟩ hP hK mW_0 rfl rfl hl.1 (Nat.le_of_ble_eq_true rfl) ⟨Nat.le_of_ble_eq_true rfl, Nat.le_of_ble_eq_true rfl⟩ dX9_canBe_186 ?_
    refine lv_if_eq (tgt := 211) hx hb dX9_canBe_189 (by decide) (fun _ => ?_) (fun c => absurd c (by decide))
    refine lv_iconst (v := 0) hx hb dX9_canBe_211 (by decide) ?_
    exact rdEndZ S hr hlocks dX9_canBe_212 rfl rfl

set_option maxHeartbeats 8000000 in
set_option maxRecDepth 100000 in
theorem c_X9_node_13 (l : Launch) (D : va_G) (cI cZ cJ : ClassId) (o : Nat) (q : Nat → Nat) (sz : Nat) (x2 : Int32) (x3 : Int32) (x4 : Int32) : Met l yX9_node (uW yX9_node cX9_node 6 (some .int)) ({ frames := 5, cells := 0, slots := 0, locals := 109 }) (va_Pc [.ref o, .int 5, .int x2, .int x3, .int x4] (wS D (tyL cI cZ cJ) (mW o 0 q cI cZ) sz)) (wQi (0) D (mW o 1 q cI cZ) (va_A (mW o 0 q cI cZ) sz)) 0 0 (va_A (mW o 0 q cI cZ) sz) := by
  refine wStart (lv := [(0, .ref o), (1, .int 5), (2, .int x2), (3, .int x3), (4, .int x4)]) (Qc := fun A => wQi (0) D (mW o 1 q cI cZ) A) (by decide) (Nat.le_of_ble_eq_true rfl) rfl ?_
  intro p e s m args below meth c ls A H S hr hlocks hnm hl hK hP hD hS hA
  have hx := S.1
  have hb := S.2.1
  refine lv_aload_n hx hb dX9_node_0 rfl (lv_at hl 0 rfl) ?_
  refine lv_iconst (v := 0) hx hb dX9_node_1 (by decide) ?_
  refine xp (ci := 9) (v := .int 0) S inX9 tyX9 tyX9_ok nmX9 rfl hK hP hD hS mW_0 0 (by decide) kw_6_148 rfl rfl rfl rfl (Nat.le_of_ble_eq_true rfl) dX9_node_2 (fun H locs hP hD hS => ?_)
  have hP : va_P D vwCl (mW o 0 q cI cZ) H := hP
  have hD : va_D A (mW o 0 q cI cZ) := hD
  refine lv_iload_n hx hb dX9_node_5 rfl (lv_at hl 1 rfl) ?_
  refine lv_iconst (v := 0) hx hb dX9_node_6 (by decide) ?_
  refine lv_bipush (v := 21) hx hb dX9_node_7 (by decide) ?_
  refine rdS (As := [.int 5, .int 0, .int 21]) S (c_X9_isIn_43 l D cI cZ cJ o q) ms_X9_isIn kw_7_101 ⟨rfl, rfl⟩ ⟨Nat.le_of_ble_eq_true rfl, Nat.le_of_ble_eq_true rfl⟩ hP hK hl.1 (Nat.le_of_ble_eq_true rfl) ⟨Nat.le_of_ble_eq_true rfl, Nat.le_of_ble_eq_true rfl⟩ dX9_node_9 ?_
  refine lv_if_eq (tgt := 27) hx hb dX9_node_12 (by decide) (fun c => absurd c (by decide)) (fun _ => ?_)
  refine lv_aload_n hx hb dX9_node_15 rfl (lv_at hl 0 rfl) ?_
  refine lv_iload_n hx hb dX9_node_16 rfl (lv_at hl 1 rfl) ?_
  refine lv_iload_n hx hb dX9_node_17 rfl (lv_at hl 2 rfl) ?_
  refine lv_iload_n hx hb dX9_node_18 rfl (lv_at hl 3 rfl) ?_
  refine lv_iload hx hb dX9_node_19 (lv_at hl 4 rfl) ?_
  refine rdV (As := [.int 5, .int x2, .int x3, .int x4]) (ci := 9) S (c_X9_canBe_13 l D cI cZ cJ o q x2 x3 x4) mi_X9_canBe kw_7_155 ⟨rfl, rfl⟩ ⟨Nat.le_of_ble_eq_true rfl, Nat.le_of_ble_eq_true rfl⟩ hP hK mW_0 rfl rfl hl.1 (Nat.le_of_ble_eq_true rfl) ⟨Nat.le_of_ble_eq_true rfl, Nat.le_of_ble_eq_true rfl⟩ dX9_node_21 ?_
  refine lv_if_ne (tgt := 33) hx hb dX9_node_24 (by decide) (fun c => absurd c (by decide)) (fun _ => ?_)
  refine lv_aload_n hx hb dX9_node_27 rfl (lv_at hl 0 rfl) ?_
  refine lv_iconst (v := 1) hx hb dX9_node_28 (by decide) ?_
  refine wrV (As := [.int 1]) (ci := 9) S (c_X9_no_0 l D cI cZ cJ o q H.size) mi_X9_no kw_7_104 rfl rfl ⟨Nat.le_of_ble_eq_true rfl, Nat.le_of_ble_eq_true rfl⟩ hP hD hK hS hA mW_0 rfl rfl hl.1 (Nat.le_of_ble_eq_true rfl) ⟨Nat.le_of_ble_eq_true rfl, Nat.le_of_ble_eq_true rfl⟩ dX9_node_29 (fun H locs hz hP hD hS => ?_)
  exact wEnd S hr hlocks hP hD hS (Nat.le_of_ble_eq_true rfl) (Nat.le_of_ble_eq_true rfl) dX9_node_32 rfl

set_option maxHeartbeats 8000000 in
set_option maxRecDepth 100000 in
theorem h_node_14 (l : Launch) (D : va_G) (cI cZ cJ : ClassId) (o : Nat) (u : Nat → Nat) (ao : Nat) (hst : l.stackTraces = false) (ra ga : Nat → Nat) (sz : Nat) (x2 : Int32) (x3 : Int32) (x4 : Int32) : vx_Met l yL_node (uWh yL_node cL_node 7 (some .int) [(0, 14, 17, 15), (0, 14, 21, 17)]) ({ frames := 8, cells := 1, slots := 6, locals := 126 }) (va_Pc [.ref o, .int 6, .int x2, .int x3, .int x4, .ref ao] (lS ra ga D (tyL cI cZ cJ) ((xW o u cI cZ cJ) ++ [(ao, .inl (cJ, 1, .inr (.inl (fun _ => 0))))]) sz)) (wQi (1) D ((xW o u cI cZ cJ) ++ [(ao, .inl (cJ, 1, .inr (.inl (fun _ => 0))))]) (va_A ((xW o u cI cZ cJ) ++ [(ao, .inl (cJ, 1, .inr (.inl (fun _ => 0))))]) sz)) (xN (va_A ((xW o u cI cZ cJ) ++ [(ao, .inl (cJ, 1, .inr (.inl (fun _ => 0))))]) sz)) 1 6 (va_A ((xW o u cI cZ cJ) ++ [(ao, .inl (cJ, 1, .inr (.inl (fun _ => 0))))]) sz) := by
  refine hStart (l := l) (y := yL_node) (b := cL_node) (n := 7) (r := (some .int)) (hh := [(0, 14, 17, 15), (0, 14, 21, 17)]) (rm := ({ frames := 8, cells := 1, slots := 6, locals := 126 })) (mc := 1) (ms := 6) (ra := ra) (ga := ga) (D := D) (tys := tyL cI cZ cJ) (ws := ((xW o u cI cZ cJ) ++ [(ao, .inl (cJ, 1, .inr (.inl (fun _ => 0))))])) (av := [.ref o, .int 6, .int x2, .int x3, .int x4, .ref ao]) (sz := sz) (lv := [(0, .ref o), (1, .int 6), (2, .int x2), (3, .int x3), (4, .int x4), (5, .ref ao)]) (Qc := fun A => wQi (1) D ((xW o u cI cZ cJ) ++ [(ao, .inl (cJ, 1, .inr (.inl (fun _ => 0))))]) A) (by decide) (Nat.le_of_ble_eq_true rfl) rfl ?_
  intro p e s m args below meth c ls A H S hr hlocks htab hl hK hP hD hS hA hB hC
  have hx := S.1
  have hb := S.2.1
  refine lv_aload hx hb dL_node_0 (lv_at hl 5 rfl) ?_
  refine lv_iconst (v := 0) hx hb dL_node_2 (by decide) ?_
  refine lv_aload_n hx hb dL_node_3 rfl (lv_at hl 0 rfl) ?_
  refine lv_iload_n hx hb dL_node_4 rfl (lv_at hl 1 rfl) ?_
  refine lv_iload_n hx hb dL_node_5 rfl (lv_at hl 2 rfl) ?_
  refine lv_iload_n hx hb dL_node_6 rfl (lv_at hl 3 rfl) ?_
  refine lv_iload hx hb dL_node_7 (lv_at hl 4 rfl) ?_
  refine cVi [] [(ao, .inl (cJ, 1, .inr (.inl (fun _ => 0))))] (As := [.int 6, .int x2, .int x3, .int x4]) (ci := 8) S (c_X8_node_14 l D cI cZ cJ o u hst ra ga H.size x2 x3 x4) mi_X8_node kw_6_23 rfl rfl ⟨Nat.le_of_ble_eq_true rfl, Nat.le_of_ble_eq_true rfl⟩ hP hD hK hS hA hB xW_0 rfl rfl hl.1 (Nat.le_of_ble_eq_true rfl) ⟨Nat.le_of_ble_eq_true rfl, Nat.le_of_ble_eq_true rfl⟩ dL_node_9 (fun ce q9 H locs hz hP hD hS hce hcv hcl => ?_)
  refine vx_catch (name := "java/lang/IllegalArgumentException") S.2.2.2.1 [] (⟨0, 14, 17, 15⟩ : ExceptionTableEntry) [(⟨0, 14, 21, 17⟩ : ExceptionTableEntry)] (htab.trans rfl) (fun _ h => absurd h List.not_mem_nil) (by decide) (by decide) (S.2.2.2.2 _ kw_5_177) (va_Nw.use rfl hB.c1) hce hcv hcl ?_
  have hP : va_P D vwCl ((xW o u cI cZ cJ) ++ [(ao, .inl (cJ, 1, .inr (.inl (fun _ => 0))))]) H := hP
  have hD : va_D A ((xW o u cI cZ cJ) ++ [(ao, .inl (cJ, 1, .inr (.inl (fun _ => 0))))]) := hD
  refine lv_astore (lv' := [(6, .ref q9), (0, .ref o), (1, .int 6), (2, .int x2), (3, .int x3), (4, .int x4), (5, .ref ao)]) hx hb dL_node_17 hl (by decide) rfl (fun ls hl => ?_)
  refine lv_iconst (v := 1) hx hb dL_node_19 (by decide) ?_
  exact vx_ret (wEnd S hr hlocks hP hD hS (Nat.le_of_ble_eq_true rfl) (Nat.le_of_ble_eq_true rfl) dL_node_20 rfl)

set_option maxHeartbeats 8000000 in
set_option maxRecDepth 100000 in
theorem c_X9_isIn_44 (l : Launch) (D : va_G) (cI cZ cJ : ClassId) (o : Nat) (q : Nat → Nat) : Met l yX9_isIn (uW yX9_isIn cX9_isIn 3 (some .boolean)) ({ frames := 0, cells := 0, slots := 0, locals := 0 }) (va_Pc [.int 6, .int 0, .int 21] (pS D (tyL cI cZ cJ) (mW o 0 q cI cZ))) (QcRead (1)) 0 0 (fun _ => False) := by
  refine rdStart (lv := [(0, .int 6), (1, .int 0), (2, .int 21)]) (by decide) (Nat.le_of_ble_eq_true rfl) rfl ?_
  intro p e s m args below meth c ls S hr hlocks hl hP hK
  have hx := S.1
  have hb := S.2.1
  refine lv_iload_n hx hb dX9_isIn_0 rfl (lv_at hl 0 rfl) ?_
  refine lv_iload_n hx hb dX9_isIn_1 rfl (lv_at hl 1 rfl) ?_
  refine lv_icmp_lt (tgt := 14) hx hb dX9_isIn_2 (by decide) (fun c => absurd c (by decide)) (fun _ => ?_)
  refine lv_iload_n hx hb dX9_isIn_5 rfl (lv_at hl 0 rfl) ?_
  refine lv_iload_n hx hb dX9_isIn_6 rfl (lv_at hl 2 rfl) ?_
  refine lv_icmp_gt (tgt := 14) hx hb dX9_isIn_7 (by decide) (fun c => absurd c (by decide)) (fun _ => ?_)
  refine lv_iconst (v := 1) hx hb dX9_isIn_10 (by decide) ?_
  refine lv_goto (tgt := 15) hx hb dX9_isIn_11 (by decide) ?_
  exact rdEndZ S hr hlocks dX9_isIn_15 rfl rfl

set_option maxHeartbeats 8000000 in
set_option maxRecDepth 100000 in
theorem c_X9_canBe_14 (l : Launch) (D : va_G) (cI cZ cJ : ClassId) (o : Nat) (q : Nat → Nat) (x2 : Int32) (x3 : Int32) (x4 : Int32) : Met l yX9_canBe (uW yX9_canBe cX9_canBe 5 (some .boolean)) ({ frames := 4, cells := 0, slots := 0, locals := 85 }) (va_Pc [.ref o, .int 6, .int x2, .int x3, .int x4] (pS D (tyL cI cZ cJ) (mW o 0 q cI cZ))) (QcRead (0)) 0 0 (fun _ => False) := by
  refine rdStart (lv := [(0, .ref o), (1, .int 6), (2, .int x2), (3, .int x3), (4, .int x4)]) (by decide) (Nat.le_of_ble_eq_true rfl) rfl ?_
  intro p e s m args below meth c ls S hr hlocks hl hP hK
  have hx := S.1
  have hb := S.2.1
  refine lv_iload_n hx hb dX9_canBe_0 rfl (lv_at hl 1 rfl) ?_
  refine lv_tableIn (off := 179) (tgt := 180) hx hb dX9_canBe_1 (by decide) (by decide) (by decide) (by decide) ?_
  refine lv_iload_n hx hb dX9_canBe_180 rfl (lv_at hl 2 rfl) ?_
  refine lv_if_ne (tgt := 211) hx hb dX9_canBe_181 (by decide) (fun c_181 => ?_) (fun c_181 => ?_)
  · have ne_x2_0 : ¬ x2 = 0 := c_181
    refine lv_iconst (v := 0) hx hb dX9_canBe_211 (by decide) ?_
    exact rdEndZ S hr hlocks dX9_canBe_212 rfl rfl
  · have e_x2 : x2 = 0 := c_181
    subst e_x2
    refine lv_aload_n hx hb dX9_canBe_184 rfl (lv_at hl 0 rfl) ?_
    refine lv_iload_n hx hb dX9_canBe_185 rfl (lv_at hl 3 rfl) ?_
    refine rdV (As := [.int x3]) (ci := 9) S (c_X9_isFreeExpression_0 l D cI cZ cJ o q x3) mi_X9_isFreeExpression kw_7_159 ⟨rfl, rfl⟩ ⟨Nat.le_of_ble_eq_true rfl, Nat.le_of_ble_eq_true rfl⟩ hP hK mW_0 rfl rfl hl.1 (Nat.le_of_ble_eq_true rfl) ⟨Nat.le_of_ble_eq_true rfl, Nat.le_of_ble_eq_true rfl⟩ dX9_canBe_186 ?_
    refine lv_if_eq (tgt := 211) hx hb dX9_canBe_189 (by decide) (fun _ => ?_) (fun c => absurd c (by decide))
    refine lv_iconst (v := 0) hx hb dX9_canBe_211 (by decide) ?_
    exact rdEndZ S hr hlocks dX9_canBe_212 rfl rfl

set_option maxHeartbeats 8000000 in
set_option maxRecDepth 100000 in
theorem c_X9_node_14 (l : Launch) (D : va_G) (cI cZ cJ : ClassId) (o : Nat) (q : Nat → Nat) (sz : Nat) (x2 : Int32) (x3 : Int32) (x4 : Int32) : Met l yX9_node (uW yX9_node cX9_node 6 (some .int)) ({ frames := 5, cells := 0, slots := 0, locals := 109 }) (va_Pc [.ref o, .int 6, .int x2, .int x3, .int x4] (wS D (tyL cI cZ cJ) (mW o 0 q cI cZ) sz)) (wQi (0) D (mW o 1 q cI cZ) (va_A (mW o 0 q cI cZ) sz)) 0 0 (va_A (mW o 0 q cI cZ) sz) := by
  refine wStart (lv := [(0, .ref o), (1, .int 6), (2, .int x2), (3, .int x3), (4, .int x4)]) (Qc := fun A => wQi (0) D (mW o 1 q cI cZ) A) (by decide) (Nat.le_of_ble_eq_true rfl) rfl ?_
  intro p e s m args below meth c ls A H S hr hlocks hnm hl hK hP hD hS hA
  have hx := S.1
  have hb := S.2.1
  refine lv_aload_n hx hb dX9_node_0 rfl (lv_at hl 0 rfl) ?_
  refine lv_iconst (v := 0) hx hb dX9_node_1 (by decide) ?_
  refine xp (ci := 9) (v := .int 0) S inX9 tyX9 tyX9_ok nmX9 rfl hK hP hD hS mW_0 0 (by decide) kw_6_148 rfl rfl rfl rfl (Nat.le_of_ble_eq_true rfl) dX9_node_2 (fun H locs hP hD hS => ?_)
  have hP : va_P D vwCl (mW o 0 q cI cZ) H := hP
  have hD : va_D A (mW o 0 q cI cZ) := hD
  refine lv_iload_n hx hb dX9_node_5 rfl (lv_at hl 1 rfl) ?_
  refine lv_iconst (v := 0) hx hb dX9_node_6 (by decide) ?_
  refine lv_bipush (v := 21) hx hb dX9_node_7 (by decide) ?_
  refine rdS (As := [.int 6, .int 0, .int 21]) S (c_X9_isIn_44 l D cI cZ cJ o q) ms_X9_isIn kw_7_101 ⟨rfl, rfl⟩ ⟨Nat.le_of_ble_eq_true rfl, Nat.le_of_ble_eq_true rfl⟩ hP hK hl.1 (Nat.le_of_ble_eq_true rfl) ⟨Nat.le_of_ble_eq_true rfl, Nat.le_of_ble_eq_true rfl⟩ dX9_node_9 ?_
  refine lv_if_eq (tgt := 27) hx hb dX9_node_12 (by decide) (fun c => absurd c (by decide)) (fun _ => ?_)
  refine lv_aload_n hx hb dX9_node_15 rfl (lv_at hl 0 rfl) ?_
  refine lv_iload_n hx hb dX9_node_16 rfl (lv_at hl 1 rfl) ?_
  refine lv_iload_n hx hb dX9_node_17 rfl (lv_at hl 2 rfl) ?_
  refine lv_iload_n hx hb dX9_node_18 rfl (lv_at hl 3 rfl) ?_
  refine lv_iload hx hb dX9_node_19 (lv_at hl 4 rfl) ?_
  refine rdV (As := [.int 6, .int x2, .int x3, .int x4]) (ci := 9) S (c_X9_canBe_14 l D cI cZ cJ o q x2 x3 x4) mi_X9_canBe kw_7_155 ⟨rfl, rfl⟩ ⟨Nat.le_of_ble_eq_true rfl, Nat.le_of_ble_eq_true rfl⟩ hP hK mW_0 rfl rfl hl.1 (Nat.le_of_ble_eq_true rfl) ⟨Nat.le_of_ble_eq_true rfl, Nat.le_of_ble_eq_true rfl⟩ dX9_node_21 ?_
  refine lv_if_ne (tgt := 33) hx hb dX9_node_24 (by decide) (fun c => absurd c (by decide)) (fun _ => ?_)
  refine lv_aload_n hx hb dX9_node_27 rfl (lv_at hl 0 rfl) ?_
  refine lv_iconst (v := 1) hx hb dX9_node_28 (by decide) ?_
  refine wrV (As := [.int 1]) (ci := 9) S (c_X9_no_0 l D cI cZ cJ o q H.size) mi_X9_no kw_7_104 rfl rfl ⟨Nat.le_of_ble_eq_true rfl, Nat.le_of_ble_eq_true rfl⟩ hP hD hK hS hA mW_0 rfl rfl hl.1 (Nat.le_of_ble_eq_true rfl) ⟨Nat.le_of_ble_eq_true rfl, Nat.le_of_ble_eq_true rfl⟩ dX9_node_29 (fun H locs hz hP hD hS => ?_)
  exact wEnd S hr hlocks hP hD hS (Nat.le_of_ble_eq_true rfl) (Nat.le_of_ble_eq_true rfl) dX9_node_32 rfl

set_option maxHeartbeats 8000000 in
set_option maxRecDepth 100000 in
theorem h_node_15 (l : Launch) (D : va_G) (cI cZ cJ : ClassId) (o : Nat) (u : Nat → Nat) (ao : Nat) (hst : l.stackTraces = false) (ra ga : Nat → Nat) (sz : Nat) (x2 : Int32) (x3 : Int32) (x4 : Int32) : vx_Met l yL_node (uWh yL_node cL_node 7 (some .int) [(0, 14, 17, 15), (0, 14, 21, 17)]) ({ frames := 8, cells := 1, slots := 6, locals := 126 }) (va_Pc [.ref o, .int 7, .int x2, .int x3, .int x4, .ref ao] (lS ra ga D (tyL cI cZ cJ) ((xW o u cI cZ cJ) ++ [(ao, .inl (cJ, 1, .inr (.inl (fun _ => 0))))]) sz)) (wQi (1) D ((xW o u cI cZ cJ) ++ [(ao, .inl (cJ, 1, .inr (.inl (fun _ => 0))))]) (va_A ((xW o u cI cZ cJ) ++ [(ao, .inl (cJ, 1, .inr (.inl (fun _ => 0))))]) sz)) (xN (va_A ((xW o u cI cZ cJ) ++ [(ao, .inl (cJ, 1, .inr (.inl (fun _ => 0))))]) sz)) 1 6 (va_A ((xW o u cI cZ cJ) ++ [(ao, .inl (cJ, 1, .inr (.inl (fun _ => 0))))]) sz) := by
  refine hStart (l := l) (y := yL_node) (b := cL_node) (n := 7) (r := (some .int)) (hh := [(0, 14, 17, 15), (0, 14, 21, 17)]) (rm := ({ frames := 8, cells := 1, slots := 6, locals := 126 })) (mc := 1) (ms := 6) (ra := ra) (ga := ga) (D := D) (tys := tyL cI cZ cJ) (ws := ((xW o u cI cZ cJ) ++ [(ao, .inl (cJ, 1, .inr (.inl (fun _ => 0))))])) (av := [.ref o, .int 7, .int x2, .int x3, .int x4, .ref ao]) (sz := sz) (lv := [(0, .ref o), (1, .int 7), (2, .int x2), (3, .int x3), (4, .int x4), (5, .ref ao)]) (Qc := fun A => wQi (1) D ((xW o u cI cZ cJ) ++ [(ao, .inl (cJ, 1, .inr (.inl (fun _ => 0))))]) A) (by decide) (Nat.le_of_ble_eq_true rfl) rfl ?_
  intro p e s m args below meth c ls A H S hr hlocks htab hl hK hP hD hS hA hB hC
  have hx := S.1
  have hb := S.2.1
  refine lv_aload hx hb dL_node_0 (lv_at hl 5 rfl) ?_
  refine lv_iconst (v := 0) hx hb dL_node_2 (by decide) ?_
  refine lv_aload_n hx hb dL_node_3 rfl (lv_at hl 0 rfl) ?_
  refine lv_iload_n hx hb dL_node_4 rfl (lv_at hl 1 rfl) ?_
  refine lv_iload_n hx hb dL_node_5 rfl (lv_at hl 2 rfl) ?_
  refine lv_iload_n hx hb dL_node_6 rfl (lv_at hl 3 rfl) ?_
  refine lv_iload hx hb dL_node_7 (lv_at hl 4 rfl) ?_
  refine cVi [] [(ao, .inl (cJ, 1, .inr (.inl (fun _ => 0))))] (As := [.int 7, .int x2, .int x3, .int x4]) (ci := 8) S (c_X8_node_15 l D cI cZ cJ o u hst ra ga H.size x2 x3 x4) mi_X8_node kw_6_23 rfl rfl ⟨Nat.le_of_ble_eq_true rfl, Nat.le_of_ble_eq_true rfl⟩ hP hD hK hS hA hB xW_0 rfl rfl hl.1 (Nat.le_of_ble_eq_true rfl) ⟨Nat.le_of_ble_eq_true rfl, Nat.le_of_ble_eq_true rfl⟩ dL_node_9 (fun ce q9 H locs hz hP hD hS hce hcv hcl => ?_)
  refine vx_catch (name := "java/lang/IllegalArgumentException") S.2.2.2.1 [] (⟨0, 14, 17, 15⟩ : ExceptionTableEntry) [(⟨0, 14, 21, 17⟩ : ExceptionTableEntry)] (htab.trans rfl) (fun _ h => absurd h List.not_mem_nil) (by decide) (by decide) (S.2.2.2.2 _ kw_5_177) (va_Nw.use rfl hB.c1) hce hcv hcl ?_
  have hP : va_P D vwCl ((xW o u cI cZ cJ) ++ [(ao, .inl (cJ, 1, .inr (.inl (fun _ => 0))))]) H := hP
  have hD : va_D A ((xW o u cI cZ cJ) ++ [(ao, .inl (cJ, 1, .inr (.inl (fun _ => 0))))]) := hD
  refine lv_astore (lv' := [(6, .ref q9), (0, .ref o), (1, .int 7), (2, .int x2), (3, .int x3), (4, .int x4), (5, .ref ao)]) hx hb dL_node_17 hl (by decide) rfl (fun ls hl => ?_)
  refine lv_iconst (v := 1) hx hb dL_node_19 (by decide) ?_
  exact vx_ret (wEnd S hr hlocks hP hD hS (Nat.le_of_ble_eq_true rfl) (Nat.le_of_ble_eq_true rfl) dL_node_20 rfl)

set_option maxHeartbeats 8000000 in
set_option maxRecDepth 100000 in
theorem c_X9_isIn_45 (l : Launch) (D : va_G) (cI cZ cJ : ClassId) (o : Nat) (q : Nat → Nat) : Met l yX9_isIn (uW yX9_isIn cX9_isIn 3 (some .boolean)) ({ frames := 0, cells := 0, slots := 0, locals := 0 }) (va_Pc [.int 7, .int 0, .int 21] (pS D (tyL cI cZ cJ) (mW o 0 q cI cZ))) (QcRead (1)) 0 0 (fun _ => False) := by
  refine rdStart (lv := [(0, .int 7), (1, .int 0), (2, .int 21)]) (by decide) (Nat.le_of_ble_eq_true rfl) rfl ?_
  intro p e s m args below meth c ls S hr hlocks hl hP hK
  have hx := S.1
  have hb := S.2.1
  refine lv_iload_n hx hb dX9_isIn_0 rfl (lv_at hl 0 rfl) ?_
  refine lv_iload_n hx hb dX9_isIn_1 rfl (lv_at hl 1 rfl) ?_
  refine lv_icmp_lt (tgt := 14) hx hb dX9_isIn_2 (by decide) (fun c => absurd c (by decide)) (fun _ => ?_)
  refine lv_iload_n hx hb dX9_isIn_5 rfl (lv_at hl 0 rfl) ?_
  refine lv_iload_n hx hb dX9_isIn_6 rfl (lv_at hl 2 rfl) ?_
  refine lv_icmp_gt (tgt := 14) hx hb dX9_isIn_7 (by decide) (fun c => absurd c (by decide)) (fun _ => ?_)
  refine lv_iconst (v := 1) hx hb dX9_isIn_10 (by decide) ?_
  refine lv_goto (tgt := 15) hx hb dX9_isIn_11 (by decide) ?_
  exact rdEndZ S hr hlocks dX9_isIn_15 rfl rfl

set_option maxHeartbeats 8000000 in
set_option maxRecDepth 100000 in
theorem c_X9_canBe_15 (l : Launch) (D : va_G) (cI cZ cJ : ClassId) (o : Nat) (q : Nat → Nat) (x2 : Int32) (x3 : Int32) (x4 : Int32) : Met l yX9_canBe (uW yX9_canBe cX9_canBe 5 (some .boolean)) ({ frames := 4, cells := 0, slots := 0, locals := 85 }) (va_Pc [.ref o, .int 7, .int x2, .int x3, .int x4] (pS D (tyL cI cZ cJ) (mW o 0 q cI cZ))) (QcRead (0)) 0 0 (fun _ => False) := by
  refine rdStart (lv := [(0, .ref o), (1, .int 7), (2, .int x2), (3, .int x3), (4, .int x4)]) (by decide) (Nat.le_of_ble_eq_true rfl) rfl ?_
  intro p e s m args below meth c ls S hr hlocks hl hP hK
  have hx := S.1
  have hb := S.2.1
  refine lv_iload_n hx hb dX9_canBe_0 rfl (lv_at hl 1 rfl) ?_
  refine lv_tableIn (off := 179) (tgt := 180) hx hb dX9_canBe_1 (by decide) (by decide) (by decide) (by decide) ?_
  refine lv_iload_n hx hb dX9_canBe_180 rfl (lv_at hl 2 rfl) ?_
  refine lv_if_ne (tgt := 211) hx hb dX9_canBe_181 (by decide) (fun c_181 => ?_) (fun c_181 => ?_)
  · have ne_x2_0 : ¬ x2 = 0 := c_181
    refine lv_iconst (v := 0) hx hb dX9_canBe_211 (by decide) ?_
    exact rdEndZ S hr hlocks dX9_canBe_212 rfl rfl
  · have e_x2 : x2 = 0 := c_181
    subst e_x2
    refine lv_aload_n hx hb dX9_canBe_184 rfl (lv_at hl 0 rfl) ?_
    refine lv_iload_n hx hb dX9_canBe_185 rfl (lv_at hl 3 rfl) ?_
    refine rdV (As := [.int x3]) (ci := 9) S (c_X9_isFreeExpression_0 l D cI cZ cJ o q x3) mi_X9_isFreeExpression kw_7_159 ⟨rfl, rfl⟩ ⟨Nat.le_of_ble_eq_true rfl, Nat.le_of_ble_eq_true rfl⟩ hP hK mW_0 rfl rfl hl.1 (Nat.le_of_ble_eq_true rfl) ⟨Nat.le_of_ble_eq_true rfl, Nat.le_of_ble_eq_true rfl⟩ dX9_canBe_186 ?_
    refine lv_if_eq (tgt := 211) hx hb dX9_canBe_189 (by decide) (fun _ => ?_) (fun c => absurd c (by decide))
    refine lv_iconst (v := 0) hx hb dX9_canBe_211 (by decide) ?_
    exact rdEndZ S hr hlocks dX9_canBe_212 rfl rfl

set_option maxHeartbeats 8000000 in
set_option maxRecDepth 100000 in
theorem c_X9_node_15 (l : Launch) (D : va_G) (cI cZ cJ : ClassId) (o : Nat) (q : Nat → Nat) (sz : Nat) (x2 : Int32) (x3 : Int32) (x4 : Int32) : Met l yX9_node (uW yX9_node cX9_node 6 (some .int)) ({ frames := 5, cells := 0, slots := 0, locals := 109 }) (va_Pc [.ref o, .int 7, .int x2, .int x3, .int x4] (wS D (tyL cI cZ cJ) (mW o 0 q cI cZ) sz)) (wQi (0) D (mW o 1 q cI cZ) (va_A (mW o 0 q cI cZ) sz)) 0 0 (va_A (mW o 0 q cI cZ) sz) := by
  refine wStart (lv := [(0, .ref o), (1, .int 7), (2, .int x2), (3, .int x3), (4, .int x4)]) (Qc := fun A => wQi (0) D (mW o 1 q cI cZ) A) (by decide) (Nat.le_of_ble_eq_true rfl) rfl ?_
  intro p e s m args below meth c ls A H S hr hlocks hnm hl hK hP hD hS hA
  have hx := S.1
  have hb := S.2.1
  refine lv_aload_n hx hb dX9_node_0 rfl (lv_at hl 0 rfl) ?_
  refine lv_iconst (v := 0) hx hb dX9_node_1 (by decide) ?_
  refine xp (ci := 9) (v := .int 0) S inX9 tyX9 tyX9_ok nmX9 rfl hK hP hD hS mW_0 0 (by decide) kw_6_148 rfl rfl rfl rfl (Nat.le_of_ble_eq_true rfl) dX9_node_2 (fun H locs hP hD hS => ?_)
  have hP : va_P D vwCl (mW o 0 q cI cZ) H := hP
  have hD : va_D A (mW o 0 q cI cZ) := hD
  refine lv_iload_n hx hb dX9_node_5 rfl (lv_at hl 1 rfl) ?_
  refine lv_iconst (v := 0) hx hb dX9_node_6 (by decide) ?_
  refine lv_bipush (v := 21) hx hb dX9_node_7 (by decide) ?_
  refine rdS (As := [.int 7, .int 0, .int 21]) S (c_X9_isIn_45 l D cI cZ cJ o q) ms_X9_isIn kw_7_101 ⟨rfl, rfl⟩ ⟨Nat.le_of_ble_eq_true rfl, Nat.le_of_ble_eq_true rfl⟩ hP hK hl.1 (Nat.le_of_ble_eq_true rfl) ⟨Nat.le_of_ble_eq_true rfl, Nat.le_of_ble_eq_true rfl⟩ dX9_node_9 ?_
  refine lv_if_eq (tgt := 27) hx hb dX9_node_12 (by decide) (fun c => absurd c (by decide)) (fun _ => ?_)
  refine lv_aload_n hx hb dX9_node_15 rfl (lv_at hl 0 rfl) ?_
  refine lv_iload_n hx hb dX9_node_16 rfl (lv_at hl 1 rfl) ?_
  refine lv_iload_n hx hb dX9_node_17 rfl (lv_at hl 2 rfl) ?_
  refine lv_iload_n hx hb dX9_node_18 rfl (lv_at hl 3 rfl) ?_
  refine lv_iload hx hb dX9_node_19 (lv_at hl 4 rfl) ?_
  refine rdV (As := [.int 7, .int x2, .int x3, .int x4]) (ci := 9) S (c_X9_canBe_15 l D cI cZ cJ o q x2 x3 x4) mi_X9_canBe kw_7_155 ⟨rfl, rfl⟩ ⟨Nat.le_of_ble_eq_true rfl, Nat.le_of_ble_eq_true rfl⟩ hP hK mW_0 rfl rfl hl.1 (Nat.le_of_ble_eq_true rfl) ⟨Nat.le_of_ble_eq_true rfl, Nat.le_of_ble_eq_true rfl⟩ dX9_node_21 ?_
  refine lv_if_ne (tgt := 33) hx hb dX9_node_24 (by decide) (fun c => absurd c (by decide)) (fun _ => ?_)
  refine lv_aload_n hx hb dX9_node_27 rfl (lv_at hl 0 rfl) ?_
  refine lv_iconst (v := 1) hx hb dX9_node_28 (by decide) ?_
  refine wrV (As := [.int 1]) (ci := 9) S (c_X9_no_0 l D cI cZ cJ o q H.size) mi_X9_no kw_7_104 rfl rfl ⟨Nat.le_of_ble_eq_true rfl, Nat.le_of_ble_eq_true rfl⟩ hP hD hK hS hA mW_0 rfl rfl hl.1 (Nat.le_of_ble_eq_true rfl) ⟨Nat.le_of_ble_eq_true rfl, Nat.le_of_ble_eq_true rfl⟩ dX9_node_29 (fun H locs hz hP hD hS => ?_)
  exact wEnd S hr hlocks hP hD hS (Nat.le_of_ble_eq_true rfl) (Nat.le_of_ble_eq_true rfl) dX9_node_32 rfl

set_option maxHeartbeats 8000000 in
set_option maxRecDepth 100000 in
theorem h_node_16 (l : Launch) (D : va_G) (cI cZ cJ : ClassId) (o : Nat) (u : Nat → Nat) (ao : Nat) (hst : l.stackTraces = false) (ra ga : Nat → Nat) (sz : Nat) (x2 : Int32) (x3 : Int32) (x4 : Int32) (hi_x2 : x2 ≤ (-1)) : vx_Met l yL_node (uWh yL_node cL_node 7 (some .int) [(0, 14, 17, 15), (0, 14, 21, 17)]) ({ frames := 8, cells := 1, slots := 6, locals := 126 }) (va_Pc [.ref o, .int 8, .int x2, .int x3, .int x4, .ref ao] (lS ra ga D (tyL cI cZ cJ) ((xW o u cI cZ cJ) ++ [(ao, .inl (cJ, 1, .inr (.inl (fun _ => 0))))]) sz)) (wQi (1) D ((xW o u cI cZ cJ) ++ [(ao, .inl (cJ, 1, .inr (.inl (fun _ => 0))))]) (va_A ((xW o u cI cZ cJ) ++ [(ao, .inl (cJ, 1, .inr (.inl (fun _ => 0))))]) sz)) (xN (va_A ((xW o u cI cZ cJ) ++ [(ao, .inl (cJ, 1, .inr (.inl (fun _ => 0))))]) sz)) 1 6 (va_A ((xW o u cI cZ cJ) ++ [(ao, .inl (cJ, 1, .inr (.inl (fun _ => 0))))]) sz) := by
  refine hStart (l := l) (y := yL_node) (b := cL_node) (n := 7) (r := (some .int)) (hh := [(0, 14, 17, 15), (0, 14, 21, 17)]) (rm := ({ frames := 8, cells := 1, slots := 6, locals := 126 })) (mc := 1) (ms := 6) (ra := ra) (ga := ga) (D := D) (tys := tyL cI cZ cJ) (ws := ((xW o u cI cZ cJ) ++ [(ao, .inl (cJ, 1, .inr (.inl (fun _ => 0))))])) (av := [.ref o, .int 8, .int x2, .int x3, .int x4, .ref ao]) (sz := sz) (lv := [(0, .ref o), (1, .int 8), (2, .int x2), (3, .int x3), (4, .int x4), (5, .ref ao)]) (Qc := fun A => wQi (1) D ((xW o u cI cZ cJ) ++ [(ao, .inl (cJ, 1, .inr (.inl (fun _ => 0))))]) A) (by decide) (Nat.le_of_ble_eq_true rfl) rfl ?_
  intro p e s m args below meth c ls A H S hr hlocks htab hl hK hP hD hS hA hB hC
  have hx := S.1
  have hb := S.2.1
  refine lv_aload hx hb dL_node_0 (lv_at hl 5 rfl) ?_
  refine lv_iconst (v := 0) hx hb dL_node_2 (by decide) ?_
  refine lv_aload_n hx hb dL_node_3 rfl (lv_at hl 0 rfl) ?_
  refine lv_iload_n hx hb dL_node_4 rfl (lv_at hl 1 rfl) ?_
  refine lv_iload_n hx hb dL_node_5 rfl (lv_at hl 2 rfl) ?_
  refine lv_iload_n hx hb dL_node_6 rfl (lv_at hl 3 rfl) ?_
  refine lv_iload hx hb dL_node_7 (lv_at hl 4 rfl) ?_
  refine cVi [] [(ao, .inl (cJ, 1, .inr (.inl (fun _ => 0))))] (As := [.int 8, .int x2, .int x3, .int x4]) (ci := 8) S (c_X8_node_16 l D cI cZ cJ o u hst ra ga H.size x2 x3 x4 hi_x2) mi_X8_node kw_6_23 rfl rfl ⟨Nat.le_of_ble_eq_true rfl, Nat.le_of_ble_eq_true rfl⟩ hP hD hK hS hA hB xW_0 rfl rfl hl.1 (Nat.le_of_ble_eq_true rfl) ⟨Nat.le_of_ble_eq_true rfl, Nat.le_of_ble_eq_true rfl⟩ dL_node_9 (fun ce q9 H locs hz hP hD hS hce hcv hcl => ?_)
  refine vx_catch (name := "java/lang/IllegalArgumentException") S.2.2.2.1 [] (⟨0, 14, 17, 15⟩ : ExceptionTableEntry) [(⟨0, 14, 21, 17⟩ : ExceptionTableEntry)] (htab.trans rfl) (fun _ h => absurd h List.not_mem_nil) (by decide) (by decide) (S.2.2.2.2 _ kw_5_177) (va_Nw.use rfl hB.c1) hce hcv hcl ?_
  have hP : va_P D vwCl ((xW o u cI cZ cJ) ++ [(ao, .inl (cJ, 1, .inr (.inl (fun _ => 0))))]) H := hP
  have hD : va_D A ((xW o u cI cZ cJ) ++ [(ao, .inl (cJ, 1, .inr (.inl (fun _ => 0))))]) := hD
  refine lv_astore (lv' := [(6, .ref q9), (0, .ref o), (1, .int 8), (2, .int x2), (3, .int x3), (4, .int x4), (5, .ref ao)]) hx hb dL_node_17 hl (by decide) rfl (fun ls hl => ?_)
  refine lv_iconst (v := 1) hx hb dL_node_19 (by decide) ?_
  exact vx_ret (wEnd S hr hlocks hP hD hS (Nat.le_of_ble_eq_true rfl) (Nat.le_of_ble_eq_true rfl) dL_node_20 rfl)

set_option maxHeartbeats 8000000 in
set_option maxRecDepth 100000 in
theorem c_X9_isIn_46 (l : Launch) (D : va_G) (cI cZ cJ : ClassId) (o : Nat) (q : Nat → Nat) : Met l yX9_isIn (uW yX9_isIn cX9_isIn 3 (some .boolean)) ({ frames := 0, cells := 0, slots := 0, locals := 0 }) (va_Pc [.int 8, .int 0, .int 21] (pS D (tyL cI cZ cJ) (mW o 0 q cI cZ))) (QcRead (1)) 0 0 (fun _ => False) := by
  refine rdStart (lv := [(0, .int 8), (1, .int 0), (2, .int 21)]) (by decide) (Nat.le_of_ble_eq_true rfl) rfl ?_
  intro p e s m args below meth c ls S hr hlocks hl hP hK
  have hx := S.1
  have hb := S.2.1
  refine lv_iload_n hx hb dX9_isIn_0 rfl (lv_at hl 0 rfl) ?_
  refine lv_iload_n hx hb dX9_isIn_1 rfl (lv_at hl 1 rfl) ?_
  refine lv_icmp_lt (tgt := 14) hx hb dX9_isIn_2 (by decide) (fun c => absurd c (by decide)) (fun _ => ?_)
  refine lv_iload_n hx hb dX9_isIn_5 rfl (lv_at hl 0 rfl) ?_
  refine lv_iload_n hx hb dX9_isIn_6 rfl (lv_at hl 2 rfl) ?_
  refine lv_icmp_gt (tgt := 14) hx hb dX9_isIn_7 (by decide) (fun c => absurd c (by decide)) (fun _ => ?_)
  refine lv_iconst (v := 1) hx hb dX9_isIn_10 (by decide) ?_
  refine lv_goto (tgt := 15) hx hb dX9_isIn_11 (by decide) ?_
  exact rdEndZ S hr hlocks dX9_isIn_15 rfl rfl

set_option maxHeartbeats 8000000 in
set_option maxRecDepth 100000 in
theorem c_X9_canBe_16 (l : Launch) (D : va_G) (cI cZ cJ : ClassId) (o : Nat) (q : Nat → Nat) (x2 : Int32) (x3 : Int32) (x4 : Int32) (hi_x2 : x2 ≤ (-1)) : Met l yX9_canBe (uW yX9_canBe cX9_canBe 5 (some .boolean)) ({ frames := 2, cells := 0, slots := 0, locals := 42 }) (va_Pc [.ref o, .int 8, .int x2, .int x3, .int x4] (pS D (tyL cI cZ cJ) (mW o 0 q cI cZ))) (QcRead (0)) 0 0 (fun _ => False) := by
  refine rdStart (lv := [(0, .ref o), (1, .int 8), (2, .int x2), (3, .int x3), (4, .int x4)]) (by decide) (Nat.le_of_ble_eq_true rfl) rfl ?_
  intro p e s m args below meth c ls S hr hlocks hl hP hK
  have hx := S.1
  have hb := S.2.1
  refine lv_iload_n hx hb dX9_canBe_0 rfl (lv_at hl 1 rfl) ?_
  refine lv_tableIn (off := 212) (tgt := 213) hx hb dX9_canBe_1 (by decide) (by decide) (by decide) (by decide) ?_
  refine lv_iload_n hx hb dX9_canBe_213 rfl (lv_at hl 2 rfl) ?_
  refine rdS (As := [.int x2]) S (c_X9_isName_0 l D cI cZ cJ o q x2 hi_x2) ms_X9_isName kw_7_108 ⟨rfl, rfl⟩ ⟨Nat.le_of_ble_eq_true rfl, Nat.le_of_ble_eq_true rfl⟩ hP hK hl.1 (Nat.le_of_ble_eq_true rfl) ⟨Nat.le_of_ble_eq_true rfl, Nat.le_of_ble_eq_true rfl⟩ dX9_canBe_214 ?_
  refine lv_if_eq (tgt := 237) hx hb dX9_canBe_217 (by decide) (fun _ => ?_) (fun c => absurd c (by decide))
  refine lv_iconst (v := 0) hx hb dX9_canBe_237 (by decide) ?_
  exact rdEndZ S hr hlocks dX9_canBe_238 rfl rfl

set_option maxHeartbeats 8000000 in
set_option maxRecDepth 100000 in
theorem c_X9_node_16 (l : Launch) (D : va_G) (cI cZ cJ : ClassId) (o : Nat) (q : Nat → Nat) (sz : Nat) (x2 : Int32) (x3 : Int32) (x4 : Int32) (hi_x2 : x2 ≤ (-1)) : Met l yX9_node (uW yX9_node cX9_node 6 (some .int)) ({ frames := 3, cells := 0, slots := 0, locals := 66 }) (va_Pc [.ref o, .int 8, .int x2, .int x3, .int x4] (wS D (tyL cI cZ cJ) (mW o 0 q cI cZ) sz)) (wQi (0) D (mW o 1 q cI cZ) (va_A (mW o 0 q cI cZ) sz)) 0 0 (va_A (mW o 0 q cI cZ) sz) := by
  refine wStart (lv := [(0, .ref o), (1, .int 8), (2, .int x2), (3, .int x3), (4, .int x4)]) (Qc := fun A => wQi (0) D (mW o 1 q cI cZ) A) (by decide) (Nat.le_of_ble_eq_true rfl) rfl ?_
  intro p e s m args below meth c ls A H S hr hlocks hnm hl hK hP hD hS hA
  have hx := S.1
  have hb := S.2.1
  refine lv_aload_n hx hb dX9_node_0 rfl (lv_at hl 0 rfl) ?_
  refine lv_iconst (v := 0) hx hb dX9_node_1 (by decide) ?_
  refine xp (ci := 9) (v := .int 0) S inX9 tyX9 tyX9_ok nmX9 rfl hK hP hD hS mW_0 0 (by decide) kw_6_148 rfl rfl rfl rfl (Nat.le_of_ble_eq_true rfl) dX9_node_2 (fun H locs hP hD hS => ?_)
  have hP : va_P D vwCl (mW o 0 q cI cZ) H := hP
  have hD : va_D A (mW o 0 q cI cZ) := hD
  refine lv_iload_n hx hb dX9_node_5 rfl (lv_at hl 1 rfl) ?_
  refine lv_iconst (v := 0) hx hb dX9_node_6 (by decide) ?_
  refine lv_bipush (v := 21) hx hb dX9_node_7 (by decide) ?_
  refine rdS (As := [.int 8, .int 0, .int 21]) S (c_X9_isIn_46 l D cI cZ cJ o q) ms_X9_isIn kw_7_101 ⟨rfl, rfl⟩ ⟨Nat.le_of_ble_eq_true rfl, Nat.le_of_ble_eq_true rfl⟩ hP hK hl.1 (Nat.le_of_ble_eq_true rfl) ⟨Nat.le_of_ble_eq_true rfl, Nat.le_of_ble_eq_true rfl⟩ dX9_node_9 ?_
  refine lv_if_eq (tgt := 27) hx hb dX9_node_12 (by decide) (fun c => absurd c (by decide)) (fun _ => ?_)
  refine lv_aload_n hx hb dX9_node_15 rfl (lv_at hl 0 rfl) ?_
  refine lv_iload_n hx hb dX9_node_16 rfl (lv_at hl 1 rfl) ?_
  refine lv_iload_n hx hb dX9_node_17 rfl (lv_at hl 2 rfl) ?_
  refine lv_iload_n hx hb dX9_node_18 rfl (lv_at hl 3 rfl) ?_
  refine lv_iload hx hb dX9_node_19 (lv_at hl 4 rfl) ?_
  refine rdV (As := [.int 8, .int x2, .int x3, .int x4]) (ci := 9) S (c_X9_canBe_16 l D cI cZ cJ o q x2 x3 x4 hi_x2) mi_X9_canBe kw_7_155 ⟨rfl, rfl⟩ ⟨Nat.le_of_ble_eq_true rfl, Nat.le_of_ble_eq_true rfl⟩ hP hK mW_0 rfl rfl hl.1 (Nat.le_of_ble_eq_true rfl) ⟨Nat.le_of_ble_eq_true rfl, Nat.le_of_ble_eq_true rfl⟩ dX9_node_21 ?_
  refine lv_if_ne (tgt := 33) hx hb dX9_node_24 (by decide) (fun c => absurd c (by decide)) (fun _ => ?_)
  refine lv_aload_n hx hb dX9_node_27 rfl (lv_at hl 0 rfl) ?_
  refine lv_iconst (v := 1) hx hb dX9_node_28 (by decide) ?_
  refine wrV (As := [.int 1]) (ci := 9) S (c_X9_no_0 l D cI cZ cJ o q H.size) mi_X9_no kw_7_104 rfl rfl ⟨Nat.le_of_ble_eq_true rfl, Nat.le_of_ble_eq_true rfl⟩ hP hD hK hS hA mW_0 rfl rfl hl.1 (Nat.le_of_ble_eq_true rfl) ⟨Nat.le_of_ble_eq_true rfl, Nat.le_of_ble_eq_true rfl⟩ dX9_node_29 (fun H locs hz hP hD hS => ?_)
  exact wEnd S hr hlocks hP hD hS (Nat.le_of_ble_eq_true rfl) (Nat.le_of_ble_eq_true rfl) dX9_node_32 rfl

set_option maxHeartbeats 8000000 in
set_option maxRecDepth 100000 in
theorem h_node_17 (l : Launch) (D : va_G) (cI cZ cJ : ClassId) (o : Nat) (u : Nat → Nat) (ao : Nat) (hst : l.stackTraces = false) (ra ga : Nat → Nat) (sz : Nat) (x2 : Int32) (x3 : Int32) (x4 : Int32) (lo_x2 : 16 ≤ x2) : vx_Met l yL_node (uWh yL_node cL_node 7 (some .int) [(0, 14, 17, 15), (0, 14, 21, 17)]) ({ frames := 8, cells := 1, slots := 6, locals := 126 }) (va_Pc [.ref o, .int 8, .int x2, .int x3, .int x4, .ref ao] (lS ra ga D (tyL cI cZ cJ) ((xW o u cI cZ cJ) ++ [(ao, .inl (cJ, 1, .inr (.inl (fun _ => 0))))]) sz)) (wQi (1) D ((xW o u cI cZ cJ) ++ [(ao, .inl (cJ, 1, .inr (.inl (fun _ => 0))))]) (va_A ((xW o u cI cZ cJ) ++ [(ao, .inl (cJ, 1, .inr (.inl (fun _ => 0))))]) sz)) (xN (va_A ((xW o u cI cZ cJ) ++ [(ao, .inl (cJ, 1, .inr (.inl (fun _ => 0))))]) sz)) 1 6 (va_A ((xW o u cI cZ cJ) ++ [(ao, .inl (cJ, 1, .inr (.inl (fun _ => 0))))]) sz) := by
  refine hStart (l := l) (y := yL_node) (b := cL_node) (n := 7) (r := (some .int)) (hh := [(0, 14, 17, 15), (0, 14, 21, 17)]) (rm := ({ frames := 8, cells := 1, slots := 6, locals := 126 })) (mc := 1) (ms := 6) (ra := ra) (ga := ga) (D := D) (tys := tyL cI cZ cJ) (ws := ((xW o u cI cZ cJ) ++ [(ao, .inl (cJ, 1, .inr (.inl (fun _ => 0))))])) (av := [.ref o, .int 8, .int x2, .int x3, .int x4, .ref ao]) (sz := sz) (lv := [(0, .ref o), (1, .int 8), (2, .int x2), (3, .int x3), (4, .int x4), (5, .ref ao)]) (Qc := fun A => wQi (1) D ((xW o u cI cZ cJ) ++ [(ao, .inl (cJ, 1, .inr (.inl (fun _ => 0))))]) A) (by decide) (Nat.le_of_ble_eq_true rfl) rfl ?_
  intro p e s m args below meth c ls A H S hr hlocks htab hl hK hP hD hS hA hB hC
  have hx := S.1
  have hb := S.2.1
  refine lv_aload hx hb dL_node_0 (lv_at hl 5 rfl) ?_
  refine lv_iconst (v := 0) hx hb dL_node_2 (by decide) ?_
  refine lv_aload_n hx hb dL_node_3 rfl (lv_at hl 0 rfl) ?_
  refine lv_iload_n hx hb dL_node_4 rfl (lv_at hl 1 rfl) ?_
  refine lv_iload_n hx hb dL_node_5 rfl (lv_at hl 2 rfl) ?_
  refine lv_iload_n hx hb dL_node_6 rfl (lv_at hl 3 rfl) ?_
  refine lv_iload hx hb dL_node_7 (lv_at hl 4 rfl) ?_
  refine cVi [] [(ao, .inl (cJ, 1, .inr (.inl (fun _ => 0))))] (As := [.int 8, .int x2, .int x3, .int x4]) (ci := 8) S (c_X8_node_17 l D cI cZ cJ o u hst ra ga H.size x2 x3 x4 lo_x2) mi_X8_node kw_6_23 rfl rfl ⟨Nat.le_of_ble_eq_true rfl, Nat.le_of_ble_eq_true rfl⟩ hP hD hK hS hA hB xW_0 rfl rfl hl.1 (Nat.le_of_ble_eq_true rfl) ⟨Nat.le_of_ble_eq_true rfl, Nat.le_of_ble_eq_true rfl⟩ dL_node_9 (fun ce q9 H locs hz hP hD hS hce hcv hcl => ?_)
  refine vx_catch (name := "java/lang/IllegalArgumentException") S.2.2.2.1 [] (⟨0, 14, 17, 15⟩ : ExceptionTableEntry) [(⟨0, 14, 21, 17⟩ : ExceptionTableEntry)] (htab.trans rfl) (fun _ h => absurd h List.not_mem_nil) (by decide) (by decide) (S.2.2.2.2 _ kw_5_177) (va_Nw.use rfl hB.c1) hce hcv hcl ?_
  have hP : va_P D vwCl ((xW o u cI cZ cJ) ++ [(ao, .inl (cJ, 1, .inr (.inl (fun _ => 0))))]) H := hP
  have hD : va_D A ((xW o u cI cZ cJ) ++ [(ao, .inl (cJ, 1, .inr (.inl (fun _ => 0))))]) := hD
  refine lv_astore (lv' := [(6, .ref q9), (0, .ref o), (1, .int 8), (2, .int x2), (3, .int x3), (4, .int x4), (5, .ref ao)]) hx hb dL_node_17 hl (by decide) rfl (fun ls hl => ?_)
  refine lv_iconst (v := 1) hx hb dL_node_19 (by decide) ?_
  exact vx_ret (wEnd S hr hlocks hP hD hS (Nat.le_of_ble_eq_true rfl) (Nat.le_of_ble_eq_true rfl) dL_node_20 rfl)

set_option maxHeartbeats 8000000 in
set_option maxRecDepth 100000 in
theorem c_X9_canBe_17 (l : Launch) (D : va_G) (cI cZ cJ : ClassId) (o : Nat) (q : Nat → Nat) (x2 : Int32) (x3 : Int32) (x4 : Int32) (lo_x2 : 16 ≤ x2) : Met l yX9_canBe (uW yX9_canBe cX9_canBe 5 (some .boolean)) ({ frames := 2, cells := 0, slots := 0, locals := 42 }) (va_Pc [.ref o, .int 8, .int x2, .int x3, .int x4] (pS D (tyL cI cZ cJ) (mW o 0 q cI cZ))) (QcRead (0)) 0 0 (fun _ => False) := by
  refine rdStart (lv := [(0, .ref o), (1, .int 8), (2, .int x2), (3, .int x3), (4, .int x4)]) (by decide) (Nat.le_of_ble_eq_true rfl) rfl ?_
  intro p e s m args below meth c ls S hr hlocks hl hP hK
  have hx := S.1
  have hb := S.2.1
  refine lv_iload_n hx hb dX9_canBe_0 rfl (lv_at hl 1 rfl) ?_
  refine lv_tableIn (off := 212) (tgt := 213) hx hb dX9_canBe_1 (by decide) (by decide) (by decide) (by decide) ?_
  refine lv_iload_n hx hb dX9_canBe_213 rfl (lv_at hl 2 rfl) ?_
  refine rdS (As := [.int x2]) S (c_X9_isName_1 l D cI cZ cJ o q x2 lo_x2) ms_X9_isName kw_7_108 ⟨rfl, rfl⟩ ⟨Nat.le_of_ble_eq_true rfl, Nat.le_of_ble_eq_true rfl⟩ hP hK hl.1 (Nat.le_of_ble_eq_true rfl) ⟨Nat.le_of_ble_eq_true rfl, Nat.le_of_ble_eq_true rfl⟩ dX9_canBe_214 ?_
  refine lv_if_eq (tgt := 237) hx hb dX9_canBe_217 (by decide) (fun _ => ?_) (fun c => absurd c (by decide))
  refine lv_iconst (v := 0) hx hb dX9_canBe_237 (by decide) ?_
  exact rdEndZ S hr hlocks dX9_canBe_238 rfl rfl

set_option maxHeartbeats 8000000 in
set_option maxRecDepth 100000 in
theorem c_X9_node_17 (l : Launch) (D : va_G) (cI cZ cJ : ClassId) (o : Nat) (q : Nat → Nat) (sz : Nat) (x2 : Int32) (x3 : Int32) (x4 : Int32) (lo_x2 : 16 ≤ x2) : Met l yX9_node (uW yX9_node cX9_node 6 (some .int)) ({ frames := 3, cells := 0, slots := 0, locals := 66 }) (va_Pc [.ref o, .int 8, .int x2, .int x3, .int x4] (wS D (tyL cI cZ cJ) (mW o 0 q cI cZ) sz)) (wQi (0) D (mW o 1 q cI cZ) (va_A (mW o 0 q cI cZ) sz)) 0 0 (va_A (mW o 0 q cI cZ) sz) := by
  refine wStart (lv := [(0, .ref o), (1, .int 8), (2, .int x2), (3, .int x3), (4, .int x4)]) (Qc := fun A => wQi (0) D (mW o 1 q cI cZ) A) (by decide) (Nat.le_of_ble_eq_true rfl) rfl ?_
  intro p e s m args below meth c ls A H S hr hlocks hnm hl hK hP hD hS hA
  have hx := S.1
  have hb := S.2.1
  refine lv_aload_n hx hb dX9_node_0 rfl (lv_at hl 0 rfl) ?_
  refine lv_iconst (v := 0) hx hb dX9_node_1 (by decide) ?_
  refine xp (ci := 9) (v := .int 0) S inX9 tyX9 tyX9_ok nmX9 rfl hK hP hD hS mW_0 0 (by decide) kw_6_148 rfl rfl rfl rfl (Nat.le_of_ble_eq_true rfl) dX9_node_2 (fun H locs hP hD hS => ?_)
  have hP : va_P D vwCl (mW o 0 q cI cZ) H := hP
  have hD : va_D A (mW o 0 q cI cZ) := hD
  refine lv_iload_n hx hb dX9_node_5 rfl (lv_at hl 1 rfl) ?_
  refine lv_iconst (v := 0) hx hb dX9_node_6 (by decide) ?_
  refine lv_bipush (v := 21) hx hb dX9_node_7 (by decide) ?_
  refine rdS (As := [.int 8, .int 0, .int 21]) S (c_X9_isIn_46 l D cI cZ cJ o q) ms_X9_isIn kw_7_101 ⟨rfl, rfl⟩ ⟨Nat.le_of_ble_eq_true rfl, Nat.le_of_ble_eq_true rfl⟩ hP hK hl.1 (Nat.le_of_ble_eq_true rfl) ⟨Nat.le_of_ble_eq_true rfl, Nat.le_of_ble_eq_true rfl⟩ dX9_node_9 ?_
  refine lv_if_eq (tgt := 27) hx hb dX9_node_12 (by decide) (fun c => absurd c (by decide)) (fun _ => ?_)
  refine lv_aload_n hx hb dX9_node_15 rfl (lv_at hl 0 rfl) ?_
  refine lv_iload_n hx hb dX9_node_16 rfl (lv_at hl 1 rfl) ?_
  refine lv_iload_n hx hb dX9_node_17 rfl (lv_at hl 2 rfl) ?_
  refine lv_iload_n hx hb dX9_node_18 rfl (lv_at hl 3 rfl) ?_
  refine lv_iload hx hb dX9_node_19 (lv_at hl 4 rfl) ?_
  refine rdV (As := [.int 8, .int x2, .int x3, .int x4]) (ci := 9) S (c_X9_canBe_17 l D cI cZ cJ o q x2 x3 x4 lo_x2) mi_X9_canBe kw_7_155 ⟨rfl, rfl⟩ ⟨Nat.le_of_ble_eq_true rfl, Nat.le_of_ble_eq_true rfl⟩ hP hK mW_0 rfl rfl hl.1 (Nat.le_of_ble_eq_true rfl) ⟨Nat.le_of_ble_eq_true rfl, Nat.le_of_ble_eq_true rfl⟩ dX9_node_21 ?_
  refine lv_if_ne (tgt := 33) hx hb dX9_node_24 (by decide) (fun c => absurd c (by decide)) (fun _ => ?_)
  refine lv_aload_n hx hb dX9_node_27 rfl (lv_at hl 0 rfl) ?_
  refine lv_iconst (v := 1) hx hb dX9_node_28 (by decide) ?_
  refine wrV (As := [.int 1]) (ci := 9) S (c_X9_no_0 l D cI cZ cJ o q H.size) mi_X9_no kw_7_104 rfl rfl ⟨Nat.le_of_ble_eq_true rfl, Nat.le_of_ble_eq_true rfl⟩ hP hD hK hS hA mW_0 rfl rfl hl.1 (Nat.le_of_ble_eq_true rfl) ⟨Nat.le_of_ble_eq_true rfl, Nat.le_of_ble_eq_true rfl⟩ dX9_node_29 (fun H locs hz hP hD hS => ?_)
  exact wEnd S hr hlocks hP hD hS (Nat.le_of_ble_eq_true rfl) (Nat.le_of_ble_eq_true rfl) dX9_node_32 rfl

set_option maxHeartbeats 8000000 in
set_option maxRecDepth 100000 in
theorem h_node_18 (l : Launch) (D : va_G) (cI cZ cJ : ClassId) (o : Nat) (u : Nat → Nat) (ao : Nat) (hst : l.stackTraces = false) (ra ga : Nat → Nat) (sz : Nat) (x2 : Int32) (lo_x2 : 0 ≤ x2) (hi_x2 : x2 ≤ 15) : vx_Met l yL_node (uWh yL_node cL_node 7 (some .int) [(0, 14, 17, 15), (0, 14, 21, 17)]) ({ frames := 4, cells := 0, slots := 0, locals := 90 }) (va_Pc [.ref o, .int 8, .int x2, .int (-1), .int 0, .ref ao] (lS ra ga D (tyL cI cZ cJ) ((xW o u cI cZ cJ) ++ [(ao, .inl (cJ, 1, .inr (.inl (fun _ => 0))))]) sz)) (wQi (0) D (((((((((xW o u cI cZ cJ).set 13 ((u 12), .inr (5, ([.int 0, .ref (u 13), .ref (u 14), .ref (u 15), .ref (u 16), .ref (u 17), .ref (u 18)].set 0 (.int 1))))).set 14 ((u 13), .inl (cI, 110, .inl (upd (fun _ => 0) (0 : Int32).toNatClampNeg 8)))).set 15 ((u 14), .inl (cI, 110, .inl (upd (fun _ => 0) (0 : Int32).toNatClampNeg x2)))).set 16 ((u 15), .inl (cI, 110, .inl (upd (fun _ => 0) (0 : Int32).toNatClampNeg (-1))))).set 17 ((u 16), .inl (cI, 110, .inl (upd (fun _ => 0) (0 : Int32).toNatClampNeg 0)))).set 18 ((u 17), .inl (cI, 110, .inl (upd (fun _ => 0) (0 : Int32).toNatClampNeg (-1))))).set 19 ((u 18), .inl (cI, 110, .inl (upd (fun _ => 0) (0 : Int32).toNatClampNeg (-1))))) ++ [(ao, .inl (cJ, 1, .inr (.inl (vp_updL (fun _ => 0) (0 : Int32).toNatClampNeg 0))))]) (va_A ((xW o u cI cZ cJ) ++ [(ao, .inl (cJ, 1, .inr (.inl (fun _ => 0))))]) sz)) (xN (va_A ((xW o u cI cZ cJ) ++ [(ao, .inl (cJ, 1, .inr (.inl (fun _ => 0))))]) sz)) 0 0 (va_A ((xW o u cI cZ cJ) ++ [(ao, .inl (cJ, 1, .inr (.inl (fun _ => 0))))]) sz) := by
  refine hStart (l := l) (y := yL_node) (b := cL_node) (n := 7) (r := (some .int)) (hh := [(0, 14, 17, 15), (0, 14, 21, 17)]) (rm := ({ frames := 4, cells := 0, slots := 0, locals := 90 })) (mc := 0) (ms := 0) (ra := ra) (ga := ga) (D := D) (tys := tyL cI cZ cJ) (ws := ((xW o u cI cZ cJ) ++ [(ao, .inl (cJ, 1, .inr (.inl (fun _ => 0))))])) (av := [.ref o, .int 8, .int x2, .int (-1), .int 0, .ref ao]) (sz := sz) (lv := [(0, .ref o), (1, .int 8), (2, .int x2), (3, .int (-1)), (4, .int 0), (5, .ref ao)]) (Qc := fun A => wQi (0) D (((((((((xW o u cI cZ cJ).set 13 ((u 12), .inr (5, ([.int 0, .ref (u 13), .ref (u 14), .ref (u 15), .ref (u 16), .ref (u 17), .ref (u 18)].set 0 (.int 1))))).set 14 ((u 13), .inl (cI, 110, .inl (upd (fun _ => 0) (0 : Int32).toNatClampNeg 8)))).set 15 ((u 14), .inl (cI, 110, .inl (upd (fun _ => 0) (0 : Int32).toNatClampNeg x2)))).set 16 ((u 15), .inl (cI, 110, .inl (upd (fun _ => 0) (0 : Int32).toNatClampNeg (-1))))).set 17 ((u 16), .inl (cI, 110, .inl (upd (fun _ => 0) (0 : Int32).toNatClampNeg 0)))).set 18 ((u 17), .inl (cI, 110, .inl (upd (fun _ => 0) (0 : Int32).toNatClampNeg (-1))))).set 19 ((u 18), .inl (cI, 110, .inl (upd (fun _ => 0) (0 : Int32).toNatClampNeg (-1))))) ++ [(ao, .inl (cJ, 1, .inr (.inl (vp_updL (fun _ => 0) (0 : Int32).toNatClampNeg 0))))]) A) (by decide) (Nat.le_of_ble_eq_true rfl) rfl ?_
  intro p e s m args below meth c ls A H S hr hlocks htab hl hK hP hD hS hA hB hC
  have hx := S.1
  have hb := S.2.1
  refine lv_aload hx hb dL_node_0 (lv_at hl 5 rfl) ?_
  refine lv_iconst (v := 0) hx hb dL_node_2 (by decide) ?_
  refine lv_aload_n hx hb dL_node_3 rfl (lv_at hl 0 rfl) ?_
  refine lv_iload_n hx hb dL_node_4 rfl (lv_at hl 1 rfl) ?_
  refine lv_iload_n hx hb dL_node_5 rfl (lv_at hl 2 rfl) ?_
  refine lv_iload_n hx hb dL_node_6 rfl (lv_at hl 3 rfl) ?_
  refine lv_iload hx hb dL_node_7 (lv_at hl 4 rfl) ?_
  refine faVi [] [(ao, .inl (cJ, 1, .inr (.inl (fun _ => 0))))] (As := [.int 8, .int x2, .int (-1), .int 0]) (ci := 8) S (c_X8_node_18 l D cI cZ cJ o u ra ga H.size x2 lo_x2 hi_x2) mi_X8_node kw_6_23 rfl rfl ⟨Nat.le_of_ble_eq_true rfl, Nat.le_of_ble_eq_true rfl⟩ hP hD hK hS hA hB xW_0 rfl rfl hl.1 (Nat.le_of_ble_eq_true rfl) ⟨Nat.le_of_ble_eq_true rfl, Nat.le_of_ble_eq_true rfl⟩ dL_node_9 (fun H locs hz hP hD hS => ?_)
  have hP : va_P D vwCl (((((((((xW o u cI cZ cJ).set 13 ((u 12), .inr (5, ([.int 0, .ref (u 13), .ref (u 14), .ref (u 15), .ref (u 16), .ref (u 17), .ref (u 18)].set 0 (.int 1))))).set 14 ((u 13), .inl (cI, 110, .inl (upd (fun _ => 0) (0 : Int32).toNatClampNeg 8)))).set 15 ((u 14), .inl (cI, 110, .inl (upd (fun _ => 0) (0 : Int32).toNatClampNeg x2)))).set 16 ((u 15), .inl (cI, 110, .inl (upd (fun _ => 0) (0 : Int32).toNatClampNeg (-1))))).set 17 ((u 16), .inl (cI, 110, .inl (upd (fun _ => 0) (0 : Int32).toNatClampNeg 0)))).set 18 ((u 17), .inl (cI, 110, .inl (upd (fun _ => 0) (0 : Int32).toNatClampNeg (-1))))).set 19 ((u 18), .inl (cI, 110, .inl (upd (fun _ => 0) (0 : Int32).toNatClampNeg (-1))))) ++ [(ao, .inl (cJ, 1, .inr (.inl (fun _ => 0))))]) H := hP
  have hD : va_D A (((((((((xW o u cI cZ cJ).set 13 ((u 12), .inr (5, ([.int 0, .ref (u 13), .ref (u 14), .ref (u 15), .ref (u 16), .ref (u 17), .ref (u 18)].set 0 (.int 1))))).set 14 ((u 13), .inl (cI, 110, .inl (upd (fun _ => 0) (0 : Int32).toNatClampNeg 8)))).set 15 ((u 14), .inl (cI, 110, .inl (upd (fun _ => 0) (0 : Int32).toNatClampNeg x2)))).set 16 ((u 15), .inl (cI, 110, .inl (upd (fun _ => 0) (0 : Int32).toNatClampNeg (-1))))).set 17 ((u 16), .inl (cI, 110, .inl (upd (fun _ => 0) (0 : Int32).toNatClampNeg 0)))).set 18 ((u 17), .inl (cI, 110, .inl (upd (fun _ => 0) (0 : Int32).toNatClampNeg (-1))))).set 19 ((u 18), .inl (cI, 110, .inl (upd (fun _ => 0) (0 : Int32).toNatClampNeg (-1))))) ++ [(ao, .inl (cJ, 1, .inr (.inl (fun _ => 0))))]) := hD
  refine lv_i2l (v := 0) hx hb dL_node_12 (by decide) ?_
  refine xlast (t0 := 2) S hK hP hD hS (q0 := 88) rfl rfl (vin rfl) dL_node_13 (fun H locs hP hD hS => ?_)
  have hP : va_P D vwCl (((((((((xW o u cI cZ cJ).set 13 ((u 12), .inr (5, ([.int 0, .ref (u 13), .ref (u 14), .ref (u 15), .ref (u 16), .ref (u 17), .ref (u 18)].set 0 (.int 1))))).set 14 ((u 13), .inl (cI, 110, .inl (upd (fun _ => 0) (0 : Int32).toNatClampNeg 8)))).set 15 ((u 14), .inl (cI, 110, .inl (upd (fun _ => 0) (0 : Int32).toNatClampNeg x2)))).set 16 ((u 15), .inl (cI, 110, .inl (upd (fun _ => 0) (0 : Int32).toNatClampNeg (-1))))).set 17 ((u 16), .inl (cI, 110, .inl (upd (fun _ => 0) (0 : Int32).toNatClampNeg 0)))).set 18 ((u 17), .inl (cI, 110, .inl (upd (fun _ => 0) (0 : Int32).toNatClampNeg (-1))))).set 19 ((u 18), .inl (cI, 110, .inl (upd (fun _ => 0) (0 : Int32).toNatClampNeg (-1))))) ++ [(ao, .inl (cJ, 1, .inr (.inl (vp_updL (fun _ => 0) (0 : Int32).toNatClampNeg 0))))]) H := hP
  have hD : va_D A (((((((((xW o u cI cZ cJ).set 13 ((u 12), .inr (5, ([.int 0, .ref (u 13), .ref (u 14), .ref (u 15), .ref (u 16), .ref (u 17), .ref (u 18)].set 0 (.int 1))))).set 14 ((u 13), .inl (cI, 110, .inl (upd (fun _ => 0) (0 : Int32).toNatClampNeg 8)))).set 15 ((u 14), .inl (cI, 110, .inl (upd (fun _ => 0) (0 : Int32).toNatClampNeg x2)))).set 16 ((u 15), .inl (cI, 110, .inl (upd (fun _ => 0) (0 : Int32).toNatClampNeg (-1))))).set 17 ((u 16), .inl (cI, 110, .inl (upd (fun _ => 0) (0 : Int32).toNatClampNeg 0)))).set 18 ((u 17), .inl (cI, 110, .inl (upd (fun _ => 0) (0 : Int32).toNatClampNeg (-1))))).set 19 ((u 18), .inl (cI, 110, .inl (upd (fun _ => 0) (0 : Int32).toNatClampNeg (-1))))) ++ [(ao, .inl (cJ, 1, .inr (.inl (vp_updL (fun _ => 0) (0 : Int32).toNatClampNeg 0))))]) := hD
  refine lv_goto (tgt := 25) hx hb dL_node_14 (by decide) ?_
  refine lv_iconst (v := 0) hx hb dL_node_25 (by decide) ?_
  exact vx_ret (wEnd S hr hlocks hP hD hS (Nat.le_of_ble_eq_true rfl) (Nat.le_of_ble_eq_true rfl) dL_node_26 rfl)

set_option maxHeartbeats 8000000 in
set_option maxRecDepth 100000 in
theorem c_X9_isArgument_0 (l : Launch) (D : va_G) (cI cZ cJ : ClassId) (o : Nat) (q : Nat → Nat) : Met l yX9_isArgument (uW yX9_isArgument cX9_isArgument 2 (some .boolean)) ({ frames := 0, cells := 0, slots := 0, locals := 0 }) (va_Pc [.ref o, .int (-1)] (pS D (tyL cI cZ cJ) (mW o 0 q cI cZ))) (QcRead (1)) 0 0 (fun _ => False) := by
  refine rdStart (lv := [(0, .ref o), (1, .int (-1))]) (by decide) (Nat.le_of_ble_eq_true rfl) rfl ?_
  intro p e s m args below meth c ls S hr hlocks hl hP hK
  have hx := S.1
  have hb := S.2.1
  refine lv_iload_n hx hb dX9_isArgument_0 rfl (lv_at hl 1 rfl) ?_
  refine lv_iconst (v := (-1)) hx hb dX9_isArgument_1 (by decide) ?_
  refine lv_icmp_eq (tgt := 24) hx hb dX9_isArgument_2 (by decide) (fun _ => ?_) (fun c => absurd c (by decide))
  refine lv_iconst (v := 1) hx hb dX9_isArgument_24 (by decide) ?_
  refine lv_goto (tgt := 29) hx hb dX9_isArgument_25 (by decide) ?_
  exact rdEndZ S hr hlocks dX9_isArgument_29 rfl rfl

set_option maxHeartbeats 8000000 in
set_option maxRecDepth 100000 in
theorem c_X9_canBe_18 (l : Launch) (D : va_G) (cI cZ cJ : ClassId) (o : Nat) (q : Nat → Nat) (x2 : Int32) (lo_x2 : 0 ≤ x2) (hi_x2 : x2 ≤ 15) : Met l yX9_canBe (uW yX9_canBe cX9_canBe 5 (some .boolean)) ({ frames := 2, cells := 0, slots := 0, locals := 42 }) (va_Pc [.ref o, .int 8, .int x2, .int (-1), .int 0] (pS D (tyL cI cZ cJ) (mW o 0 q cI cZ))) (QcRead (1)) 0 0 (fun _ => False) := by
  refine rdStart (lv := [(0, .ref o), (1, .int 8), (2, .int x2), (3, .int (-1)), (4, .int 0)]) (by decide) (Nat.le_of_ble_eq_true rfl) rfl ?_
  intro p e s m args below meth c ls S hr hlocks hl hP hK
  have hx := S.1
  have hb := S.2.1
  refine lv_iload_n hx hb dX9_canBe_0 rfl (lv_at hl 1 rfl) ?_
  refine lv_tableIn (off := 212) (tgt := 213) hx hb dX9_canBe_1 (by decide) (by decide) (by decide) (by decide) ?_
  refine lv_iload_n hx hb dX9_canBe_213 rfl (lv_at hl 2 rfl) ?_
  refine rdS (As := [.int x2]) S (c_X9_isName_2 l D cI cZ cJ o q x2 lo_x2 hi_x2) ms_X9_isName kw_7_108 ⟨rfl, rfl⟩ ⟨Nat.le_of_ble_eq_true rfl, Nat.le_of_ble_eq_true rfl⟩ hP hK hl.1 (Nat.le_of_ble_eq_true rfl) ⟨Nat.le_of_ble_eq_true rfl, Nat.le_of_ble_eq_true rfl⟩ dX9_canBe_214 ?_
  refine lv_if_eq (tgt := 237) hx hb dX9_canBe_217 (by decide) (fun c => absurd c (by decide)) (fun _ => ?_)
  refine lv_aload_n hx hb dX9_canBe_220 rfl (lv_at hl 0 rfl) ?_
  refine lv_iload_n hx hb dX9_canBe_221 rfl (lv_at hl 3 rfl) ?_
  refine rdV (As := [.int (-1)]) (ci := 9) S (c_X9_isArgument_0 l D cI cZ cJ o q) mi_X9_isArgument kw_7_174 ⟨rfl, rfl⟩ ⟨Nat.le_of_ble_eq_true rfl, Nat.le_of_ble_eq_true rfl⟩ hP hK mW_0 rfl rfl hl.1 (Nat.le_of_ble_eq_true rfl) ⟨Nat.le_of_ble_eq_true rfl, Nat.le_of_ble_eq_true rfl⟩ dX9_canBe_222 ?_
  refine lv_if_eq (tgt := 237) hx hb dX9_canBe_225 (by decide) (fun c => absurd c (by decide)) (fun _ => ?_)
  refine lv_iload hx hb dX9_canBe_228 (lv_at hl 4 rfl) ?_
  refine lv_if_ne (tgt := 237) hx hb dX9_canBe_230 (by decide) (fun c => absurd c (by decide)) (fun _ => ?_)
  refine lv_iconst (v := 1) hx hb dX9_canBe_233 (by decide) ?_
  refine lv_goto (tgt := 238) hx hb dX9_canBe_234 (by decide) ?_
  exact rdEndZ S hr hlocks dX9_canBe_238 rfl rfl

set_option maxHeartbeats 8000000 in
set_option maxRecDepth 100000 in
theorem c_X9_parts_2 (l : Launch) (D : va_G) (cI cZ cJ : ClassId) (o : Nat) (q : Nat → Nat) (x2 : Int32) (lo_x2 : 0 ≤ x2) (hi_x2 : x2 ≤ 15) : Met l yX9_parts (uW yX9_parts cX9_parts 1 (some .int)) ({ frames := 0, cells := 0, slots := 0, locals := 0 }) (va_Pc [.int 8] (pS D (tyL cI cZ cJ) (((((((mW o 0 q cI cZ).set 12 ((q 11), .inl (cI, 110, .inl (upd (fun _ => 0) (0 : Int32).toNatClampNeg 8)))).set 13 ((q 12), .inl (cI, 110, .inl (upd (fun _ => 0) (0 : Int32).toNatClampNeg x2)))).set 14 ((q 13), .inl (cI, 110, .inl (upd (fun _ => 0) (0 : Int32).toNatClampNeg (-1))))).set 15 ((q 14), .inl (cI, 110, .inl (upd (fun _ => 0) (0 : Int32).toNatClampNeg 0)))).set 16 ((q 15), .inl (cI, 110, .inl (upd (fun _ => 0) (0 : Int32).toNatClampNeg (-1))))).set 17 ((q 16), .inl (cI, 110, .inl (upd (fun _ => 0) (0 : Int32).toNatClampNeg (-1))))))) (QcRead (2)) 0 0 (fun _ => False) := by
  refine rdStart (lv := [(0, .int 8)]) (by decide) (Nat.le_of_ble_eq_true rfl) rfl ?_
  intro p e s m args below meth c ls S hr hlocks hl hP hK
  have hx := S.1
  have hb := S.2.1
  refine lv_iload_n hx hb dX9_parts_0 rfl (lv_at hl 0 rfl) ?_
  refine lv_tableIn (off := 105) (tgt := 106) hx hb dX9_parts_1 (by decide) (by decide) (by decide) (by decide) ?_
  refine lv_iconst (v := 2) hx hb dX9_parts_106 (by decide) ?_
  exact rdEnd S hr hlocks dX9_parts_107 rfl

set_option maxHeartbeats 8000000 in
set_option maxRecDepth 100000 in
theorem c_X9_has_6 (l : Launch) (D : va_G) (cI cZ cJ : ClassId) (o : Nat) (q : Nat → Nat) (x2 : Int32) (lo_x2 : 0 ≤ x2) (hi_x2 : x2 ≤ 15) : Met l yX9_has (uW yX9_has cX9_has 2 (some .boolean)) ({ frames := 0, cells := 0, slots := 0, locals := 0 }) (va_Pc [.int 2, .int 0] (pS D (tyL cI cZ cJ) (((((((mW o 0 q cI cZ).set 12 ((q 11), .inl (cI, 110, .inl (upd (fun _ => 0) (0 : Int32).toNatClampNeg 8)))).set 13 ((q 12), .inl (cI, 110, .inl (upd (fun _ => 0) (0 : Int32).toNatClampNeg x2)))).set 14 ((q 13), .inl (cI, 110, .inl (upd (fun _ => 0) (0 : Int32).toNatClampNeg (-1))))).set 15 ((q 14), .inl (cI, 110, .inl (upd (fun _ => 0) (0 : Int32).toNatClampNeg 0)))).set 16 ((q 15), .inl (cI, 110, .inl (upd (fun _ => 0) (0 : Int32).toNatClampNeg (-1))))).set 17 ((q 16), .inl (cI, 110, .inl (upd (fun _ => 0) (0 : Int32).toNatClampNeg (-1))))))) (QcRead (0)) 0 0 (fun _ => False) := by
  refine rdStart (lv := [(0, .int 2), (1, .int 0)]) (by decide) (Nat.le_of_ble_eq_true rfl) rfl ?_
  intro p e s m args below meth c ls S hr hlocks hl hP hK
  have hx := S.1
  have hb := S.2.1
  refine lv_iload_n hx hb dX9_has_0 rfl (lv_at hl 0 rfl) ?_
  refine lv_iload_n hx hb dX9_has_1 rfl (lv_at hl 1 rfl) ?_
  refine xishr (v := 2) S dX9_has_2 (by decide) ?_
  refine lv_iconst (v := 1) hx hb dX9_has_3 (by decide) ?_
  refine xiand (v := 0) S dX9_has_4 (by decide) ?_
  refine lv_iconst (v := 1) hx hb dX9_has_5 (by decide) ?_
  refine lv_icmp_ne (tgt := 13) hx hb dX9_has_6 (by decide) (fun _ => ?_) (fun c => absurd c (by decide))
  refine lv_iconst (v := 0) hx hb dX9_has_13 (by decide) ?_
  exact rdEndZ S hr hlocks dX9_has_14 rfl rfl

set_option maxHeartbeats 8000000 in
set_option maxRecDepth 100000 in
theorem c_X9_part_6 (l : Launch) (D : va_G) (cI cZ cJ : ClassId) (o : Nat) (q : Nat → Nat) (x2 : Int32) (lo_x2 : 0 ≤ x2) (hi_x2 : x2 ≤ 15) : Met l yX9_part (uW yX9_part cX9_part 3 (some .int)) ({ frames := 1, cells := 0, slots := 0, locals := 21 }) (va_Pc [.ref o, .int 0, .int 0] (pS D (tyL cI cZ cJ) (((((((mW o 0 q cI cZ).set 12 ((q 11), .inl (cI, 110, .inl (upd (fun _ => 0) (0 : Int32).toNatClampNeg 8)))).set 13 ((q 12), .inl (cI, 110, .inl (upd (fun _ => 0) (0 : Int32).toNatClampNeg x2)))).set 14 ((q 13), .inl (cI, 110, .inl (upd (fun _ => 0) (0 : Int32).toNatClampNeg (-1))))).set 15 ((q 14), .inl (cI, 110, .inl (upd (fun _ => 0) (0 : Int32).toNatClampNeg 0)))).set 16 ((q 15), .inl (cI, 110, .inl (upd (fun _ => 0) (0 : Int32).toNatClampNeg (-1))))).set 17 ((q 16), .inl (cI, 110, .inl (upd (fun _ => 0) (0 : Int32).toNatClampNeg (-1))))))) (QcRead ((-1))) 0 0 (fun _ => False) := by
  refine rdStart (lv := [(0, .ref o), (1, .int 0), (2, .int 0)]) (by decide) (Nat.le_of_ble_eq_true rfl) rfl ?_
  intro p e s m args below meth c ls S hr hlocks hl hP hK
  have hx := S.1
  have hb := S.2.1
  refine lv_aload_n hx hb dX9_part_0 rfl (lv_at hl 0 rfl) ?_
  refine xg (ci := 9) S inX9 rfl hK hP (q0 := 0) rfl 14 (by decide) mF_14 kw_6_162 rfl dX9_part_1 ?_
  refine lv_iload_n hx hb dX9_part_4 rfl (lv_at hl 1 rfl) ?_
  refine xiald (t0 := 0) (v := 8) S hK hP (q0 := 12) rfl rfl (vin rfl) rfl dX9_part_5 ?_
  refine rdS (As := [.int 8]) S (c_X9_parts_2 l D cI cZ cJ o q x2 lo_x2 hi_x2) ms_X9_parts kw_7_189 ⟨rfl, rfl⟩ ⟨Nat.le_of_ble_eq_true rfl, Nat.le_of_ble_eq_true rfl⟩ hP hK hl.1 (Nat.le_of_ble_eq_true rfl) ⟨Nat.le_of_ble_eq_true rfl, Nat.le_of_ble_eq_true rfl⟩ dX9_part_6 ?_
  refine lv_iload_n hx hb dX9_part_9 rfl (lv_at hl 2 rfl) ?_
  refine rdS (As := [.int 2, .int 0]) S (c_X9_has_6 l D cI cZ cJ o q x2 lo_x2 hi_x2) ms_X9_has kw_7_192 ⟨rfl, rfl⟩ ⟨Nat.le_of_ble_eq_true rfl, Nat.le_of_ble_eq_true rfl⟩ hP hK hl.1 (Nat.le_of_ble_eq_true rfl) ⟨Nat.le_of_ble_eq_true rfl, Nat.le_of_ble_eq_true rfl⟩ dX9_part_10 ?_
  refine lv_if_ne (tgt := 18) hx hb dX9_part_13 (by decide) (fun c => absurd c (by decide)) (fun _ => ?_)
  refine lv_iconst (v := (-1)) hx hb dX9_part_16 (by decide) ?_
  exact rdEnd S hr hlocks dX9_part_17 rfl

set_option maxHeartbeats 8000000 in
set_option maxRecDepth 100000 in
theorem c_X9_has_7 (l : Launch) (D : va_G) (cI cZ cJ : ClassId) (o : Nat) (q : Nat → Nat) (x2 : Int32) (lo_x2 : 0 ≤ x2) (hi_x2 : x2 ≤ 15) : Met l yX9_has (uW yX9_has cX9_has 2 (some .boolean)) ({ frames := 0, cells := 0, slots := 0, locals := 0 }) (va_Pc [.int 2, .int 1] (pS D (tyL cI cZ cJ) (((((((mW o 0 q cI cZ).set 12 ((q 11), .inl (cI, 110, .inl (upd (fun _ => 0) (0 : Int32).toNatClampNeg 8)))).set 13 ((q 12), .inl (cI, 110, .inl (upd (fun _ => 0) (0 : Int32).toNatClampNeg x2)))).set 14 ((q 13), .inl (cI, 110, .inl (upd (fun _ => 0) (0 : Int32).toNatClampNeg (-1))))).set 15 ((q 14), .inl (cI, 110, .inl (upd (fun _ => 0) (0 : Int32).toNatClampNeg 0)))).set 16 ((q 15), .inl (cI, 110, .inl (upd (fun _ => 0) (0 : Int32).toNatClampNeg (-1))))).set 17 ((q 16), .inl (cI, 110, .inl (upd (fun _ => 0) (0 : Int32).toNatClampNeg (-1))))))) (QcRead (1)) 0 0 (fun _ => False) := by
  refine rdStart (lv := [(0, .int 2), (1, .int 1)]) (by decide) (Nat.le_of_ble_eq_true rfl) rfl ?_
  intro p e s m args below meth c ls S hr hlocks hl hP hK
  have hx := S.1
  have hb := S.2.1
  refine lv_iload_n hx hb dX9_has_0 rfl (lv_at hl 0 rfl) ?_
  refine lv_iload_n hx hb dX9_has_1 rfl (lv_at hl 1 rfl) ?_
  refine xishr (v := 1) S dX9_has_2 (by decide) ?_
  refine lv_iconst (v := 1) hx hb dX9_has_3 (by decide) ?_
  refine xiand (v := 1) S dX9_has_4 (by decide) ?_
  refine lv_iconst (v := 1) hx hb dX9_has_5 (by decide) ?_
  refine lv_icmp_ne (tgt := 13) hx hb dX9_has_6 (by decide) (fun c => absurd c (by decide)) (fun _ => ?_)
  refine lv_iconst (v := 1) hx hb dX9_has_9 (by decide) ?_
  refine lv_goto (tgt := 14) hx hb dX9_has_10 (by decide) ?_
  exact rdEndZ S hr hlocks dX9_has_14 rfl rfl

set_option maxHeartbeats 8000000 in
set_option maxRecDepth 100000 in
theorem c_X9_part_7 (l : Launch) (D : va_G) (cI cZ cJ : ClassId) (o : Nat) (q : Nat → Nat) (x2 : Int32) (lo_x2 : 0 ≤ x2) (hi_x2 : x2 ≤ 15) : Met l yX9_part (uW yX9_part cX9_part 3 (some .int)) ({ frames := 1, cells := 0, slots := 0, locals := 21 }) (va_Pc [.ref o, .int 0, .int 1] (pS D (tyL cI cZ cJ) (((((((mW o 0 q cI cZ).set 12 ((q 11), .inl (cI, 110, .inl (upd (fun _ => 0) (0 : Int32).toNatClampNeg 8)))).set 13 ((q 12), .inl (cI, 110, .inl (upd (fun _ => 0) (0 : Int32).toNatClampNeg x2)))).set 14 ((q 13), .inl (cI, 110, .inl (upd (fun _ => 0) (0 : Int32).toNatClampNeg (-1))))).set 15 ((q 14), .inl (cI, 110, .inl (upd (fun _ => 0) (0 : Int32).toNatClampNeg 0)))).set 16 ((q 15), .inl (cI, 110, .inl (upd (fun _ => 0) (0 : Int32).toNatClampNeg (-1))))).set 17 ((q 16), .inl (cI, 110, .inl (upd (fun _ => 0) (0 : Int32).toNatClampNeg (-1))))))) (QcRead ((-1))) 0 0 (fun _ => False) := by
  refine rdStart (lv := [(0, .ref o), (1, .int 0), (2, .int 1)]) (by decide) (Nat.le_of_ble_eq_true rfl) rfl ?_
  intro p e s m args below meth c ls S hr hlocks hl hP hK
  have hx := S.1
  have hb := S.2.1
  refine lv_aload_n hx hb dX9_part_0 rfl (lv_at hl 0 rfl) ?_
  refine xg (ci := 9) S inX9 rfl hK hP (q0 := 0) rfl 14 (by decide) mF_14 kw_6_162 rfl dX9_part_1 ?_
  refine lv_iload_n hx hb dX9_part_4 rfl (lv_at hl 1 rfl) ?_
  refine xiald (t0 := 0) (v := 8) S hK hP (q0 := 12) rfl rfl (vin rfl) rfl dX9_part_5 ?_
  refine rdS (As := [.int 8]) S (c_X9_parts_2 l D cI cZ cJ o q x2 lo_x2 hi_x2) ms_X9_parts kw_7_189 ⟨rfl, rfl⟩ ⟨Nat.le_of_ble_eq_true rfl, Nat.le_of_ble_eq_true rfl⟩ hP hK hl.1 (Nat.le_of_ble_eq_true rfl) ⟨Nat.le_of_ble_eq_true rfl, Nat.le_of_ble_eq_true rfl⟩ dX9_part_6 ?_
  refine lv_iload_n hx hb dX9_part_9 rfl (lv_at hl 2 rfl) ?_
  refine rdS (As := [.int 2, .int 1]) S (c_X9_has_7 l D cI cZ cJ o q x2 lo_x2 hi_x2) ms_X9_has kw_7_192 ⟨rfl, rfl⟩ ⟨Nat.le_of_ble_eq_true rfl, Nat.le_of_ble_eq_true rfl⟩ hP hK hl.1 (Nat.le_of_ble_eq_true rfl) ⟨Nat.le_of_ble_eq_true rfl, Nat.le_of_ble_eq_true rfl⟩ dX9_part_10 ?_
  refine lv_if_ne (tgt := 18) hx hb dX9_part_13 (by decide) (fun _ => ?_) (fun c => absurd c (by decide))
  refine lv_iload_n hx hb dX9_part_18 rfl (lv_at hl 2 rfl) ?_
  refine lv_if_ne (tgt := 31) hx hb dX9_part_19 (by decide) (fun _ => ?_) (fun c => absurd c (by decide))
  refine lv_iload_n hx hb dX9_part_31 rfl (lv_at hl 2 rfl) ?_
  refine lv_iconst (v := 1) hx hb dX9_part_32 (by decide) ?_
  refine lv_icmp_ne (tgt := 45) hx hb dX9_part_33 (by decide) (fun c => absurd c (by decide)) (fun _ => ?_)
  refine lv_aload_n hx hb dX9_part_36 rfl (lv_at hl 0 rfl) ?_
  refine xg (ci := 9) S inX9 rfl hK hP (q0 := 0) rfl 16 (by decide) mF_16 kw_6_164 rfl dX9_part_37 ?_
  refine lv_iload_n hx hb dX9_part_40 rfl (lv_at hl 1 rfl) ?_
  refine xiald (t0 := 0) (v := (-1)) S hK hP (q0 := 14) rfl rfl (vin rfl) rfl dX9_part_41 ?_
  refine lv_goto (tgt := 51) hx hb dX9_part_42 (by decide) ?_
  exact rdEnd S hr hlocks dX9_part_51 rfl

set_option maxHeartbeats 8000000 in
set_option maxRecDepth 100000 in
theorem c_X9_has_8 (l : Launch) (D : va_G) (cI cZ cJ : ClassId) (o : Nat) (q : Nat → Nat) (x2 : Int32) (lo_x2 : 0 ≤ x2) (hi_x2 : x2 ≤ 15) : Met l yX9_has (uW yX9_has cX9_has 2 (some .boolean)) ({ frames := 0, cells := 0, slots := 0, locals := 0 }) (va_Pc [.int 2, .int 2] (pS D (tyL cI cZ cJ) (((((((mW o 0 q cI cZ).set 12 ((q 11), .inl (cI, 110, .inl (upd (fun _ => 0) (0 : Int32).toNatClampNeg 8)))).set 13 ((q 12), .inl (cI, 110, .inl (upd (fun _ => 0) (0 : Int32).toNatClampNeg x2)))).set 14 ((q 13), .inl (cI, 110, .inl (upd (fun _ => 0) (0 : Int32).toNatClampNeg (-1))))).set 15 ((q 14), .inl (cI, 110, .inl (upd (fun _ => 0) (0 : Int32).toNatClampNeg 0)))).set 16 ((q 15), .inl (cI, 110, .inl (upd (fun _ => 0) (0 : Int32).toNatClampNeg (-1))))).set 17 ((q 16), .inl (cI, 110, .inl (upd (fun _ => 0) (0 : Int32).toNatClampNeg (-1))))))) (QcRead (0)) 0 0 (fun _ => False) := by
  refine rdStart (lv := [(0, .int 2), (1, .int 2)]) (by decide) (Nat.le_of_ble_eq_true rfl) rfl ?_
  intro p e s m args below meth c ls S hr hlocks hl hP hK
  have hx := S.1
  have hb := S.2.1
  refine lv_iload_n hx hb dX9_has_0 rfl (lv_at hl 0 rfl) ?_
  refine lv_iload_n hx hb dX9_has_1 rfl (lv_at hl 1 rfl) ?_
  refine xishr (v := 0) S dX9_has_2 (by decide) ?_
  refine lv_iconst (v := 1) hx hb dX9_has_3 (by decide) ?_
  refine xiand (v := 0) S dX9_has_4 (by decide) ?_
  refine lv_iconst (v := 1) hx hb dX9_has_5 (by decide) ?_
  refine lv_icmp_ne (tgt := 13) hx hb dX9_has_6 (by decide) (fun _ => ?_) (fun c => absurd c (by decide))
  refine lv_iconst (v := 0) hx hb dX9_has_13 (by decide) ?_
  exact rdEndZ S hr hlocks dX9_has_14 rfl rfl

set_option maxHeartbeats 8000000 in
set_option maxRecDepth 100000 in
theorem c_X9_part_8 (l : Launch) (D : va_G) (cI cZ cJ : ClassId) (o : Nat) (q : Nat → Nat) (x2 : Int32) (lo_x2 : 0 ≤ x2) (hi_x2 : x2 ≤ 15) : Met l yX9_part (uW yX9_part cX9_part 3 (some .int)) ({ frames := 1, cells := 0, slots := 0, locals := 21 }) (va_Pc [.ref o, .int 0, .int 2] (pS D (tyL cI cZ cJ) (((((((mW o 0 q cI cZ).set 12 ((q 11), .inl (cI, 110, .inl (upd (fun _ => 0) (0 : Int32).toNatClampNeg 8)))).set 13 ((q 12), .inl (cI, 110, .inl (upd (fun _ => 0) (0 : Int32).toNatClampNeg x2)))).set 14 ((q 13), .inl (cI, 110, .inl (upd (fun _ => 0) (0 : Int32).toNatClampNeg (-1))))).set 15 ((q 14), .inl (cI, 110, .inl (upd (fun _ => 0) (0 : Int32).toNatClampNeg 0)))).set 16 ((q 15), .inl (cI, 110, .inl (upd (fun _ => 0) (0 : Int32).toNatClampNeg (-1))))).set 17 ((q 16), .inl (cI, 110, .inl (upd (fun _ => 0) (0 : Int32).toNatClampNeg (-1))))))) (QcRead ((-1))) 0 0 (fun _ => False) := by
  refine rdStart (lv := [(0, .ref o), (1, .int 0), (2, .int 2)]) (by decide) (Nat.le_of_ble_eq_true rfl) rfl ?_
  intro p e s m args below meth c ls S hr hlocks hl hP hK
  have hx := S.1
  have hb := S.2.1
  refine lv_aload_n hx hb dX9_part_0 rfl (lv_at hl 0 rfl) ?_
  refine xg (ci := 9) S inX9 rfl hK hP (q0 := 0) rfl 14 (by decide) mF_14 kw_6_162 rfl dX9_part_1 ?_
  refine lv_iload_n hx hb dX9_part_4 rfl (lv_at hl 1 rfl) ?_
  refine xiald (t0 := 0) (v := 8) S hK hP (q0 := 12) rfl rfl (vin rfl) rfl dX9_part_5 ?_
  refine rdS (As := [.int 8]) S (c_X9_parts_2 l D cI cZ cJ o q x2 lo_x2 hi_x2) ms_X9_parts kw_7_189 ⟨rfl, rfl⟩ ⟨Nat.le_of_ble_eq_true rfl, Nat.le_of_ble_eq_true rfl⟩ hP hK hl.1 (Nat.le_of_ble_eq_true rfl) ⟨Nat.le_of_ble_eq_true rfl, Nat.le_of_ble_eq_true rfl⟩ dX9_part_6 ?_
  refine lv_iload_n hx hb dX9_part_9 rfl (lv_at hl 2 rfl) ?_
  refine rdS (As := [.int 2, .int 2]) S (c_X9_has_8 l D cI cZ cJ o q x2 lo_x2 hi_x2) ms_X9_has kw_7_192 ⟨rfl, rfl⟩ ⟨Nat.le_of_ble_eq_true rfl, Nat.le_of_ble_eq_true rfl⟩ hP hK hl.1 (Nat.le_of_ble_eq_true rfl) ⟨Nat.le_of_ble_eq_true rfl, Nat.le_of_ble_eq_true rfl⟩ dX9_part_10 ?_
  refine lv_if_ne (tgt := 18) hx hb dX9_part_13 (by decide) (fun c => absurd c (by decide)) (fun _ => ?_)
  refine lv_iconst (v := (-1)) hx hb dX9_part_16 (by decide) ?_
  exact rdEnd S hr hlocks dX9_part_17 rfl

set_option maxHeartbeats 8000000 in
set_option maxRecDepth 100000 in
theorem c_X9_node_18 (l : Launch) (D : va_G) (cI cZ cJ : ClassId) (o : Nat) (q : Nat → Nat) (sz : Nat) (x2 : Int32) (lo_x2 : 0 ≤ x2) (hi_x2 : x2 ≤ 15) : Met l yX9_node (uW yX9_node cX9_node 6 (some .int)) ({ frames := 3, cells := 0, slots := 0, locals := 66 }) (va_Pc [.ref o, .int 8, .int x2, .int (-1), .int 0] (wS D (tyL cI cZ cJ) (mW o 0 q cI cZ) sz)) (wQi (0) D ((((((((mW o 0 q cI cZ).set 0 (o, .inr (9, ((mF 0 q).set 13 (.int 1))))).set 12 ((q 11), .inl (cI, 110, .inl (upd (fun _ => 0) (0 : Int32).toNatClampNeg 8)))).set 13 ((q 12), .inl (cI, 110, .inl (upd (fun _ => 0) (0 : Int32).toNatClampNeg x2)))).set 14 ((q 13), .inl (cI, 110, .inl (upd (fun _ => 0) (0 : Int32).toNatClampNeg (-1))))).set 15 ((q 14), .inl (cI, 110, .inl (upd (fun _ => 0) (0 : Int32).toNatClampNeg 0)))).set 16 ((q 15), .inl (cI, 110, .inl (upd (fun _ => 0) (0 : Int32).toNatClampNeg (-1))))).set 17 ((q 16), .inl (cI, 110, .inl (upd (fun _ => 0) (0 : Int32).toNatClampNeg (-1))))) (va_A (mW o 0 q cI cZ) sz)) 0 0 (va_A (mW o 0 q cI cZ) sz) := by
  refine wStart (lv := [(0, .ref o), (1, .int 8), (2, .int x2), (3, .int (-1)), (4, .int 0)]) (Qc := fun A => wQi (0) D ((((((((mW o 0 q cI cZ).set 0 (o, .inr (9, ((mF 0 q).set 13 (.int 1))))).set 12 ((q 11), .inl (cI, 110, .inl (upd (fun _ => 0) (0 : Int32).toNatClampNeg 8)))).set 13 ((q 12), .inl (cI, 110, .inl (upd (fun _ => 0) (0 : Int32).toNatClampNeg x2)))).set 14 ((q 13), .inl (cI, 110, .inl (upd (fun _ => 0) (0 : Int32).toNatClampNeg (-1))))).set 15 ((q 14), .inl (cI, 110, .inl (upd (fun _ => 0) (0 : Int32).toNatClampNeg 0)))).set 16 ((q 15), .inl (cI, 110, .inl (upd (fun _ => 0) (0 : Int32).toNatClampNeg (-1))))).set 17 ((q 16), .inl (cI, 110, .inl (upd (fun _ => 0) (0 : Int32).toNatClampNeg (-1))))) A) (by decide) (Nat.le_of_ble_eq_true rfl) rfl ?_
  intro p e s m args below meth c ls A H S hr hlocks hnm hl hK hP hD hS hA
  have hx := S.1
  have hb := S.2.1
  refine lv_aload_n hx hb dX9_node_0 rfl (lv_at hl 0 rfl) ?_
  refine lv_iconst (v := 0) hx hb dX9_node_1 (by decide) ?_
  refine xp (ci := 9) (v := .int 0) S inX9 tyX9 tyX9_ok nmX9 rfl hK hP hD hS mW_0 0 (by decide) kw_6_148 rfl rfl rfl rfl (Nat.le_of_ble_eq_true rfl) dX9_node_2 (fun H locs hP hD hS => ?_)
  have hP : va_P D vwCl (mW o 0 q cI cZ) H := hP
  have hD : va_D A (mW o 0 q cI cZ) := hD
  refine lv_iload_n hx hb dX9_node_5 rfl (lv_at hl 1 rfl) ?_
  refine lv_iconst (v := 0) hx hb dX9_node_6 (by decide) ?_
  refine lv_bipush (v := 21) hx hb dX9_node_7 (by decide) ?_
  refine rdS (As := [.int 8, .int 0, .int 21]) S (c_X9_isIn_46 l D cI cZ cJ o q) ms_X9_isIn kw_7_101 ⟨rfl, rfl⟩ ⟨Nat.le_of_ble_eq_true rfl, Nat.le_of_ble_eq_true rfl⟩ hP hK hl.1 (Nat.le_of_ble_eq_true rfl) ⟨Nat.le_of_ble_eq_true rfl, Nat.le_of_ble_eq_true rfl⟩ dX9_node_9 ?_
  refine lv_if_eq (tgt := 27) hx hb dX9_node_12 (by decide) (fun c => absurd c (by decide)) (fun _ => ?_)
  refine lv_aload_n hx hb dX9_node_15 rfl (lv_at hl 0 rfl) ?_
  refine lv_iload_n hx hb dX9_node_16 rfl (lv_at hl 1 rfl) ?_
  refine lv_iload_n hx hb dX9_node_17 rfl (lv_at hl 2 rfl) ?_
  refine lv_iload_n hx hb dX9_node_18 rfl (lv_at hl 3 rfl) ?_
  refine lv_iload hx hb dX9_node_19 (lv_at hl 4 rfl) ?_
  refine rdV (As := [.int 8, .int x2, .int (-1), .int 0]) (ci := 9) S (c_X9_canBe_18 l D cI cZ cJ o q x2 lo_x2 hi_x2) mi_X9_canBe kw_7_155 ⟨rfl, rfl⟩ ⟨Nat.le_of_ble_eq_true rfl, Nat.le_of_ble_eq_true rfl⟩ hP hK mW_0 rfl rfl hl.1 (Nat.le_of_ble_eq_true rfl) ⟨Nat.le_of_ble_eq_true rfl, Nat.le_of_ble_eq_true rfl⟩ dX9_node_21 ?_
  refine lv_if_ne (tgt := 33) hx hb dX9_node_24 (by decide) (fun _ => ?_) (fun c => absurd c (by decide))
  refine lv_aload_n hx hb dX9_node_33 rfl (lv_at hl 0 rfl) ?_
  refine xg (ci := 9) S inX9 rfl hK hP mW_0 13 (by decide) mF_13 kw_6_161 rfl dX9_node_34 ?_
  refine lv_bipush (v := 110) hx hb dX9_node_37 (by decide) ?_
  refine lv_icmp_ne (tgt := 48) hx hb dX9_node_39 (by decide) (fun _ => ?_) (fun c => absurd c (by decide))
  refine lv_aload_n hx hb dX9_node_48 rfl (lv_at hl 0 rfl) ?_
  refine xg (ci := 9) S inX9 rfl hK hP mW_0 14 (by decide) mF_14 kw_6_162 rfl dX9_node_49 ?_
  refine lv_aload_n hx hb dX9_node_52 rfl (lv_at hl 0 rfl) ?_
  refine xg (ci := 9) S inX9 rfl hK hP mW_0 13 (by decide) mF_13 kw_6_161 rfl dX9_node_53 ?_
  refine lv_iload_n hx hb dX9_node_56 rfl (lv_at hl 1 rfl) ?_
  refine xiast (t0 := 0) S hK hP hD hS mW_12 rfl (vin rfl) dX9_node_57 (fun H locs hP hD hS => ?_)
  have hP : va_P D vwCl ((mW o 0 q cI cZ).set 12 ((q 11), .inl (cI, 110, .inl (upd (fun _ => 0) (0 : Int32).toNatClampNeg 8)))) H := hP
  have hD : va_D A ((mW o 0 q cI cZ).set 12 ((q 11), .inl (cI, 110, .inl (upd (fun _ => 0) (0 : Int32).toNatClampNeg 8)))) := hD
  refine lv_aload_n hx hb dX9_node_58 rfl (lv_at hl 0 rfl) ?_
  refine xg (ci := 9) S inX9 rfl hK hP (q0 := 0) rfl 15 (by decide) mF_15 kw_6_163 rfl dX9_node_59 ?_
  refine lv_aload_n hx hb dX9_node_62 rfl (lv_at hl 0 rfl) ?_
  refine xg (ci := 9) S inX9 rfl hK hP (q0 := 0) rfl 13 (by decide) mF_13 kw_6_161 rfl dX9_node_63 ?_
  refine lv_iload_n hx hb dX9_node_66 rfl (lv_at hl 2 rfl) ?_
  refine xiast (t0 := 0) S hK hP hD hS (q0 := 13) rfl rfl (vin rfl) dX9_node_67 (fun H locs hP hD hS => ?_)
  have hP : va_P D vwCl (((mW o 0 q cI cZ).set 12 ((q 11), .inl (cI, 110, .inl (upd (fun _ => 0) (0 : Int32).toNatClampNeg 8)))).set 13 ((q 12), .inl (cI, 110, .inl (upd (fun _ => 0) (0 : Int32).toNatClampNeg x2)))) H := hP
  have hD : va_D A (((mW o 0 q cI cZ).set 12 ((q 11), .inl (cI, 110, .inl (upd (fun _ => 0) (0 : Int32).toNatClampNeg 8)))).set 13 ((q 12), .inl (cI, 110, .inl (upd (fun _ => 0) (0 : Int32).toNatClampNeg x2)))) := hD
  refine lv_aload_n hx hb dX9_node_68 rfl (lv_at hl 0 rfl) ?_
  refine xg (ci := 9) S inX9 rfl hK hP (q0 := 0) rfl 16 (by decide) mF_16 kw_6_164 rfl dX9_node_69 ?_
  refine lv_aload_n hx hb dX9_node_72 rfl (lv_at hl 0 rfl) ?_
  refine xg (ci := 9) S inX9 rfl hK hP (q0 := 0) rfl 13 (by decide) mF_13 kw_6_161 rfl dX9_node_73 ?_
  refine lv_iload_n hx hb dX9_node_76 rfl (lv_at hl 3 rfl) ?_
  refine xiast (t0 := 0) S hK hP hD hS (q0 := 14) rfl rfl (vin rfl) dX9_node_77 (fun H locs hP hD hS => ?_)
  have hP : va_P D vwCl ((((mW o 0 q cI cZ).set 12 ((q 11), .inl (cI, 110, .inl (upd (fun _ => 0) (0 : Int32).toNatClampNeg 8)))).set 13 ((q 12), .inl (cI, 110, .inl (upd (fun _ => 0) (0 : Int32).toNatClampNeg x2)))).set 14 ((q 13), .inl (cI, 110, .inl (upd (fun _ => 0) (0 : Int32).toNatClampNeg (-1))))) H := hP
  have hD : va_D A ((((mW o 0 q cI cZ).set 12 ((q 11), .inl (cI, 110, .inl (upd (fun _ => 0) (0 : Int32).toNatClampNeg 8)))).set 13 ((q 12), .inl (cI, 110, .inl (upd (fun _ => 0) (0 : Int32).toNatClampNeg x2)))).set 14 ((q 13), .inl (cI, 110, .inl (upd (fun _ => 0) (0 : Int32).toNatClampNeg (-1))))) := hD
  refine lv_aload_n hx hb dX9_node_78 rfl (lv_at hl 0 rfl) ?_
  refine xg (ci := 9) S inX9 rfl hK hP (q0 := 0) rfl 17 (by decide) mF_17 kw_6_165 rfl dX9_node_79 ?_
  refine lv_aload_n hx hb dX9_node_82 rfl (lv_at hl 0 rfl) ?_
  refine xg (ci := 9) S inX9 rfl hK hP (q0 := 0) rfl 13 (by decide) mF_13 kw_6_161 rfl dX9_node_83 ?_
  refine lv_iload hx hb dX9_node_86 (lv_at hl 4 rfl) ?_
  refine xiast (t0 := 0) S hK hP hD hS (q0 := 15) rfl rfl (vin rfl) dX9_node_88 (fun H locs hP hD hS => ?_)
  have hP : va_P D vwCl (((((mW o 0 q cI cZ).set 12 ((q 11), .inl (cI, 110, .inl (upd (fun _ => 0) (0 : Int32).toNatClampNeg 8)))).set 13 ((q 12), .inl (cI, 110, .inl (upd (fun _ => 0) (0 : Int32).toNatClampNeg x2)))).set 14 ((q 13), .inl (cI, 110, .inl (upd (fun _ => 0) (0 : Int32).toNatClampNeg (-1))))).set 15 ((q 14), .inl (cI, 110, .inl (upd (fun _ => 0) (0 : Int32).toNatClampNeg 0)))) H := hP
  have hD : va_D A (((((mW o 0 q cI cZ).set 12 ((q 11), .inl (cI, 110, .inl (upd (fun _ => 0) (0 : Int32).toNatClampNeg 8)))).set 13 ((q 12), .inl (cI, 110, .inl (upd (fun _ => 0) (0 : Int32).toNatClampNeg x2)))).set 14 ((q 13), .inl (cI, 110, .inl (upd (fun _ => 0) (0 : Int32).toNatClampNeg (-1))))).set 15 ((q 14), .inl (cI, 110, .inl (upd (fun _ => 0) (0 : Int32).toNatClampNeg 0)))) := hD
  refine lv_aload_n hx hb dX9_node_89 rfl (lv_at hl 0 rfl) ?_
  refine xg (ci := 9) S inX9 rfl hK hP (q0 := 0) rfl 18 (by decide) mF_18 kw_6_166 rfl dX9_node_90 ?_
  refine lv_aload_n hx hb dX9_node_93 rfl (lv_at hl 0 rfl) ?_
  refine xg (ci := 9) S inX9 rfl hK hP (q0 := 0) rfl 13 (by decide) mF_13 kw_6_161 rfl dX9_node_94 ?_
  refine lv_iconst (v := (-1)) hx hb dX9_node_97 (by decide) ?_
  refine xiast (t0 := 0) S hK hP hD hS (q0 := 16) rfl rfl (vin rfl) dX9_node_98 (fun H locs hP hD hS => ?_)
  have hP : va_P D vwCl ((((((mW o 0 q cI cZ).set 12 ((q 11), .inl (cI, 110, .inl (upd (fun _ => 0) (0 : Int32).toNatClampNeg 8)))).set 13 ((q 12), .inl (cI, 110, .inl (upd (fun _ => 0) (0 : Int32).toNatClampNeg x2)))).set 14 ((q 13), .inl (cI, 110, .inl (upd (fun _ => 0) (0 : Int32).toNatClampNeg (-1))))).set 15 ((q 14), .inl (cI, 110, .inl (upd (fun _ => 0) (0 : Int32).toNatClampNeg 0)))).set 16 ((q 15), .inl (cI, 110, .inl (upd (fun _ => 0) (0 : Int32).toNatClampNeg (-1))))) H := hP
  have hD : va_D A ((((((mW o 0 q cI cZ).set 12 ((q 11), .inl (cI, 110, .inl (upd (fun _ => 0) (0 : Int32).toNatClampNeg 8)))).set 13 ((q 12), .inl (cI, 110, .inl (upd (fun _ => 0) (0 : Int32).toNatClampNeg x2)))).set 14 ((q 13), .inl (cI, 110, .inl (upd (fun _ => 0) (0 : Int32).toNatClampNeg (-1))))).set 15 ((q 14), .inl (cI, 110, .inl (upd (fun _ => 0) (0 : Int32).toNatClampNeg 0)))).set 16 ((q 15), .inl (cI, 110, .inl (upd (fun _ => 0) (0 : Int32).toNatClampNeg (-1))))) := hD
  refine lv_aload_n hx hb dX9_node_99 rfl (lv_at hl 0 rfl) ?_
  refine xg (ci := 9) S inX9 rfl hK hP (q0 := 0) rfl 19 (by decide) mF_19 kw_6_167 rfl dX9_node_100 ?_
  refine lv_aload_n hx hb dX9_node_103 rfl (lv_at hl 0 rfl) ?_
  refine xg (ci := 9) S inX9 rfl hK hP (q0 := 0) rfl 13 (by decide) mF_13 kw_6_161 rfl dX9_node_104 ?_
  refine lv_iconst (v := (-1)) hx hb dX9_node_107 (by decide) ?_
  refine xiast (t0 := 0) S hK hP hD hS (q0 := 17) rfl rfl (vin rfl) dX9_node_108 (fun H locs hP hD hS => ?_)
  have hP : va_P D vwCl (((((((mW o 0 q cI cZ).set 12 ((q 11), .inl (cI, 110, .inl (upd (fun _ => 0) (0 : Int32).toNatClampNeg 8)))).set 13 ((q 12), .inl (cI, 110, .inl (upd (fun _ => 0) (0 : Int32).toNatClampNeg x2)))).set 14 ((q 13), .inl (cI, 110, .inl (upd (fun _ => 0) (0 : Int32).toNatClampNeg (-1))))).set 15 ((q 14), .inl (cI, 110, .inl (upd (fun _ => 0) (0 : Int32).toNatClampNeg 0)))).set 16 ((q 15), .inl (cI, 110, .inl (upd (fun _ => 0) (0 : Int32).toNatClampNeg (-1))))).set 17 ((q 16), .inl (cI, 110, .inl (upd (fun _ => 0) (0 : Int32).toNatClampNeg (-1))))) H := hP
  have hD : va_D A (((((((mW o 0 q cI cZ).set 12 ((q 11), .inl (cI, 110, .inl (upd (fun _ => 0) (0 : Int32).toNatClampNeg 8)))).set 13 ((q 12), .inl (cI, 110, .inl (upd (fun _ => 0) (0 : Int32).toNatClampNeg x2)))).set 14 ((q 13), .inl (cI, 110, .inl (upd (fun _ => 0) (0 : Int32).toNatClampNeg (-1))))).set 15 ((q 14), .inl (cI, 110, .inl (upd (fun _ => 0) (0 : Int32).toNatClampNeg 0)))).set 16 ((q 15), .inl (cI, 110, .inl (upd (fun _ => 0) (0 : Int32).toNatClampNeg (-1))))).set 17 ((q 16), .inl (cI, 110, .inl (upd (fun _ => 0) (0 : Int32).toNatClampNeg (-1))))) := hD
  refine lv_iconst (v := 0) hx hb dX9_node_109 (by decide) ?_
  refine lv_istore (lv' := [(5, .int 0), (0, .ref o), (1, .int 8), (2, .int x2), (3, .int (-1)), (4, .int 0)]) hx hb dX9_node_110 hl (by decide) rfl (fun ls hl => ?_)
  refine lv_iload hx hb dX9_node_112 (lv_at hl 0 rfl) ?_
  refine lv_iconst (v := 3) hx hb dX9_node_114 (by decide) ?_
  refine lv_icmp_ge (tgt := 157) hx hb dX9_node_115 (by decide) (fun c => absurd c (by decide)) (fun _ => ?_)
  refine lv_aload_n hx hb dX9_node_118 rfl (lv_at hl 1 rfl) ?_
  refine lv_aload_n hx hb dX9_node_119 rfl (lv_at hl 1 rfl) ?_
  refine xg (ci := 9) S inX9 rfl hK hP (q0 := 0) rfl 13 (by decide) mF_13 kw_6_161 rfl dX9_node_120 ?_
  refine lv_iload hx hb dX9_node_123 (lv_at hl 0 rfl) ?_
  refine rdV (As := [.int 0, .int 0]) (ci := 9) S (c_X9_part_6 l D cI cZ cJ o q x2 lo_x2 hi_x2) mi_X9_part kw_7_185 ⟨rfl, rfl⟩ ⟨Nat.le_of_ble_eq_true rfl, Nat.le_of_ble_eq_true rfl⟩ hP hK (k := 0) rfl rfl rfl hl.1 (Nat.le_of_ble_eq_true rfl) ⟨Nat.le_of_ble_eq_true rfl, Nat.le_of_ble_eq_true rfl⟩ dX9_node_125 ?_
  refine lv_iconst (v := (-1)) hx hb dX9_node_128 (by decide) ?_
  refine lv_icmp_eq (tgt := 151) hx hb dX9_node_129 (by decide) (fun _ => ?_) (fun c => absurd c (by decide))
  refine lv_iinc (v := 1) (lv' := [(5, .int 1), (0, .ref o), (1, .int 8), (2, .int x2), (3, .int (-1)), (4, .int 0)]) hx hb dX9_node_151 hl (k := 0) rfl (by decide) (by decide) rfl (fun ls hl => ?_)
  refine lv_goto (tgt := 112) hx hb dX9_node_154 (by decide) ?_
  refine lv_iload hx hb dX9_node_112 (lv_at hl 0 rfl) ?_
  refine lv_iconst (v := 3) hx hb dX9_node_114 (by decide) ?_
  refine lv_icmp_ge (tgt := 157) hx hb dX9_node_115 (by decide) (fun c => absurd c (by decide)) (fun _ => ?_)
  refine lv_aload_n hx hb dX9_node_118 rfl (lv_at hl 1 rfl) ?_
  refine lv_aload_n hx hb dX9_node_119 rfl (lv_at hl 1 rfl) ?_
  refine xg (ci := 9) S inX9 rfl hK hP (q0 := 0) rfl 13 (by decide) mF_13 kw_6_161 rfl dX9_node_120 ?_
  refine lv_iload hx hb dX9_node_123 (lv_at hl 0 rfl) ?_
  refine rdV (As := [.int 0, .int 1]) (ci := 9) S (c_X9_part_7 l D cI cZ cJ o q x2 lo_x2 hi_x2) mi_X9_part kw_7_185 ⟨rfl, rfl⟩ ⟨Nat.le_of_ble_eq_true rfl, Nat.le_of_ble_eq_true rfl⟩ hP hK (k := 0) rfl rfl rfl hl.1 (Nat.le_of_ble_eq_true rfl) ⟨Nat.le_of_ble_eq_true rfl, Nat.le_of_ble_eq_true rfl⟩ dX9_node_125 ?_
  refine lv_iconst (v := (-1)) hx hb dX9_node_128 (by decide) ?_
  refine lv_icmp_eq (tgt := 151) hx hb dX9_node_129 (by decide) (fun _ => ?_) (fun c => absurd c (by decide))
  refine lv_iinc (v := 2) (lv' := [(5, .int 2), (0, .ref o), (1, .int 8), (2, .int x2), (3, .int (-1)), (4, .int 0)]) hx hb dX9_node_151 hl (k := 0) rfl (by decide) (by decide) rfl (fun ls hl => ?_)
  refine lv_goto (tgt := 112) hx hb dX9_node_154 (by decide) ?_
  refine lv_iload hx hb dX9_node_112 (lv_at hl 0 rfl) ?_
  refine lv_iconst (v := 3) hx hb dX9_node_114 (by decide) ?_
  refine lv_icmp_ge (tgt := 157) hx hb dX9_node_115 (by decide) (fun c => absurd c (by decide)) (fun _ => ?_)
  refine lv_aload_n hx hb dX9_node_118 rfl (lv_at hl 1 rfl) ?_
  refine lv_aload_n hx hb dX9_node_119 rfl (lv_at hl 1 rfl) ?_
  refine xg (ci := 9) S inX9 rfl hK hP (q0 := 0) rfl 13 (by decide) mF_13 kw_6_161 rfl dX9_node_120 ?_
  refine lv_iload hx hb dX9_node_123 (lv_at hl 0 rfl) ?_
  refine rdV (As := [.int 0, .int 2]) (ci := 9) S (c_X9_part_8 l D cI cZ cJ o q x2 lo_x2 hi_x2) mi_X9_part kw_7_185 ⟨rfl, rfl⟩ ⟨Nat.le_of_ble_eq_true rfl, Nat.le_of_ble_eq_true rfl⟩ hP hK (k := 0) rfl rfl rfl hl.1 (Nat.le_of_ble_eq_true rfl) ⟨Nat.le_of_ble_eq_true rfl, Nat.le_of_ble_eq_true rfl⟩ dX9_node_125 ?_
  refine lv_iconst (v := (-1)) hx hb dX9_node_128 (by decide) ?_
  refine lv_icmp_eq (tgt := 151) hx hb dX9_node_129 (by decide) (fun _ => ?_) (fun c => absurd c (by decide))
  refine lv_iinc (v := 3) (lv' := [(5, .int 3), (0, .ref o), (1, .int 8), (2, .int x2), (3, .int (-1)), (4, .int 0)]) hx hb dX9_node_151 hl (k := 0) rfl (by decide) (by decide) rfl (fun ls hl => ?_)
  refine lv_goto (tgt := 112) hx hb dX9_node_154 (by decide) ?_
  refine lv_iload hx hb dX9_node_112 (lv_at hl 0 rfl) ?_
  refine lv_iconst (v := 3) hx hb dX9_node_114 (by decide) ?_
  refine lv_icmp_ge (tgt := 157) hx hb dX9_node_115 (by decide) (fun _ => ?_) (fun c => absurd c (by decide))
  refine lv_aload_n hx hb dX9_node_157 rfl (lv_at hl 1 rfl) ?_
  refine lv_dup hx hb dX9_node_158 rfl ?_
  refine xg (ci := 9) S inX9 rfl hK hP (q0 := 0) rfl 13 (by decide) mF_13 kw_6_161 rfl dX9_node_159 ?_
  refine lv_dup_x1 hx hb dX9_node_162 rfl rfl ?_
  refine lv_iconst (v := 1) hx hb dX9_node_163 (by decide) ?_
  refine xiadd (v := 1) S dX9_node_164 (by decide) ?_
  refine xp (ci := 9) (v := .int 1) S inX9 tyX9 tyX9_ok nmX9 rfl hK hP hD hS (q0 := 0) rfl 13 (by decide) kw_6_161 rfl rfl rfl rfl (Nat.le_of_ble_eq_true rfl) dX9_node_165 (fun H locs hP hD hS => ?_)
  have hP : va_P D vwCl ((((((((mW o 0 q cI cZ).set 0 (o, .inr (9, ((mF 0 q).set 13 (.int 1))))).set 12 ((q 11), .inl (cI, 110, .inl (upd (fun _ => 0) (0 : Int32).toNatClampNeg 8)))).set 13 ((q 12), .inl (cI, 110, .inl (upd (fun _ => 0) (0 : Int32).toNatClampNeg x2)))).set 14 ((q 13), .inl (cI, 110, .inl (upd (fun _ => 0) (0 : Int32).toNatClampNeg (-1))))).set 15 ((q 14), .inl (cI, 110, .inl (upd (fun _ => 0) (0 : Int32).toNatClampNeg 0)))).set 16 ((q 15), .inl (cI, 110, .inl (upd (fun _ => 0) (0 : Int32).toNatClampNeg (-1))))).set 17 ((q 16), .inl (cI, 110, .inl (upd (fun _ => 0) (0 : Int32).toNatClampNeg (-1))))) H := hP
  have hD : va_D A ((((((((mW o 0 q cI cZ).set 0 (o, .inr (9, ((mF 0 q).set 13 (.int 1))))).set 12 ((q 11), .inl (cI, 110, .inl (upd (fun _ => 0) (0 : Int32).toNatClampNeg 8)))).set 13 ((q 12), .inl (cI, 110, .inl (upd (fun _ => 0) (0 : Int32).toNatClampNeg x2)))).set 14 ((q 13), .inl (cI, 110, .inl (upd (fun _ => 0) (0 : Int32).toNatClampNeg (-1))))).set 15 ((q 14), .inl (cI, 110, .inl (upd (fun _ => 0) (0 : Int32).toNatClampNeg 0)))).set 16 ((q 15), .inl (cI, 110, .inl (upd (fun _ => 0) (0 : Int32).toNatClampNeg (-1))))).set 17 ((q 16), .inl (cI, 110, .inl (upd (fun _ => 0) (0 : Int32).toNatClampNeg (-1))))) := hD
  exact wEnd S hr hlocks hP hD hS (Nat.le_of_ble_eq_true rfl) (Nat.le_of_ble_eq_true rfl) dX9_node_168 rfl

set_option maxHeartbeats 8000000 in
set_option maxRecDepth 100000 in
theorem c_X9_thrown_11 (l : Launch) (D : va_G) (cI cZ cJ : ClassId) (o : Nat) (q : Nat → Nat) (x2 : Int32) (lo_x2 : 0 ≤ x2) (hi_x2 : x2 ≤ 15) : Met l yX9_thrown (uW yX9_thrown cX9_thrown 1 (some .int)) ({ frames := 0, cells := 0, slots := 0, locals := 0 }) (va_Pc [.ref o] (pS D (tyL cI cZ cJ) ((((((((mW o 0 q cI cZ).set 0 (o, .inr (9, ((mF 0 q).set 13 (.int 1))))).set 12 ((q 11), .inl (cI, 110, .inl (upd (fun _ => 0) (0 : Int32).toNatClampNeg 8)))).set 13 ((q 12), .inl (cI, 110, .inl (upd (fun _ => 0) (0 : Int32).toNatClampNeg x2)))).set 14 ((q 13), .inl (cI, 110, .inl (upd (fun _ => 0) (0 : Int32).toNatClampNeg (-1))))).set 15 ((q 14), .inl (cI, 110, .inl (upd (fun _ => 0) (0 : Int32).toNatClampNeg 0)))).set 16 ((q 15), .inl (cI, 110, .inl (upd (fun _ => 0) (0 : Int32).toNatClampNeg (-1))))).set 17 ((q 16), .inl (cI, 110, .inl (upd (fun _ => 0) (0 : Int32).toNatClampNeg (-1))))))) (QcRead (0)) 0 0 (fun _ => False) := by
  refine rdStart (lv := [(0, .ref o)]) (by decide) (Nat.le_of_ble_eq_true rfl) rfl ?_
  intro p e s m args below meth c ls S hr hlocks hl hP hK
  have hx := S.1
  have hb := S.2.1
  refine lv_aload_n hx hb dX9_thrown_0 rfl (lv_at hl 0 rfl) ?_
  refine xg (ci := 9) S inX9 rfl hK hP (q0 := 0) rfl 0 (by decide) rfl kw_6_148 rfl dX9_thrown_1 ?_
  exact rdEnd S hr hlocks dX9_thrown_4 rfl

set_option maxHeartbeats 8000000 in
set_option maxRecDepth 100000 in
theorem h_node_19 (l : Launch) (D : va_G) (cI cZ cJ : ClassId) (o : Nat) (u : Nat → Nat) (ao : Nat) (hst : l.stackTraces = false) (ra ga : Nat → Nat) (sz : Nat) (x2 : Int32) (x4 : Int32) (lo_x2 : 0 ≤ x2) (hi_x2 : x2 ≤ 15) (ne_x4_0 : ¬ x4 = 0) : vx_Met l yL_node (uWh yL_node cL_node 7 (some .int) [(0, 14, 17, 15), (0, 14, 21, 17)]) ({ frames := 8, cells := 1, slots := 6, locals := 126 }) (va_Pc [.ref o, .int 8, .int x2, .int (-1), .int x4, .ref ao] (lS ra ga D (tyL cI cZ cJ) ((xW o u cI cZ cJ) ++ [(ao, .inl (cJ, 1, .inr (.inl (fun _ => 0))))]) sz)) (wQi (1) D ((xW o u cI cZ cJ) ++ [(ao, .inl (cJ, 1, .inr (.inl (fun _ => 0))))]) (va_A ((xW o u cI cZ cJ) ++ [(ao, .inl (cJ, 1, .inr (.inl (fun _ => 0))))]) sz)) (xN (va_A ((xW o u cI cZ cJ) ++ [(ao, .inl (cJ, 1, .inr (.inl (fun _ => 0))))]) sz)) 1 6 (va_A ((xW o u cI cZ cJ) ++ [(ao, .inl (cJ, 1, .inr (.inl (fun _ => 0))))]) sz) := by
  refine hStart (l := l) (y := yL_node) (b := cL_node) (n := 7) (r := (some .int)) (hh := [(0, 14, 17, 15), (0, 14, 21, 17)]) (rm := ({ frames := 8, cells := 1, slots := 6, locals := 126 })) (mc := 1) (ms := 6) (ra := ra) (ga := ga) (D := D) (tys := tyL cI cZ cJ) (ws := ((xW o u cI cZ cJ) ++ [(ao, .inl (cJ, 1, .inr (.inl (fun _ => 0))))])) (av := [.ref o, .int 8, .int x2, .int (-1), .int x4, .ref ao]) (sz := sz) (lv := [(0, .ref o), (1, .int 8), (2, .int x2), (3, .int (-1)), (4, .int x4), (5, .ref ao)]) (Qc := fun A => wQi (1) D ((xW o u cI cZ cJ) ++ [(ao, .inl (cJ, 1, .inr (.inl (fun _ => 0))))]) A) (by decide) (Nat.le_of_ble_eq_true rfl) rfl ?_
  intro p e s m args below meth c ls A H S hr hlocks htab hl hK hP hD hS hA hB hC
  have hx := S.1
  have hb := S.2.1
  refine lv_aload hx hb dL_node_0 (lv_at hl 5 rfl) ?_
  refine lv_iconst (v := 0) hx hb dL_node_2 (by decide) ?_
  refine lv_aload_n hx hb dL_node_3 rfl (lv_at hl 0 rfl) ?_
  refine lv_iload_n hx hb dL_node_4 rfl (lv_at hl 1 rfl) ?_
  refine lv_iload_n hx hb dL_node_5 rfl (lv_at hl 2 rfl) ?_
  refine lv_iload_n hx hb dL_node_6 rfl (lv_at hl 3 rfl) ?_
  refine lv_iload hx hb dL_node_7 (lv_at hl 4 rfl) ?_
  refine cVi [] [(ao, .inl (cJ, 1, .inr (.inl (fun _ => 0))))] (As := [.int 8, .int x2, .int (-1), .int x4]) (ci := 8) S (c_X8_node_19 l D cI cZ cJ o u hst ra ga H.size x2 x4 lo_x2 hi_x2 ne_x4_0) mi_X8_node kw_6_23 rfl rfl ⟨Nat.le_of_ble_eq_true rfl, Nat.le_of_ble_eq_true rfl⟩ hP hD hK hS hA hB xW_0 rfl rfl hl.1 (Nat.le_of_ble_eq_true rfl) ⟨Nat.le_of_ble_eq_true rfl, Nat.le_of_ble_eq_true rfl⟩ dL_node_9 (fun ce q9 H locs hz hP hD hS hce hcv hcl => ?_)
  refine vx_catch (name := "java/lang/IllegalArgumentException") S.2.2.2.1 [] (⟨0, 14, 17, 15⟩ : ExceptionTableEntry) [(⟨0, 14, 21, 17⟩ : ExceptionTableEntry)] (htab.trans rfl) (fun _ h => absurd h List.not_mem_nil) (by decide) (by decide) (S.2.2.2.2 _ kw_5_177) (va_Nw.use rfl hB.c1) hce hcv hcl ?_
  have hP : va_P D vwCl ((xW o u cI cZ cJ) ++ [(ao, .inl (cJ, 1, .inr (.inl (fun _ => 0))))]) H := hP
  have hD : va_D A ((xW o u cI cZ cJ) ++ [(ao, .inl (cJ, 1, .inr (.inl (fun _ => 0))))]) := hD
  refine lv_astore (lv' := [(6, .ref q9), (0, .ref o), (1, .int 8), (2, .int x2), (3, .int (-1)), (4, .int x4), (5, .ref ao)]) hx hb dL_node_17 hl (by decide) rfl (fun ls hl => ?_)
  refine lv_iconst (v := 1) hx hb dL_node_19 (by decide) ?_
  exact vx_ret (wEnd S hr hlocks hP hD hS (Nat.le_of_ble_eq_true rfl) (Nat.le_of_ble_eq_true rfl) dL_node_20 rfl)

set_option maxHeartbeats 8000000 in
set_option maxRecDepth 100000 in
theorem c_X9_canBe_19 (l : Launch) (D : va_G) (cI cZ cJ : ClassId) (o : Nat) (q : Nat → Nat) (x2 : Int32) (x4 : Int32) (lo_x2 : 0 ≤ x2) (hi_x2 : x2 ≤ 15) (ne_x4_0 : ¬ x4 = 0) : Met l yX9_canBe (uW yX9_canBe cX9_canBe 5 (some .boolean)) ({ frames := 2, cells := 0, slots := 0, locals := 42 }) (va_Pc [.ref o, .int 8, .int x2, .int (-1), .int x4] (pS D (tyL cI cZ cJ) (mW o 0 q cI cZ))) (QcRead (0)) 0 0 (fun _ => False) := by
  refine rdStart (lv := [(0, .ref o), (1, .int 8), (2, .int x2), (3, .int (-1)), (4, .int x4)]) (by decide) (Nat.le_of_ble_eq_true rfl) rfl ?_
  intro p e s m args below meth c ls S hr hlocks hl hP hK
  have hx := S.1
  have hb := S.2.1
  refine lv_iload_n hx hb dX9_canBe_0 rfl (lv_at hl 1 rfl) ?_
  refine lv_tableIn (off := 212) (tgt := 213) hx hb dX9_canBe_1 (by decide) (by decide) (by decide) (by decide) ?_
  refine lv_iload_n hx hb dX9_canBe_213 rfl (lv_at hl 2 rfl) ?_
  refine rdS (As := [.int x2]) S (c_X9_isName_2 l D cI cZ cJ o q x2 lo_x2 hi_x2) ms_X9_isName kw_7_108 ⟨rfl, rfl⟩ ⟨Nat.le_of_ble_eq_true rfl, Nat.le_of_ble_eq_true rfl⟩ hP hK hl.1 (Nat.le_of_ble_eq_true rfl) ⟨Nat.le_of_ble_eq_true rfl, Nat.le_of_ble_eq_true rfl⟩ dX9_canBe_214 ?_
  refine lv_if_eq (tgt := 237) hx hb dX9_canBe_217 (by decide) (fun c => absurd c (by decide)) (fun _ => ?_)
  refine lv_aload_n hx hb dX9_canBe_220 rfl (lv_at hl 0 rfl) ?_
  refine lv_iload_n hx hb dX9_canBe_221 rfl (lv_at hl 3 rfl) ?_
  refine rdV (As := [.int (-1)]) (ci := 9) S (c_X9_isArgument_0 l D cI cZ cJ o q) mi_X9_isArgument kw_7_174 ⟨rfl, rfl⟩ ⟨Nat.le_of_ble_eq_true rfl, Nat.le_of_ble_eq_true rfl⟩ hP hK mW_0 rfl rfl hl.1 (Nat.le_of_ble_eq_true rfl) ⟨Nat.le_of_ble_eq_true rfl, Nat.le_of_ble_eq_true rfl⟩ dX9_canBe_222 ?_
  refine lv_if_eq (tgt := 237) hx hb dX9_canBe_225 (by decide) (fun c => absurd c (by decide)) (fun _ => ?_)
  refine lv_iload hx hb dX9_canBe_228 (lv_at hl 4 rfl) ?_
  refine lv_if_ne (tgt := 237) hx hb dX9_canBe_230 (by decide) (fun _ => ?_) (fun c => absurd c ne_x4_0)
  refine lv_iconst (v := 0) hx hb dX9_canBe_237 (by decide) ?_
  exact rdEndZ S hr hlocks dX9_canBe_238 rfl rfl

set_option maxHeartbeats 8000000 in
set_option maxRecDepth 100000 in
theorem c_X9_node_19 (l : Launch) (D : va_G) (cI cZ cJ : ClassId) (o : Nat) (q : Nat → Nat) (sz : Nat) (x2 : Int32) (x4 : Int32) (lo_x2 : 0 ≤ x2) (hi_x2 : x2 ≤ 15) (ne_x4_0 : ¬ x4 = 0) : Met l yX9_node (uW yX9_node cX9_node 6 (some .int)) ({ frames := 3, cells := 0, slots := 0, locals := 66 }) (va_Pc [.ref o, .int 8, .int x2, .int (-1), .int x4] (wS D (tyL cI cZ cJ) (mW o 0 q cI cZ) sz)) (wQi (0) D (mW o 1 q cI cZ) (va_A (mW o 0 q cI cZ) sz)) 0 0 (va_A (mW o 0 q cI cZ) sz) := by
  refine wStart (lv := [(0, .ref o), (1, .int 8), (2, .int x2), (3, .int (-1)), (4, .int x4)]) (Qc := fun A => wQi (0) D (mW o 1 q cI cZ) A) (by decide) (Nat.le_of_ble_eq_true rfl) rfl ?_
  intro p e s m args below meth c ls A H S hr hlocks hnm hl hK hP hD hS hA
  have hx := S.1
  have hb := S.2.1
  refine lv_aload_n hx hb dX9_node_0 rfl (lv_at hl 0 rfl) ?_
  refine lv_iconst (v := 0) hx hb dX9_node_1 (by decide) ?_
  refine xp (ci := 9) (v := .int 0) S inX9 tyX9 tyX9_ok nmX9 rfl hK hP hD hS mW_0 0 (by decide) kw_6_148 rfl rfl rfl rfl (Nat.le_of_ble_eq_true rfl) dX9_node_2 (fun H locs hP hD hS => ?_)
  have hP : va_P D vwCl (mW o 0 q cI cZ) H := hP
  have hD : va_D A (mW o 0 q cI cZ) := hD
  refine lv_iload_n hx hb dX9_node_5 rfl (lv_at hl 1 rfl) ?_
  refine lv_iconst (v := 0) hx hb dX9_node_6 (by decide) ?_
  refine lv_bipush (v := 21) hx hb dX9_node_7 (by decide) ?_
  refine rdS (As := [.int 8, .int 0, .int 21]) S (c_X9_isIn_46 l D cI cZ cJ o q) ms_X9_isIn kw_7_101 ⟨rfl, rfl⟩ ⟨Nat.le_of_ble_eq_true rfl, Nat.le_of_ble_eq_true rfl⟩ hP hK hl.1 (Nat.le_of_ble_eq_true rfl) ⟨Nat.le_of_ble_eq_true rfl, Nat.le_of_ble_eq_true rfl⟩ dX9_node_9 ?_
  refine lv_if_eq (tgt := 27) hx hb dX9_node_12 (by decide) (fun c => absurd c (by decide)) (fun _ => ?_)
  refine lv_aload_n hx hb dX9_node_15 rfl (lv_at hl 0 rfl) ?_
  refine lv_iload_n hx hb dX9_node_16 rfl (lv_at hl 1 rfl) ?_
  refine lv_iload_n hx hb dX9_node_17 rfl (lv_at hl 2 rfl) ?_
  refine lv_iload_n hx hb dX9_node_18 rfl (lv_at hl 3 rfl) ?_
  refine lv_iload hx hb dX9_node_19 (lv_at hl 4 rfl) ?_
  refine rdV (As := [.int 8, .int x2, .int (-1), .int x4]) (ci := 9) S (c_X9_canBe_19 l D cI cZ cJ o q x2 x4 lo_x2 hi_x2 ne_x4_0) mi_X9_canBe kw_7_155 ⟨rfl, rfl⟩ ⟨Nat.le_of_ble_eq_true rfl, Nat.le_of_ble_eq_true rfl⟩ hP hK mW_0 rfl rfl hl.1 (Nat.le_of_ble_eq_true rfl) ⟨Nat.le_of_ble_eq_true rfl, Nat.le_of_ble_eq_true rfl⟩ dX9_node_21 ?_
  refine lv_if_ne (tgt := 33) hx hb dX9_node_24 (by decide) (fun c => absurd c (by decide)) (fun _ => ?_)
  refine lv_aload_n hx hb dX9_node_27 rfl (lv_at hl 0 rfl) ?_
  refine lv_iconst (v := 1) hx hb dX9_node_28 (by decide) ?_
  refine wrV (As := [.int 1]) (ci := 9) S (c_X9_no_0 l D cI cZ cJ o q H.size) mi_X9_no kw_7_104 rfl rfl ⟨Nat.le_of_ble_eq_true rfl, Nat.le_of_ble_eq_true rfl⟩ hP hD hK hS hA mW_0 rfl rfl hl.1 (Nat.le_of_ble_eq_true rfl) ⟨Nat.le_of_ble_eq_true rfl, Nat.le_of_ble_eq_true rfl⟩ dX9_node_29 (fun H locs hz hP hD hS => ?_)
  exact wEnd S hr hlocks hP hD hS (Nat.le_of_ble_eq_true rfl) (Nat.le_of_ble_eq_true rfl) dX9_node_32 rfl

set_option maxHeartbeats 8000000 in
set_option maxRecDepth 100000 in
theorem h_node_20 (l : Launch) (D : va_G) (cI cZ cJ : ClassId) (o : Nat) (u : Nat → Nat) (ao : Nat) (hst : l.stackTraces = false) (ra ga : Nat → Nat) (sz : Nat) (x2 : Int32) (x3 : Int32) (x4 : Int32) (lo_x2 : 0 ≤ x2) (hi_x2 : x2 ≤ 15) (ne_x3_m1 : ¬ x3 = (-1)) : vx_Met l yL_node (uWh yL_node cL_node 7 (some .int) [(0, 14, 17, 15), (0, 14, 21, 17)]) ({ frames := 8, cells := 1, slots := 6, locals := 126 }) (va_Pc [.ref o, .int 8, .int x2, .int x3, .int x4, .ref ao] (lS ra ga D (tyL cI cZ cJ) ((xW o u cI cZ cJ) ++ [(ao, .inl (cJ, 1, .inr (.inl (fun _ => 0))))]) sz)) (wQi (1) D ((xW o u cI cZ cJ) ++ [(ao, .inl (cJ, 1, .inr (.inl (fun _ => 0))))]) (va_A ((xW o u cI cZ cJ) ++ [(ao, .inl (cJ, 1, .inr (.inl (fun _ => 0))))]) sz)) (xN (va_A ((xW o u cI cZ cJ) ++ [(ao, .inl (cJ, 1, .inr (.inl (fun _ => 0))))]) sz)) 1 6 (va_A ((xW o u cI cZ cJ) ++ [(ao, .inl (cJ, 1, .inr (.inl (fun _ => 0))))]) sz) := by
  refine hStart (l := l) (y := yL_node) (b := cL_node) (n := 7) (r := (some .int)) (hh := [(0, 14, 17, 15), (0, 14, 21, 17)]) (rm := ({ frames := 8, cells := 1, slots := 6, locals := 126 })) (mc := 1) (ms := 6) (ra := ra) (ga := ga) (D := D) (tys := tyL cI cZ cJ) (ws := ((xW o u cI cZ cJ) ++ [(ao, .inl (cJ, 1, .inr (.inl (fun _ => 0))))])) (av := [.ref o, .int 8, .int x2, .int x3, .int x4, .ref ao]) (sz := sz) (lv := [(0, .ref o), (1, .int 8), (2, .int x2), (3, .int x3), (4, .int x4), (5, .ref ao)]) (Qc := fun A => wQi (1) D ((xW o u cI cZ cJ) ++ [(ao, .inl (cJ, 1, .inr (.inl (fun _ => 0))))]) A) (by decide) (Nat.le_of_ble_eq_true rfl) rfl ?_
  intro p e s m args below meth c ls A H S hr hlocks htab hl hK hP hD hS hA hB hC
  have hx := S.1
  have hb := S.2.1
  refine lv_aload hx hb dL_node_0 (lv_at hl 5 rfl) ?_
  refine lv_iconst (v := 0) hx hb dL_node_2 (by decide) ?_
  refine lv_aload_n hx hb dL_node_3 rfl (lv_at hl 0 rfl) ?_
  refine lv_iload_n hx hb dL_node_4 rfl (lv_at hl 1 rfl) ?_
  refine lv_iload_n hx hb dL_node_5 rfl (lv_at hl 2 rfl) ?_
  refine lv_iload_n hx hb dL_node_6 rfl (lv_at hl 3 rfl) ?_
  refine lv_iload hx hb dL_node_7 (lv_at hl 4 rfl) ?_
  refine cVi [] [(ao, .inl (cJ, 1, .inr (.inl (fun _ => 0))))] (As := [.int 8, .int x2, .int x3, .int x4]) (ci := 8) S (c_X8_node_20 l D cI cZ cJ o u hst ra ga H.size x2 x3 x4 lo_x2 hi_x2 ne_x3_m1) mi_X8_node kw_6_23 rfl rfl ⟨Nat.le_of_ble_eq_true rfl, Nat.le_of_ble_eq_true rfl⟩ hP hD hK hS hA hB xW_0 rfl rfl hl.1 (Nat.le_of_ble_eq_true rfl) ⟨Nat.le_of_ble_eq_true rfl, Nat.le_of_ble_eq_true rfl⟩ dL_node_9 (fun ce q9 H locs hz hP hD hS hce hcv hcl => ?_)
  refine vx_catch (name := "java/lang/IllegalArgumentException") S.2.2.2.1 [] (⟨0, 14, 17, 15⟩ : ExceptionTableEntry) [(⟨0, 14, 21, 17⟩ : ExceptionTableEntry)] (htab.trans rfl) (fun _ h => absurd h List.not_mem_nil) (by decide) (by decide) (S.2.2.2.2 _ kw_5_177) (va_Nw.use rfl hB.c1) hce hcv hcl ?_
  have hP : va_P D vwCl ((xW o u cI cZ cJ) ++ [(ao, .inl (cJ, 1, .inr (.inl (fun _ => 0))))]) H := hP
  have hD : va_D A ((xW o u cI cZ cJ) ++ [(ao, .inl (cJ, 1, .inr (.inl (fun _ => 0))))]) := hD
  refine lv_astore (lv' := [(6, .ref q9), (0, .ref o), (1, .int 8), (2, .int x2), (3, .int x3), (4, .int x4), (5, .ref ao)]) hx hb dL_node_17 hl (by decide) rfl (fun ls hl => ?_)
  refine lv_iconst (v := 1) hx hb dL_node_19 (by decide) ?_
  exact vx_ret (wEnd S hr hlocks hP hD hS (Nat.le_of_ble_eq_true rfl) (Nat.le_of_ble_eq_true rfl) dL_node_20 rfl)

set_option maxHeartbeats 8000000 in
set_option maxRecDepth 100000 in
theorem c_X9_isIn_47 (l : Launch) (D : va_G) (cI cZ cJ : ClassId) (o : Nat) (q : Nat → Nat) (x3 : Int32) (ne_x3_m1 : ¬ x3 = (-1)) : Met l yX9_isIn (uW yX9_isIn cX9_isIn 3 (some .boolean)) ({ frames := 0, cells := 0, slots := 0, locals := 0 }) (va_Pc [.int x3, .int 0, .int (-1)] (pS D (tyL cI cZ cJ) (mW o 0 q cI cZ))) (QcRead (0)) 0 0 (fun _ => False) := by
  refine rdStart (lv := [(0, .int x3), (1, .int 0), (2, .int (-1))]) (by decide) (Nat.le_of_ble_eq_true rfl) rfl ?_
  intro p e s m args below meth c ls S hr hlocks hl hP hK
  have hx := S.1
  have hb := S.2.1
  refine lv_iload_n hx hb dX9_isIn_0 rfl (lv_at hl 0 rfl) ?_
  refine lv_iload_n hx hb dX9_isIn_1 rfl (lv_at hl 1 rfl) ?_
  refine lv_icmp_lt (tgt := 14) hx hb dX9_isIn_2 (by decide) (fun c_2 => ?_) (fun c_2 => ?_)
  · have hi_x3 : x3 ≤ (-1) := u_lt c_2 (by decide)
    have hi_x3 : x3 ≤ (-2) := u_ne ne_x3_m1 hi_x3 (by decide)
    refine lv_iconst (v := 0) hx hb dX9_isIn_14 (by decide) ?_
    exact rdEndZ S hr hlocks dX9_isIn_15 rfl rfl
  · have lo_x3 : 0 ≤ x3 := l_nlt c_2
    refine lv_iload_n hx hb dX9_isIn_5 rfl (lv_at hl 0 rfl) ?_
    refine lv_iload_n hx hb dX9_isIn_6 rfl (lv_at hl 2 rfl) ?_
    refine lv_icmp_gt (tgt := 14) hx hb dX9_isIn_7 (by decide) (fun _ => ?_) (fun c => absurd (b_gt lo_x3 (by decide)) c)
    refine lv_iconst (v := 0) hx hb dX9_isIn_14 (by decide) ?_
    exact rdEndZ S hr hlocks dX9_isIn_15 rfl rfl

set_option maxHeartbeats 8000000 in
set_option maxRecDepth 100000 in
theorem c_X9_isNode_1 (l : Launch) (D : va_G) (cI cZ cJ : ClassId) (o : Nat) (q : Nat → Nat) (x3 : Int32) (ne_x3_m1 : ¬ x3 = (-1)) : Met l yX9_isNode (uW yX9_isNode cX9_isNode 2 (some .boolean)) ({ frames := 1, cells := 0, slots := 0, locals := 22 }) (va_Pc [.ref o, .int x3] (pS D (tyL cI cZ cJ) (mW o 0 q cI cZ))) (QcRead (0)) 0 0 (fun _ => False) := by
  refine rdStart (lv := [(0, .ref o), (1, .int x3)]) (by decide) (Nat.le_of_ble_eq_true rfl) rfl ?_
  intro p e s m args below meth c ls S hr hlocks hl hP hK
  have hx := S.1
  have hb := S.2.1
  refine lv_iload_n hx hb dX9_isNode_0 rfl (lv_at hl 1 rfl) ?_
  refine lv_iconst (v := 0) hx hb dX9_isNode_1 (by decide) ?_
  refine lv_aload_n hx hb dX9_isNode_2 rfl (lv_at hl 0 rfl) ?_
  refine xg (ci := 9) S inX9 rfl hK hP mW_0 13 (by decide) mF_13 kw_6_161 rfl dX9_isNode_3 ?_
  refine lv_iconst (v := 1) hx hb dX9_isNode_6 (by decide) ?_
  refine xisub (v := (-1)) S dX9_isNode_7 (by decide) ?_
  refine rdS (As := [.int x3, .int 0, .int (-1)]) S (c_X9_isIn_47 l D cI cZ cJ o q x3 ne_x3_m1) ms_X9_isIn kw_7_101 ⟨rfl, rfl⟩ ⟨Nat.le_of_ble_eq_true rfl, Nat.le_of_ble_eq_true rfl⟩ hP hK hl.1 (Nat.le_of_ble_eq_true rfl) ⟨Nat.le_of_ble_eq_true rfl, Nat.le_of_ble_eq_true rfl⟩ dX9_isNode_8 ?_
  exact rdEndZ S hr hlocks dX9_isNode_11 rfl rfl

set_option maxHeartbeats 8000000 in
set_option maxRecDepth 100000 in
theorem c_X9_isFree_1 (l : Launch) (D : va_G) (cI cZ cJ : ClassId) (o : Nat) (q : Nat → Nat) (x3 : Int32) (ne_x3_m1 : ¬ x3 = (-1)) : Met l yX9_isFree (uW yX9_isFree cX9_isFree 2 (some .boolean)) ({ frames := 2, cells := 0, slots := 0, locals := 43 }) (va_Pc [.ref o, .int x3] (pS D (tyL cI cZ cJ) (mW o 0 q cI cZ))) (QcRead (0)) 0 0 (fun _ => False) := by
  refine rdStart (lv := [(0, .ref o), (1, .int x3)]) (by decide) (Nat.le_of_ble_eq_true rfl) rfl ?_
  intro p e s m args below meth c ls S hr hlocks hl hP hK
  have hx := S.1
  have hb := S.2.1
  refine lv_aload_n hx hb dX9_isFree_0 rfl (lv_at hl 0 rfl) ?_
  refine lv_iload_n hx hb dX9_isFree_1 rfl (lv_at hl 1 rfl) ?_
  refine rdV (As := [.int x3]) (ci := 9) S (c_X9_isNode_1 l D cI cZ cJ o q x3 ne_x3_m1) mi_X9_isNode kw_7_167 ⟨rfl, rfl⟩ ⟨Nat.le_of_ble_eq_true rfl, Nat.le_of_ble_eq_true rfl⟩ hP hK mW_0 rfl rfl hl.1 (Nat.le_of_ble_eq_true rfl) ⟨Nat.le_of_ble_eq_true rfl, Nat.le_of_ble_eq_true rfl⟩ dX9_isFree_2 ?_
  refine lv_if_eq (tgt := 32) hx hb dX9_isFree_5 (by decide) (fun _ => ?_) (fun c => absurd c (by decide))
  refine lv_iconst (v := 0) hx hb dX9_isFree_32 (by decide) ?_
  exact rdEndZ S hr hlocks dX9_isFree_33 rfl rfl

set_option maxHeartbeats 8000000 in
set_option maxRecDepth 100000 in
theorem c_X9_isArgument_1 (l : Launch) (D : va_G) (cI cZ cJ : ClassId) (o : Nat) (q : Nat → Nat) (x3 : Int32) (ne_x3_m1 : ¬ x3 = (-1)) : Met l yX9_isArgument (uW yX9_isArgument cX9_isArgument 2 (some .boolean)) ({ frames := 3, cells := 0, slots := 0, locals := 64 }) (va_Pc [.ref o, .int x3] (pS D (tyL cI cZ cJ) (mW o 0 q cI cZ))) (QcRead (0)) 0 0 (fun _ => False) := by
  refine rdStart (lv := [(0, .ref o), (1, .int x3)]) (by decide) (Nat.le_of_ble_eq_true rfl) rfl ?_
  intro p e s m args below meth c ls S hr hlocks hl hP hK
  have hx := S.1
  have hb := S.2.1
  refine lv_iload_n hx hb dX9_isArgument_0 rfl (lv_at hl 1 rfl) ?_
  refine lv_iconst (v := (-1)) hx hb dX9_isArgument_1 (by decide) ?_
  refine lv_icmp_eq (tgt := 24) hx hb dX9_isArgument_2 (by decide) (fun c => absurd c ne_x3_m1) (fun _ => ?_)
  refine lv_aload_n hx hb dX9_isArgument_5 rfl (lv_at hl 0 rfl) ?_
  refine lv_iload_n hx hb dX9_isArgument_6 rfl (lv_at hl 1 rfl) ?_
  refine rdV (As := [.int x3]) (ci := 9) S (c_X9_isFree_1 l D cI cZ cJ o q x3 ne_x3_m1) mi_X9_isFree kw_7_163 ⟨rfl, rfl⟩ ⟨Nat.le_of_ble_eq_true rfl, Nat.le_of_ble_eq_true rfl⟩ hP hK mW_0 rfl rfl hl.1 (Nat.le_of_ble_eq_true rfl) ⟨Nat.le_of_ble_eq_true rfl, Nat.le_of_ble_eq_true rfl⟩ dX9_isArgument_7 ?_
  refine lv_if_eq (tgt := 28) hx hb dX9_isArgument_10 (by decide) (fun _ => ?_) (fun c => absurd c (by decide))
  refine lv_iconst (v := 0) hx hb dX9_isArgument_28 (by decide) ?_
  exact rdEndZ S hr hlocks dX9_isArgument_29 rfl rfl

set_option maxHeartbeats 8000000 in
set_option maxRecDepth 100000 in
theorem c_X9_canBe_20 (l : Launch) (D : va_G) (cI cZ cJ : ClassId) (o : Nat) (q : Nat → Nat) (x2 : Int32) (x3 : Int32) (x4 : Int32) (lo_x2 : 0 ≤ x2) (hi_x2 : x2 ≤ 15) (ne_x3_m1 : ¬ x3 = (-1)) : Met l yX9_canBe (uW yX9_canBe cX9_canBe 5 (some .boolean)) ({ frames := 4, cells := 0, slots := 0, locals := 85 }) (va_Pc [.ref o, .int 8, .int x2, .int x3, .int x4] (pS D (tyL cI cZ cJ) (mW o 0 q cI cZ))) (QcRead (0)) 0 0 (fun _ => False) := by
  refine rdStart (lv := [(0, .ref o), (1, .int 8), (2, .int x2), (3, .int x3), (4, .int x4)]) (by decide) (Nat.le_of_ble_eq_true rfl) rfl ?_
  intro p e s m args below meth c ls S hr hlocks hl hP hK
  have hx := S.1
  have hb := S.2.1
  refine lv_iload_n hx hb dX9_canBe_0 rfl (lv_at hl 1 rfl) ?_
  refine lv_tableIn (off := 212) (tgt := 213) hx hb dX9_canBe_1 (by decide) (by decide) (by decide) (by decide) ?_
  refine lv_iload_n hx hb dX9_canBe_213 rfl (lv_at hl 2 rfl) ?_
  refine rdS (As := [.int x2]) S (c_X9_isName_2 l D cI cZ cJ o q x2 lo_x2 hi_x2) ms_X9_isName kw_7_108 ⟨rfl, rfl⟩ ⟨Nat.le_of_ble_eq_true rfl, Nat.le_of_ble_eq_true rfl⟩ hP hK hl.1 (Nat.le_of_ble_eq_true rfl) ⟨Nat.le_of_ble_eq_true rfl, Nat.le_of_ble_eq_true rfl⟩ dX9_canBe_214 ?_
  refine lv_if_eq (tgt := 237) hx hb dX9_canBe_217 (by decide) (fun c => absurd c (by decide)) (fun _ => ?_)
  refine lv_aload_n hx hb dX9_canBe_220 rfl (lv_at hl 0 rfl) ?_
  refine lv_iload_n hx hb dX9_canBe_221 rfl (lv_at hl 3 rfl) ?_
  refine rdV (As := [.int x3]) (ci := 9) S (c_X9_isArgument_1 l D cI cZ cJ o q x3 ne_x3_m1) mi_X9_isArgument kw_7_174 ⟨rfl, rfl⟩ ⟨Nat.le_of_ble_eq_true rfl, Nat.le_of_ble_eq_true rfl⟩ hP hK mW_0 rfl rfl hl.1 (Nat.le_of_ble_eq_true rfl) ⟨Nat.le_of_ble_eq_true rfl, Nat.le_of_ble_eq_true rfl⟩ dX9_canBe_222 ?_
  refine lv_if_eq (tgt := 237) hx hb dX9_canBe_225 (by decide) (fun _ => ?_) (fun c => absurd c (by decide))
  refine lv_iconst (v := 0) hx hb dX9_canBe_237 (by decide) ?_
  exact rdEndZ S hr hlocks dX9_canBe_238 rfl rfl

set_option maxHeartbeats 8000000 in
set_option maxRecDepth 100000 in
theorem c_X9_node_20 (l : Launch) (D : va_G) (cI cZ cJ : ClassId) (o : Nat) (q : Nat → Nat) (sz : Nat) (x2 : Int32) (x3 : Int32) (x4 : Int32) (lo_x2 : 0 ≤ x2) (hi_x2 : x2 ≤ 15) (ne_x3_m1 : ¬ x3 = (-1)) : Met l yX9_node (uW yX9_node cX9_node 6 (some .int)) ({ frames := 5, cells := 0, slots := 0, locals := 109 }) (va_Pc [.ref o, .int 8, .int x2, .int x3, .int x4] (wS D (tyL cI cZ cJ) (mW o 0 q cI cZ) sz)) (wQi (0) D (mW o 1 q cI cZ) (va_A (mW o 0 q cI cZ) sz)) 0 0 (va_A (mW o 0 q cI cZ) sz) := by
  refine wStart (lv := [(0, .ref o), (1, .int 8), (2, .int x2), (3, .int x3), (4, .int x4)]) (Qc := fun A => wQi (0) D (mW o 1 q cI cZ) A) (by decide) (Nat.le_of_ble_eq_true rfl) rfl ?_
  intro p e s m args below meth c ls A H S hr hlocks hnm hl hK hP hD hS hA
  have hx := S.1
  have hb := S.2.1
  refine lv_aload_n hx hb dX9_node_0 rfl (lv_at hl 0 rfl) ?_
  refine lv_iconst (v := 0) hx hb dX9_node_1 (by decide) ?_
  refine xp (ci := 9) (v := .int 0) S inX9 tyX9 tyX9_ok nmX9 rfl hK hP hD hS mW_0 0 (by decide) kw_6_148 rfl rfl rfl rfl (Nat.le_of_ble_eq_true rfl) dX9_node_2 (fun H locs hP hD hS => ?_)
  have hP : va_P D vwCl (mW o 0 q cI cZ) H := hP
  have hD : va_D A (mW o 0 q cI cZ) := hD
  refine lv_iload_n hx hb dX9_node_5 rfl (lv_at hl 1 rfl) ?_
  refine lv_iconst (v := 0) hx hb dX9_node_6 (by decide) ?_
  refine lv_bipush (v := 21) hx hb dX9_node_7 (by decide) ?_
  refine rdS (As := [.int 8, .int 0, .int 21]) S (c_X9_isIn_46 l D cI cZ cJ o q) ms_X9_isIn kw_7_101 ⟨rfl, rfl⟩ ⟨Nat.le_of_ble_eq_true rfl, Nat.le_of_ble_eq_true rfl⟩ hP hK hl.1 (Nat.le_of_ble_eq_true rfl) ⟨Nat.le_of_ble_eq_true rfl, Nat.le_of_ble_eq_true rfl⟩ dX9_node_9 ?_
  refine lv_if_eq (tgt := 27) hx hb dX9_node_12 (by decide) (fun c => absurd c (by decide)) (fun _ => ?_)
  refine lv_aload_n hx hb dX9_node_15 rfl (lv_at hl 0 rfl) ?_
  refine lv_iload_n hx hb dX9_node_16 rfl (lv_at hl 1 rfl) ?_
  refine lv_iload_n hx hb dX9_node_17 rfl (lv_at hl 2 rfl) ?_
  refine lv_iload_n hx hb dX9_node_18 rfl (lv_at hl 3 rfl) ?_
  refine lv_iload hx hb dX9_node_19 (lv_at hl 4 rfl) ?_
  refine rdV (As := [.int 8, .int x2, .int x3, .int x4]) (ci := 9) S (c_X9_canBe_20 l D cI cZ cJ o q x2 x3 x4 lo_x2 hi_x2 ne_x3_m1) mi_X9_canBe kw_7_155 ⟨rfl, rfl⟩ ⟨Nat.le_of_ble_eq_true rfl, Nat.le_of_ble_eq_true rfl⟩ hP hK mW_0 rfl rfl hl.1 (Nat.le_of_ble_eq_true rfl) ⟨Nat.le_of_ble_eq_true rfl, Nat.le_of_ble_eq_true rfl⟩ dX9_node_21 ?_
  refine lv_if_ne (tgt := 33) hx hb dX9_node_24 (by decide) (fun c => absurd c (by decide)) (fun _ => ?_)
  refine lv_aload_n hx hb dX9_node_27 rfl (lv_at hl 0 rfl) ?_
  refine lv_iconst (v := 1) hx hb dX9_node_28 (by decide) ?_
  refine wrV (As := [.int 1]) (ci := 9) S (c_X9_no_0 l D cI cZ cJ o q H.size) mi_X9_no kw_7_104 rfl rfl ⟨Nat.le_of_ble_eq_true rfl, Nat.le_of_ble_eq_true rfl⟩ hP hD hK hS hA mW_0 rfl rfl hl.1 (Nat.le_of_ble_eq_true rfl) ⟨Nat.le_of_ble_eq_true rfl, Nat.le_of_ble_eq_true rfl⟩ dX9_node_29 (fun H locs hz hP hD hS => ?_)
  exact wEnd S hr hlocks hP hD hS (Nat.le_of_ble_eq_true rfl) (Nat.le_of_ble_eq_true rfl) dX9_node_32 rfl

set_option maxHeartbeats 8000000 in
set_option maxRecDepth 100000 in
theorem h_node_21 (l : Launch) (D : va_G) (cI cZ cJ : ClassId) (o : Nat) (u : Nat → Nat) (ao : Nat) (hst : l.stackTraces = false) (ra ga : Nat → Nat) (sz : Nat) (x2 : Int32) (x3 : Int32) (x4 : Int32) : vx_Met l yL_node (uWh yL_node cL_node 7 (some .int) [(0, 14, 17, 15), (0, 14, 21, 17)]) ({ frames := 8, cells := 1, slots := 6, locals := 126 }) (va_Pc [.ref o, .int 9, .int x2, .int x3, .int x4, .ref ao] (lS ra ga D (tyL cI cZ cJ) ((xW o u cI cZ cJ) ++ [(ao, .inl (cJ, 1, .inr (.inl (fun _ => 0))))]) sz)) (wQi (1) D ((xW o u cI cZ cJ) ++ [(ao, .inl (cJ, 1, .inr (.inl (fun _ => 0))))]) (va_A ((xW o u cI cZ cJ) ++ [(ao, .inl (cJ, 1, .inr (.inl (fun _ => 0))))]) sz)) (xN (va_A ((xW o u cI cZ cJ) ++ [(ao, .inl (cJ, 1, .inr (.inl (fun _ => 0))))]) sz)) 1 6 (va_A ((xW o u cI cZ cJ) ++ [(ao, .inl (cJ, 1, .inr (.inl (fun _ => 0))))]) sz) := by
  refine hStart (l := l) (y := yL_node) (b := cL_node) (n := 7) (r := (some .int)) (hh := [(0, 14, 17, 15), (0, 14, 21, 17)]) (rm := ({ frames := 8, cells := 1, slots := 6, locals := 126 })) (mc := 1) (ms := 6) (ra := ra) (ga := ga) (D := D) (tys := tyL cI cZ cJ) (ws := ((xW o u cI cZ cJ) ++ [(ao, .inl (cJ, 1, .inr (.inl (fun _ => 0))))])) (av := [.ref o, .int 9, .int x2, .int x3, .int x4, .ref ao]) (sz := sz) (lv := [(0, .ref o), (1, .int 9), (2, .int x2), (3, .int x3), (4, .int x4), (5, .ref ao)]) (Qc := fun A => wQi (1) D ((xW o u cI cZ cJ) ++ [(ao, .inl (cJ, 1, .inr (.inl (fun _ => 0))))]) A) (by decide) (Nat.le_of_ble_eq_true rfl) rfl ?_
  intro p e s m args below meth c ls A H S hr hlocks htab hl hK hP hD hS hA hB hC
  have hx := S.1
  have hb := S.2.1
  refine lv_aload hx hb dL_node_0 (lv_at hl 5 rfl) ?_
  refine lv_iconst (v := 0) hx hb dL_node_2 (by decide) ?_
  refine lv_aload_n hx hb dL_node_3 rfl (lv_at hl 0 rfl) ?_
  refine lv_iload_n hx hb dL_node_4 rfl (lv_at hl 1 rfl) ?_
  refine lv_iload_n hx hb dL_node_5 rfl (lv_at hl 2 rfl) ?_
  refine lv_iload_n hx hb dL_node_6 rfl (lv_at hl 3 rfl) ?_
  refine lv_iload hx hb dL_node_7 (lv_at hl 4 rfl) ?_
  refine cVi [] [(ao, .inl (cJ, 1, .inr (.inl (fun _ => 0))))] (As := [.int 9, .int x2, .int x3, .int x4]) (ci := 8) S (c_X8_node_21 l D cI cZ cJ o u hst ra ga H.size x2 x3 x4) mi_X8_node kw_6_23 rfl rfl ⟨Nat.le_of_ble_eq_true rfl, Nat.le_of_ble_eq_true rfl⟩ hP hD hK hS hA hB xW_0 rfl rfl hl.1 (Nat.le_of_ble_eq_true rfl) ⟨Nat.le_of_ble_eq_true rfl, Nat.le_of_ble_eq_true rfl⟩ dL_node_9 (fun ce q9 H locs hz hP hD hS hce hcv hcl => ?_)
  refine vx_catch (name := "java/lang/IllegalArgumentException") S.2.2.2.1 [] (⟨0, 14, 17, 15⟩ : ExceptionTableEntry) [(⟨0, 14, 21, 17⟩ : ExceptionTableEntry)] (htab.trans rfl) (fun _ h => absurd h List.not_mem_nil) (by decide) (by decide) (S.2.2.2.2 _ kw_5_177) (va_Nw.use rfl hB.c1) hce hcv hcl ?_
  have hP : va_P D vwCl ((xW o u cI cZ cJ) ++ [(ao, .inl (cJ, 1, .inr (.inl (fun _ => 0))))]) H := hP
  have hD : va_D A ((xW o u cI cZ cJ) ++ [(ao, .inl (cJ, 1, .inr (.inl (fun _ => 0))))]) := hD
  refine lv_astore (lv' := [(6, .ref q9), (0, .ref o), (1, .int 9), (2, .int x2), (3, .int x3), (4, .int x4), (5, .ref ao)]) hx hb dL_node_17 hl (by decide) rfl (fun ls hl => ?_)
  refine lv_iconst (v := 1) hx hb dL_node_19 (by decide) ?_
  exact vx_ret (wEnd S hr hlocks hP hD hS (Nat.le_of_ble_eq_true rfl) (Nat.le_of_ble_eq_true rfl) dL_node_20 rfl)

set_option maxHeartbeats 8000000 in
set_option maxRecDepth 100000 in
theorem c_X9_isIn_48 (l : Launch) (D : va_G) (cI cZ cJ : ClassId) (o : Nat) (q : Nat → Nat) : Met l yX9_isIn (uW yX9_isIn cX9_isIn 3 (some .boolean)) ({ frames := 0, cells := 0, slots := 0, locals := 0 }) (va_Pc [.int 9, .int 0, .int 21] (pS D (tyL cI cZ cJ) (mW o 0 q cI cZ))) (QcRead (1)) 0 0 (fun _ => False) := by
  refine rdStart (lv := [(0, .int 9), (1, .int 0), (2, .int 21)]) (by decide) (Nat.le_of_ble_eq_true rfl) rfl ?_
  intro p e s m args below meth c ls S hr hlocks hl hP hK
  have hx := S.1
  have hb := S.2.1
  refine lv_iload_n hx hb dX9_isIn_0 rfl (lv_at hl 0 rfl) ?_
  refine lv_iload_n hx hb dX9_isIn_1 rfl (lv_at hl 1 rfl) ?_
  refine lv_icmp_lt (tgt := 14) hx hb dX9_isIn_2 (by decide) (fun c => absurd c (by decide)) (fun _ => ?_)
  refine lv_iload_n hx hb dX9_isIn_5 rfl (lv_at hl 0 rfl) ?_
  refine lv_iload_n hx hb dX9_isIn_6 rfl (lv_at hl 2 rfl) ?_
  refine lv_icmp_gt (tgt := 14) hx hb dX9_isIn_7 (by decide) (fun c => absurd c (by decide)) (fun _ => ?_)
  refine lv_iconst (v := 1) hx hb dX9_isIn_10 (by decide) ?_
  refine lv_goto (tgt := 15) hx hb dX9_isIn_11 (by decide) ?_
  exact rdEndZ S hr hlocks dX9_isIn_15 rfl rfl

set_option maxHeartbeats 8000000 in
set_option maxRecDepth 100000 in
theorem c_X9_canBe_21 (l : Launch) (D : va_G) (cI cZ cJ : ClassId) (o : Nat) (q : Nat → Nat) (x2 : Int32) (x3 : Int32) (x4 : Int32) : Met l yX9_canBe (uW yX9_canBe cX9_canBe 5 (some .boolean)) ({ frames := 3, cells := 0, slots := 0, locals := 64 }) (va_Pc [.ref o, .int 9, .int x2, .int x3, .int x4] (pS D (tyL cI cZ cJ) (mW o 0 q cI cZ))) (QcRead (0)) 0 0 (fun _ => False) := by
  refine rdStart (lv := [(0, .ref o), (1, .int 9), (2, .int x2), (3, .int x3), (4, .int x4)]) (by decide) (Nat.le_of_ble_eq_true rfl) rfl ?_
  intro p e s m args below meth c ls S hr hlocks hl hP hK
  have hx := S.1
  have hb := S.2.1
  refine lv_iload_n hx hb dX9_canBe_0 rfl (lv_at hl 1 rfl) ?_
  refine lv_tableIn (off := 238) (tgt := 239) hx hb dX9_canBe_1 (by decide) (by decide) (by decide) (by decide) ?_
  refine lv_iload_n hx hb dX9_canBe_239 rfl (lv_at hl 2 rfl) ?_
  refine lv_if_ne (tgt := 298) hx hb dX9_canBe_240 (by decide) (fun c_240 => ?_) (fun c_240 => ?_)
  · have ne_x2_0 : ¬ x2 = 0 := c_240
    refine lv_iconst (v := 0) hx hb dX9_canBe_298 (by decide) ?_
    exact rdEndZ S hr hlocks dX9_canBe_299 rfl rfl
  · have e_x2 : x2 = 0 := c_240
    subst e_x2
    refine lv_aload_n hx hb dX9_canBe_243 rfl (lv_at hl 0 rfl) ?_
    refine lv_iload_n hx hb dX9_canBe_244 rfl (lv_at hl 3 rfl) ?_
    refine rdV (As := [.int x3]) (ci := 9) S (c_X9_isFree_0 l D cI cZ cJ o q x3) mi_X9_isFree kw_7_163 ⟨rfl, rfl⟩ ⟨Nat.le_of_ble_eq_true rfl, Nat.le_of_ble_eq_true rfl⟩ hP hK mW_0 rfl rfl hl.1 (Nat.le_of_ble_eq_true rfl) ⟨Nat.le_of_ble_eq_true rfl, Nat.le_of_ble_eq_true rfl⟩ dX9_canBe_245 ?_
    refine lv_if_eq (tgt := 298) hx hb dX9_canBe_248 (by decide) (fun _ => ?_) (fun c => absurd c (by decide))
    refine lv_iconst (v := 0) hx hb dX9_canBe_298 (by decide) ?_
    exact rdEndZ S hr hlocks dX9_canBe_299 rfl rfl

set_option maxHeartbeats 8000000 in
set_option maxRecDepth 100000 in
theorem c_X9_node_21 (l : Launch) (D : va_G) (cI cZ cJ : ClassId) (o : Nat) (q : Nat → Nat) (sz : Nat) (x2 : Int32) (x3 : Int32) (x4 : Int32) : Met l yX9_node (uW yX9_node cX9_node 6 (some .int)) ({ frames := 4, cells := 0, slots := 0, locals := 88 }) (va_Pc [.ref o, .int 9, .int x2, .int x3, .int x4] (wS D (tyL cI cZ cJ) (mW o 0 q cI cZ) sz)) (wQi (0) D (mW o 1 q cI cZ) (va_A (mW o 0 q cI cZ) sz)) 0 0 (va_A (mW o 0 q cI cZ) sz) := by
  refine wStart (lv := [(0, .ref o), (1, .int 9), (2, .int x2), (3, .int x3), (4, .int x4)]) (Qc := fun A => wQi (0) D (mW o 1 q cI cZ) A) (by decide) (Nat.le_of_ble_eq_true rfl) rfl ?_
  intro p e s m args below meth c ls A H S hr hlocks hnm hl hK hP hD hS hA
  have hx := S.1
  have hb := S.2.1
  refine lv_aload_n hx hb dX9_node_0 rfl (lv_at hl 0 rfl) ?_
  refine lv_iconst (v := 0) hx hb dX9_node_1 (by decide) ?_
  refine xp (ci := 9) (v := .int 0) S inX9 tyX9 tyX9_ok nmX9 rfl hK hP hD hS mW_0 0 (by decide) kw_6_148 rfl rfl rfl rfl (Nat.le_of_ble_eq_true rfl) dX9_node_2 (fun H locs hP hD hS => ?_)
  have hP : va_P D vwCl (mW o 0 q cI cZ) H := hP
  have hD : va_D A (mW o 0 q cI cZ) := hD
  refine lv_iload_n hx hb dX9_node_5 rfl (lv_at hl 1 rfl) ?_
  refine lv_iconst (v := 0) hx hb dX9_node_6 (by decide) ?_
  refine lv_bipush (v := 21) hx hb dX9_node_7 (by decide) ?_
  refine rdS (As := [.int 9, .int 0, .int 21]) S (c_X9_isIn_48 l D cI cZ cJ o q) ms_X9_isIn kw_7_101 ⟨rfl, rfl⟩ ⟨Nat.le_of_ble_eq_true rfl, Nat.le_of_ble_eq_true rfl⟩ hP hK hl.1 (Nat.le_of_ble_eq_true rfl) ⟨Nat.le_of_ble_eq_true rfl, Nat.le_of_ble_eq_true rfl⟩ dX9_node_9 ?_
  refine lv_if_eq (tgt := 27) hx hb dX9_node_12 (by decide) (fun c => absurd c (by decide)) (fun _ => ?_)
  refine lv_aload_n hx hb dX9_node_15 rfl (lv_at hl 0 rfl) ?_
  refine lv_iload_n hx hb dX9_node_16 rfl (lv_at hl 1 rfl) ?_
  refine lv_iload_n hx hb dX9_node_17 rfl (lv_at hl 2 rfl) ?_
  refine lv_iload_n hx hb dX9_node_18 rfl (lv_at hl 3 rfl) ?_
  refine lv_iload hx hb dX9_node_19 (lv_at hl 4 rfl) ?_
  refine rdV (As := [.int 9, .int x2, .int x3, .int x4]) (ci := 9) S (c_X9_canBe_21 l D cI cZ cJ o q x2 x3 x4) mi_X9_canBe kw_7_155 ⟨rfl, rfl⟩ ⟨Nat.le_of_ble_eq_true rfl, Nat.le_of_ble_eq_true rfl⟩ hP hK mW_0 rfl rfl hl.1 (Nat.le_of_ble_eq_true rfl) ⟨Nat.le_of_ble_eq_true rfl, Nat.le_of_ble_eq_true rfl⟩ dX9_node_21 ?_
  refine lv_if_ne (tgt := 33) hx hb dX9_node_24 (by decide) (fun c => absurd c (by decide)) (fun _ => ?_)
  refine lv_aload_n hx hb dX9_node_27 rfl (lv_at hl 0 rfl) ?_
  refine lv_iconst (v := 1) hx hb dX9_node_28 (by decide) ?_
  refine wrV (As := [.int 1]) (ci := 9) S (c_X9_no_0 l D cI cZ cJ o q H.size) mi_X9_no kw_7_104 rfl rfl ⟨Nat.le_of_ble_eq_true rfl, Nat.le_of_ble_eq_true rfl⟩ hP hD hK hS hA mW_0 rfl rfl hl.1 (Nat.le_of_ble_eq_true rfl) ⟨Nat.le_of_ble_eq_true rfl, Nat.le_of_ble_eq_true rfl⟩ dX9_node_29 (fun H locs hz hP hD hS => ?_)
  exact wEnd S hr hlocks hP hD hS (Nat.le_of_ble_eq_true rfl) (Nat.le_of_ble_eq_true rfl) dX9_node_32 rfl

set_option maxHeartbeats 8000000 in
set_option maxRecDepth 100000 in
theorem h_node_22 (l : Launch) (D : va_G) (cI cZ cJ : ClassId) (o : Nat) (u : Nat → Nat) (ao : Nat) (hst : l.stackTraces = false) (ra ga : Nat → Nat) (sz : Nat) (x2 : Int32) (x3 : Int32) (x4 : Int32) (hi_x2 : x2 ≤ (-1)) : vx_Met l yL_node (uWh yL_node cL_node 7 (some .int) [(0, 14, 17, 15), (0, 14, 21, 17)]) ({ frames := 8, cells := 1, slots := 6, locals := 126 }) (va_Pc [.ref o, .int 10, .int x2, .int x3, .int x4, .ref ao] (lS ra ga D (tyL cI cZ cJ) ((xW o u cI cZ cJ) ++ [(ao, .inl (cJ, 1, .inr (.inl (fun _ => 0))))]) sz)) (wQi (1) D ((xW o u cI cZ cJ) ++ [(ao, .inl (cJ, 1, .inr (.inl (fun _ => 0))))]) (va_A ((xW o u cI cZ cJ) ++ [(ao, .inl (cJ, 1, .inr (.inl (fun _ => 0))))]) sz)) (xN (va_A ((xW o u cI cZ cJ) ++ [(ao, .inl (cJ, 1, .inr (.inl (fun _ => 0))))]) sz)) 1 6 (va_A ((xW o u cI cZ cJ) ++ [(ao, .inl (cJ, 1, .inr (.inl (fun _ => 0))))]) sz) := by
  refine hStart (l := l) (y := yL_node) (b := cL_node) (n := 7) (r := (some .int)) (hh := [(0, 14, 17, 15), (0, 14, 21, 17)]) (rm := ({ frames := 8, cells := 1, slots := 6, locals := 126 })) (mc := 1) (ms := 6) (ra := ra) (ga := ga) (D := D) (tys := tyL cI cZ cJ) (ws := ((xW o u cI cZ cJ) ++ [(ao, .inl (cJ, 1, .inr (.inl (fun _ => 0))))])) (av := [.ref o, .int 10, .int x2, .int x3, .int x4, .ref ao]) (sz := sz) (lv := [(0, .ref o), (1, .int 10), (2, .int x2), (3, .int x3), (4, .int x4), (5, .ref ao)]) (Qc := fun A => wQi (1) D ((xW o u cI cZ cJ) ++ [(ao, .inl (cJ, 1, .inr (.inl (fun _ => 0))))]) A) (by decide) (Nat.le_of_ble_eq_true rfl) rfl ?_
  intro p e s m args below meth c ls A H S hr hlocks htab hl hK hP hD hS hA hB hC
  have hx := S.1
  have hb := S.2.1
  refine lv_aload hx hb dL_node_0 (lv_at hl 5 rfl) ?_
  refine lv_iconst (v := 0) hx hb dL_node_2 (by decide) ?_
  refine lv_aload_n hx hb dL_node_3 rfl (lv_at hl 0 rfl) ?_
  refine lv_iload_n hx hb dL_node_4 rfl (lv_at hl 1 rfl) ?_
  refine lv_iload_n hx hb dL_node_5 rfl (lv_at hl 2 rfl) ?_
  refine lv_iload_n hx hb dL_node_6 rfl (lv_at hl 3 rfl) ?_
  refine lv_iload hx hb dL_node_7 (lv_at hl 4 rfl) ?_
  refine cVi [] [(ao, .inl (cJ, 1, .inr (.inl (fun _ => 0))))] (As := [.int 10, .int x2, .int x3, .int x4]) (ci := 8) S (c_X8_node_22 l D cI cZ cJ o u hst ra ga H.size x2 x3 x4 hi_x2) mi_X8_node kw_6_23 rfl rfl ⟨Nat.le_of_ble_eq_true rfl, Nat.le_of_ble_eq_true rfl⟩ hP hD hK hS hA hB xW_0 rfl rfl hl.1 (Nat.le_of_ble_eq_true rfl) ⟨Nat.le_of_ble_eq_true rfl, Nat.le_of_ble_eq_true rfl⟩ dL_node_9 (fun ce q9 H locs hz hP hD hS hce hcv hcl => ?_)
  refine vx_catch (name := "java/lang/IllegalArgumentException") S.2.2.2.1 [] (⟨0, 14, 17, 15⟩ : ExceptionTableEntry) [(⟨0, 14, 21, 17⟩ : ExceptionTableEntry)] (htab.trans rfl) (fun _ h => absurd h List.not_mem_nil) (by decide) (by decide) (S.2.2.2.2 _ kw_5_177) (va_Nw.use rfl hB.c1) hce hcv hcl ?_
  have hP : va_P D vwCl ((xW o u cI cZ cJ) ++ [(ao, .inl (cJ, 1, .inr (.inl (fun _ => 0))))]) H := hP
  have hD : va_D A ((xW o u cI cZ cJ) ++ [(ao, .inl (cJ, 1, .inr (.inl (fun _ => 0))))]) := hD
  refine lv_astore (lv' := [(6, .ref q9), (0, .ref o), (1, .int 10), (2, .int x2), (3, .int x3), (4, .int x4), (5, .ref ao)]) hx hb dL_node_17 hl (by decide) rfl (fun ls hl => ?_)
  refine lv_iconst (v := 1) hx hb dL_node_19 (by decide) ?_
  exact vx_ret (wEnd S hr hlocks hP hD hS (Nat.le_of_ble_eq_true rfl) (Nat.le_of_ble_eq_true rfl) dL_node_20 rfl)

set_option maxHeartbeats 8000000 in
set_option maxRecDepth 100000 in
theorem c_X9_isIn_49 (l : Launch) (D : va_G) (cI cZ cJ : ClassId) (o : Nat) (q : Nat → Nat) : Met l yX9_isIn (uW yX9_isIn cX9_isIn 3 (some .boolean)) ({ frames := 0, cells := 0, slots := 0, locals := 0 }) (va_Pc [.int 10, .int 0, .int 21] (pS D (tyL cI cZ cJ) (mW o 0 q cI cZ))) (QcRead (1)) 0 0 (fun _ => False) := by
  refine rdStart (lv := [(0, .int 10), (1, .int 0), (2, .int 21)]) (by decide) (Nat.le_of_ble_eq_true rfl) rfl ?_
  intro p e s m args below meth c ls S hr hlocks hl hP hK
  have hx := S.1
  have hb := S.2.1
  refine lv_iload_n hx hb dX9_isIn_0 rfl (lv_at hl 0 rfl) ?_
  refine lv_iload_n hx hb dX9_isIn_1 rfl (lv_at hl 1 rfl) ?_
  refine lv_icmp_lt (tgt := 14) hx hb dX9_isIn_2 (by decide) (fun c => absurd c (by decide)) (fun _ => ?_)
  refine lv_iload_n hx hb dX9_isIn_5 rfl (lv_at hl 0 rfl) ?_
  refine lv_iload_n hx hb dX9_isIn_6 rfl (lv_at hl 2 rfl) ?_
  refine lv_icmp_gt (tgt := 14) hx hb dX9_isIn_7 (by decide) (fun c => absurd c (by decide)) (fun _ => ?_)
  refine lv_iconst (v := 1) hx hb dX9_isIn_10 (by decide) ?_
  refine lv_goto (tgt := 15) hx hb dX9_isIn_11 (by decide) ?_
  exact rdEndZ S hr hlocks dX9_isIn_15 rfl rfl

set_option maxHeartbeats 8000000 in
set_option maxRecDepth 100000 in
theorem c_X9_canBe_22 (l : Launch) (D : va_G) (cI cZ cJ : ClassId) (o : Nat) (q : Nat → Nat) (x2 : Int32) (x3 : Int32) (x4 : Int32) (hi_x2 : x2 ≤ (-1)) : Met l yX9_canBe (uW yX9_canBe cX9_canBe 5 (some .boolean)) ({ frames := 2, cells := 0, slots := 0, locals := 42 }) (va_Pc [.ref o, .int 10, .int x2, .int x3, .int x4] (pS D (tyL cI cZ cJ) (mW o 0 q cI cZ))) (QcRead (0)) 0 0 (fun _ => False) := by
  refine rdStart (lv := [(0, .ref o), (1, .int 10), (2, .int x2), (3, .int x3), (4, .int x4)]) (by decide) (Nat.le_of_ble_eq_true rfl) rfl ?_
  intro p e s m args below meth c ls S hr hlocks hl hP hK
  have hx := S.1
  have hb := S.2.1
  refine lv_iload_n hx hb dX9_canBe_0 rfl (lv_at hl 1 rfl) ?_
  refine lv_tableIn (off := 131) (tgt := 132) hx hb dX9_canBe_1 (by decide) (by decide) (by decide) (by decide) ?_
  refine lv_iload_n hx hb dX9_canBe_132 rfl (lv_at hl 2 rfl) ?_
  refine rdS (As := [.int x2]) S (c_X9_isName_0 l D cI cZ cJ o q x2 hi_x2) ms_X9_isName kw_7_108 ⟨rfl, rfl⟩ ⟨Nat.le_of_ble_eq_true rfl, Nat.le_of_ble_eq_true rfl⟩ hP hK hl.1 (Nat.le_of_ble_eq_true rfl) ⟨Nat.le_of_ble_eq_true rfl, Nat.le_of_ble_eq_true rfl⟩ dX9_canBe_133 ?_
  refine lv_if_eq (tgt := 152) hx hb dX9_canBe_136 (by decide) (fun _ => ?_) (fun c => absurd c (by decide))
  refine lv_iconst (v := 0) hx hb dX9_canBe_152 (by decide) ?_
  exact rdEndZ S hr hlocks dX9_canBe_153 rfl rfl

set_option maxHeartbeats 8000000 in
set_option maxRecDepth 100000 in
theorem c_X9_node_22 (l : Launch) (D : va_G) (cI cZ cJ : ClassId) (o : Nat) (q : Nat → Nat) (sz : Nat) (x2 : Int32) (x3 : Int32) (x4 : Int32) (hi_x2 : x2 ≤ (-1)) : Met l yX9_node (uW yX9_node cX9_node 6 (some .int)) ({ frames := 3, cells := 0, slots := 0, locals := 66 }) (va_Pc [.ref o, .int 10, .int x2, .int x3, .int x4] (wS D (tyL cI cZ cJ) (mW o 0 q cI cZ) sz)) (wQi (0) D (mW o 1 q cI cZ) (va_A (mW o 0 q cI cZ) sz)) 0 0 (va_A (mW o 0 q cI cZ) sz) := by
  refine wStart (lv := [(0, .ref o), (1, .int 10), (2, .int x2), (3, .int x3), (4, .int x4)]) (Qc := fun A => wQi (0) D (mW o 1 q cI cZ) A) (by decide) (Nat.le_of_ble_eq_true rfl) rfl ?_
  intro p e s m args below meth c ls A H S hr hlocks hnm hl hK hP hD hS hA
  have hx := S.1
  have hb := S.2.1
  refine lv_aload_n hx hb dX9_node_0 rfl (lv_at hl 0 rfl) ?_
  refine lv_iconst (v := 0) hx hb dX9_node_1 (by decide) ?_
  refine xp (ci := 9) (v := .int 0) S inX9 tyX9 tyX9_ok nmX9 rfl hK hP hD hS mW_0 0 (by decide) kw_6_148 rfl rfl rfl rfl (Nat.le_of_ble_eq_true rfl) dX9_node_2 (fun H locs hP hD hS => ?_)
  have hP : va_P D vwCl (mW o 0 q cI cZ) H := hP
  have hD : va_D A (mW o 0 q cI cZ) := hD
  refine lv_iload_n hx hb dX9_node_5 rfl (lv_at hl 1 rfl) ?_
  refine lv_iconst (v := 0) hx hb dX9_node_6 (by decide) ?_
  refine lv_bipush (v := 21) hx hb dX9_node_7 (by decide) ?_
  refine rdS (As := [.int 10, .int 0, .int 21]) S (c_X9_isIn_49 l D cI cZ cJ o q) ms_X9_isIn kw_7_101 ⟨rfl, rfl⟩ ⟨Nat.le_of_ble_eq_true rfl, Nat.le_of_ble_eq_true rfl⟩ hP hK hl.1 (Nat.le_of_ble_eq_true rfl) ⟨Nat.le_of_ble_eq_true rfl, Nat.le_of_ble_eq_true rfl⟩ dX9_node_9 ?_
  refine lv_if_eq (tgt := 27) hx hb dX9_node_12 (by decide) (fun c => absurd c (by decide)) (fun _ => ?_)
  refine lv_aload_n hx hb dX9_node_15 rfl (lv_at hl 0 rfl) ?_
  refine lv_iload_n hx hb dX9_node_16 rfl (lv_at hl 1 rfl) ?_
  refine lv_iload_n hx hb dX9_node_17 rfl (lv_at hl 2 rfl) ?_
  refine lv_iload_n hx hb dX9_node_18 rfl (lv_at hl 3 rfl) ?_
  refine lv_iload hx hb dX9_node_19 (lv_at hl 4 rfl) ?_
  refine rdV (As := [.int 10, .int x2, .int x3, .int x4]) (ci := 9) S (c_X9_canBe_22 l D cI cZ cJ o q x2 x3 x4 hi_x2) mi_X9_canBe kw_7_155 ⟨rfl, rfl⟩ ⟨Nat.le_of_ble_eq_true rfl, Nat.le_of_ble_eq_true rfl⟩ hP hK mW_0 rfl rfl hl.1 (Nat.le_of_ble_eq_true rfl) ⟨Nat.le_of_ble_eq_true rfl, Nat.le_of_ble_eq_true rfl⟩ dX9_node_21 ?_
  refine lv_if_ne (tgt := 33) hx hb dX9_node_24 (by decide) (fun c => absurd c (by decide)) (fun _ => ?_)
  refine lv_aload_n hx hb dX9_node_27 rfl (lv_at hl 0 rfl) ?_
  refine lv_iconst (v := 1) hx hb dX9_node_28 (by decide) ?_
  refine wrV (As := [.int 1]) (ci := 9) S (c_X9_no_0 l D cI cZ cJ o q H.size) mi_X9_no kw_7_104 rfl rfl ⟨Nat.le_of_ble_eq_true rfl, Nat.le_of_ble_eq_true rfl⟩ hP hD hK hS hA mW_0 rfl rfl hl.1 (Nat.le_of_ble_eq_true rfl) ⟨Nat.le_of_ble_eq_true rfl, Nat.le_of_ble_eq_true rfl⟩ dX9_node_29 (fun H locs hz hP hD hS => ?_)
  exact wEnd S hr hlocks hP hD hS (Nat.le_of_ble_eq_true rfl) (Nat.le_of_ble_eq_true rfl) dX9_node_32 rfl

set_option maxHeartbeats 8000000 in
set_option maxRecDepth 100000 in
theorem h_node_23 (l : Launch) (D : va_G) (cI cZ cJ : ClassId) (o : Nat) (u : Nat → Nat) (ao : Nat) (hst : l.stackTraces = false) (ra ga : Nat → Nat) (sz : Nat) (x2 : Int32) (x3 : Int32) (x4 : Int32) (lo_x2 : 16 ≤ x2) : vx_Met l yL_node (uWh yL_node cL_node 7 (some .int) [(0, 14, 17, 15), (0, 14, 21, 17)]) ({ frames := 8, cells := 1, slots := 6, locals := 126 }) (va_Pc [.ref o, .int 10, .int x2, .int x3, .int x4, .ref ao] (lS ra ga D (tyL cI cZ cJ) ((xW o u cI cZ cJ) ++ [(ao, .inl (cJ, 1, .inr (.inl (fun _ => 0))))]) sz)) (wQi (1) D ((xW o u cI cZ cJ) ++ [(ao, .inl (cJ, 1, .inr (.inl (fun _ => 0))))]) (va_A ((xW o u cI cZ cJ) ++ [(ao, .inl (cJ, 1, .inr (.inl (fun _ => 0))))]) sz)) (xN (va_A ((xW o u cI cZ cJ) ++ [(ao, .inl (cJ, 1, .inr (.inl (fun _ => 0))))]) sz)) 1 6 (va_A ((xW o u cI cZ cJ) ++ [(ao, .inl (cJ, 1, .inr (.inl (fun _ => 0))))]) sz) := by
  refine hStart (l := l) (y := yL_node) (b := cL_node) (n := 7) (r := (some .int)) (hh := [(0, 14, 17, 15), (0, 14, 21, 17)]) (rm := ({ frames := 8, cells := 1, slots := 6, locals := 126 })) (mc := 1) (ms := 6) (ra := ra) (ga := ga) (D := D) (tys := tyL cI cZ cJ) (ws := ((xW o u cI cZ cJ) ++ [(ao, .inl (cJ, 1, .inr (.inl (fun _ => 0))))])) (av := [.ref o, .int 10, .int x2, .int x3, .int x4, .ref ao]) (sz := sz) (lv := [(0, .ref o), (1, .int 10), (2, .int x2), (3, .int x3), (4, .int x4), (5, .ref ao)]) (Qc := fun A => wQi (1) D ((xW o u cI cZ cJ) ++ [(ao, .inl (cJ, 1, .inr (.inl (fun _ => 0))))]) A) (by decide) (Nat.le_of_ble_eq_true rfl) rfl ?_
  intro p e s m args below meth c ls A H S hr hlocks htab hl hK hP hD hS hA hB hC
  have hx := S.1
  have hb := S.2.1
  refine lv_aload hx hb dL_node_0 (lv_at hl 5 rfl) ?_
  refine lv_iconst (v := 0) hx hb dL_node_2 (by decide) ?_
  refine lv_aload_n hx hb dL_node_3 rfl (lv_at hl 0 rfl) ?_
  refine lv_iload_n hx hb dL_node_4 rfl (lv_at hl 1 rfl) ?_
  refine lv_iload_n hx hb dL_node_5 rfl (lv_at hl 2 rfl) ?_
  refine lv_iload_n hx hb dL_node_6 rfl (lv_at hl 3 rfl) ?_
  refine lv_iload hx hb dL_node_7 (lv_at hl 4 rfl) ?_
  refine cVi [] [(ao, .inl (cJ, 1, .inr (.inl (fun _ => 0))))] (As := [.int 10, .int x2, .int x3, .int x4]) (ci := 8) S (c_X8_node_23 l D cI cZ cJ o u hst ra ga H.size x2 x3 x4 lo_x2) mi_X8_node kw_6_23 rfl rfl ⟨Nat.le_of_ble_eq_true rfl, Nat.le_of_ble_eq_true rfl⟩ hP hD hK hS hA hB xW_0 rfl rfl hl.1 (Nat.le_of_ble_eq_true rfl) ⟨Nat.le_of_ble_eq_true rfl, Nat.le_of_ble_eq_true rfl⟩ dL_node_9 (fun ce q9 H locs hz hP hD hS hce hcv hcl => ?_)
  refine vx_catch (name := "java/lang/IllegalArgumentException") S.2.2.2.1 [] (⟨0, 14, 17, 15⟩ : ExceptionTableEntry) [(⟨0, 14, 21, 17⟩ : ExceptionTableEntry)] (htab.trans rfl) (fun _ h => absurd h List.not_mem_nil) (by decide) (by decide) (S.2.2.2.2 _ kw_5_177) (va_Nw.use rfl hB.c1) hce hcv hcl ?_
  have hP : va_P D vwCl ((xW o u cI cZ cJ) ++ [(ao, .inl (cJ, 1, .inr (.inl (fun _ => 0))))]) H := hP
  have hD : va_D A ((xW o u cI cZ cJ) ++ [(ao, .inl (cJ, 1, .inr (.inl (fun _ => 0))))]) := hD
  refine lv_astore (lv' := [(6, .ref q9), (0, .ref o), (1, .int 10), (2, .int x2), (3, .int x3), (4, .int x4), (5, .ref ao)]) hx hb dL_node_17 hl (by decide) rfl (fun ls hl => ?_)
  refine lv_iconst (v := 1) hx hb dL_node_19 (by decide) ?_
  exact vx_ret (wEnd S hr hlocks hP hD hS (Nat.le_of_ble_eq_true rfl) (Nat.le_of_ble_eq_true rfl) dL_node_20 rfl)

set_option maxHeartbeats 8000000 in
set_option maxRecDepth 100000 in
theorem c_X9_canBe_23 (l : Launch) (D : va_G) (cI cZ cJ : ClassId) (o : Nat) (q : Nat → Nat) (x2 : Int32) (x3 : Int32) (x4 : Int32) (lo_x2 : 16 ≤ x2) : Met l yX9_canBe (uW yX9_canBe cX9_canBe 5 (some .boolean)) ({ frames := 2, cells := 0, slots := 0, locals := 42 }) (va_Pc [.ref o, .int 10, .int x2, .int x3, .int x4] (pS D (tyL cI cZ cJ) (mW o 0 q cI cZ))) (QcRead (0)) 0 0 (fun _ => False) := by
  refine rdStart (lv := [(0, .ref o), (1, .int 10), (2, .int x2), (3, .int x3), (4, .int x4)]) (by decide) (Nat.le_of_ble_eq_true rfl) rfl ?_
  intro p e s m args below meth c ls S hr hlocks hl hP hK
  have hx := S.1
  have hb := S.2.1
  refine lv_iload_n hx hb dX9_canBe_0 rfl (lv_at hl 1 rfl) ?_
  refine lv_tableIn (off := 131) (tgt := 132) hx hb dX9_canBe_1 (by decide) (by decide) (by decide) (by decide) ?_
  refine lv_iload_n hx hb dX9_canBe_132 rfl (lv_at hl 2 rfl) ?_
  refine rdS (As := [.int x2]) S (c_X9_isName_1 l D cI cZ cJ o q x2 lo_x2) ms_X9_isName kw_7_108 ⟨rfl, rfl⟩ ⟨Nat.le_of_ble_eq_true rfl, Nat.le_of_ble_eq_true rfl⟩ hP hK hl.1 (Nat.le_of_ble_eq_true rfl) ⟨Nat.le_of_ble_eq_true rfl, Nat.le_of_ble_eq_true rfl⟩ dX9_canBe_133 ?_
  refine lv_if_eq (tgt := 152) hx hb dX9_canBe_136 (by decide) (fun _ => ?_) (fun c => absurd c (by decide))
  refine lv_iconst (v := 0) hx hb dX9_canBe_152 (by decide) ?_
  exact rdEndZ S hr hlocks dX9_canBe_153 rfl rfl

set_option maxHeartbeats 8000000 in
set_option maxRecDepth 100000 in
theorem c_X9_node_23 (l : Launch) (D : va_G) (cI cZ cJ : ClassId) (o : Nat) (q : Nat → Nat) (sz : Nat) (x2 : Int32) (x3 : Int32) (x4 : Int32) (lo_x2 : 16 ≤ x2) : Met l yX9_node (uW yX9_node cX9_node 6 (some .int)) ({ frames := 3, cells := 0, slots := 0, locals := 66 }) (va_Pc [.ref o, .int 10, .int x2, .int x3, .int x4] (wS D (tyL cI cZ cJ) (mW o 0 q cI cZ) sz)) (wQi (0) D (mW o 1 q cI cZ) (va_A (mW o 0 q cI cZ) sz)) 0 0 (va_A (mW o 0 q cI cZ) sz) := by
  refine wStart (lv := [(0, .ref o), (1, .int 10), (2, .int x2), (3, .int x3), (4, .int x4)]) (Qc := fun A => wQi (0) D (mW o 1 q cI cZ) A) (by decide) (Nat.le_of_ble_eq_true rfl) rfl ?_
  intro p e s m args below meth c ls A H S hr hlocks hnm hl hK hP hD hS hA
  have hx := S.1
  have hb := S.2.1
  refine lv_aload_n hx hb dX9_node_0 rfl (lv_at hl 0 rfl) ?_
  refine lv_iconst (v := 0) hx hb dX9_node_1 (by decide) ?_
  refine xp (ci := 9) (v := .int 0) S inX9 tyX9 tyX9_ok nmX9 rfl hK hP hD hS mW_0 0 (by decide) kw_6_148 rfl rfl rfl rfl (Nat.le_of_ble_eq_true rfl) dX9_node_2 (fun H locs hP hD hS => ?_)
  have hP : va_P D vwCl (mW o 0 q cI cZ) H := hP
  have hD : va_D A (mW o 0 q cI cZ) := hD
  refine lv_iload_n hx hb dX9_node_5 rfl (lv_at hl 1 rfl) ?_
  refine lv_iconst (v := 0) hx hb dX9_node_6 (by decide) ?_
  refine lv_bipush (v := 21) hx hb dX9_node_7 (by decide) ?_
  refine rdS (As := [.int 10, .int 0, .int 21]) S (c_X9_isIn_49 l D cI cZ cJ o q) ms_X9_isIn kw_7_101 ⟨rfl, rfl⟩ ⟨Nat.le_of_ble_eq_true rfl, Nat.le_of_ble_eq_true rfl⟩ hP hK hl.1 (Nat.le_of_ble_eq_true rfl) ⟨Nat.le_of_ble_eq_true rfl, Nat.le_of_ble_eq_true rfl⟩ dX9_node_9 ?_
  refine lv_if_eq (tgt := 27) hx hb dX9_node_12 (by decide) (fun c => absurd c (by decide)) (fun _ => ?_)
  refine lv_aload_n hx hb dX9_node_15 rfl (lv_at hl 0 rfl) ?_
  refine lv_iload_n hx hb dX9_node_16 rfl (lv_at hl 1 rfl) ?_
  refine lv_iload_n hx hb dX9_node_17 rfl (lv_at hl 2 rfl) ?_
  refine lv_iload_n hx hb dX9_node_18 rfl (lv_at hl 3 rfl) ?_
  refine lv_iload hx hb dX9_node_19 (lv_at hl 4 rfl) ?_
  refine rdV (As := [.int 10, .int x2, .int x3, .int x4]) (ci := 9) S (c_X9_canBe_23 l D cI cZ cJ o q x2 x3 x4 lo_x2) mi_X9_canBe kw_7_155 ⟨rfl, rfl⟩ ⟨Nat.le_of_ble_eq_true rfl, Nat.le_of_ble_eq_true rfl⟩ hP hK mW_0 rfl rfl hl.1 (Nat.le_of_ble_eq_true rfl) ⟨Nat.le_of_ble_eq_true rfl, Nat.le_of_ble_eq_true rfl⟩ dX9_node_21 ?_
  refine lv_if_ne (tgt := 33) hx hb dX9_node_24 (by decide) (fun c => absurd c (by decide)) (fun _ => ?_)
  refine lv_aload_n hx hb dX9_node_27 rfl (lv_at hl 0 rfl) ?_
  refine lv_iconst (v := 1) hx hb dX9_node_28 (by decide) ?_
  refine wrV (As := [.int 1]) (ci := 9) S (c_X9_no_0 l D cI cZ cJ o q H.size) mi_X9_no kw_7_104 rfl rfl ⟨Nat.le_of_ble_eq_true rfl, Nat.le_of_ble_eq_true rfl⟩ hP hD hK hS hA mW_0 rfl rfl hl.1 (Nat.le_of_ble_eq_true rfl) ⟨Nat.le_of_ble_eq_true rfl, Nat.le_of_ble_eq_true rfl⟩ dX9_node_29 (fun H locs hz hP hD hS => ?_)
  exact wEnd S hr hlocks hP hD hS (Nat.le_of_ble_eq_true rfl) (Nat.le_of_ble_eq_true rfl) dX9_node_32 rfl

set_option maxHeartbeats 8000000 in
set_option maxRecDepth 100000 in
theorem h_node_24 (l : Launch) (D : va_G) (cI cZ cJ : ClassId) (o : Nat) (u : Nat → Nat) (ao : Nat) (hst : l.stackTraces = false) (ra ga : Nat → Nat) (sz : Nat) (x2 : Int32) (lo_x2 : 0 ≤ x2) (hi_x2 : x2 ≤ 15) : vx_Met l yL_node (uWh yL_node cL_node 7 (some .int) [(0, 14, 17, 15), (0, 14, 21, 17)]) ({ frames := 4, cells := 0, slots := 0, locals := 90 }) (va_Pc [.ref o, .int 10, .int x2, .int 0, .int 0, .ref ao] (lS ra ga D (tyL cI cZ cJ) ((xW o u cI cZ cJ) ++ [(ao, .inl (cJ, 1, .inr (.inl (fun _ => 0))))]) sz)) (wQi (0) D (((((((((xW o u cI cZ cJ).set 13 ((u 12), .inr (5, ([.int 0, .ref (u 13), .ref (u 14), .ref (u 15), .ref (u 16), .ref (u 17), .ref (u 18)].set 0 (.int 1))))).set 14 ((u 13), .inl (cI, 110, .inl (upd (fun _ => 0) (0 : Int32).toNatClampNeg 10)))).set 15 ((u 14), .inl (cI, 110, .inl (upd (fun _ => 0) (0 : Int32).toNatClampNeg x2)))).set 16 ((u 15), .inl (cI, 110, .inl (upd (fun _ => 0) (0 : Int32).toNatClampNeg 0)))).set 17 ((u 16), .inl (cI, 110, .inl (upd (fun _ => 0) (0 : Int32).toNatClampNeg 0)))).set 18 ((u 17), .inl (cI, 110, .inl (upd (fun _ => 0) (0 : Int32).toNatClampNeg (-1))))).set 19 ((u 18), .inl (cI, 110, .inl (upd (fun _ => 0) (0 : Int32).toNatClampNeg (-1))))) ++ [(ao, .inl (cJ, 1, .inr (.inl (vp_updL (fun _ => 0) (0 : Int32).toNatClampNeg 0))))]) (va_A ((xW o u cI cZ cJ) ++ [(ao, .inl (cJ, 1, .inr (.inl (fun _ => 0))))]) sz)) (xN (va_A ((xW o u cI cZ cJ) ++ [(ao, .inl (cJ, 1, .inr (.inl (fun _ => 0))))]) sz)) 0 0 (va_A ((xW o u cI cZ cJ) ++ [(ao, .inl (cJ, 1, .inr (.inl (fun _ => 0))))]) sz) := by
  refine hStart (l := l) (y := yL_node) (b := cL_node) (n := 7) (r := (some .int)) (hh := [(0, 14, 17, 15), (0, 14, 21, 17)]) (rm := ({ frames := 4, cells := 0, slots := 0, locals := 90 })) (mc := 0) (ms := 0) (ra := ra) (ga := ga) (D := D) (tys := tyL cI cZ cJ) (ws := ((xW o u cI cZ cJ) ++ [(ao, .inl (cJ, 1, .inr (.inl (fun _ => 0))))])) (av := [.ref o, .int 10, .int x2, .int 0, .int 0, .ref ao]) (sz := sz) (lv := [(0, .ref o), (1, .int 10), (2, .int x2), (3, .int 0), (4, .int 0), (5, .ref ao)]) (Qc := fun A => wQi (0) D (((((((((xW o u cI cZ cJ).set 13 ((u 12), .inr (5, ([.int 0, .ref (u 13), .ref (u 14), .ref (u 15), .ref (u 16), .ref (u 17), .ref (u 18)].set 0 (.int 1))))).set 14 ((u 13), .inl (cI, 110, .inl (upd (fun _ => 0) (0 : Int32).toNatClampNeg 10)))).set 15 ((u 14), .inl (cI, 110, .inl (upd (fun _ => 0) (0 : Int32).toNatClampNeg x2)))).set 16 ((u 15), .inl (cI, 110, .inl (upd (fun _ => 0) (0 : Int32).toNatClampNeg 0)))).set 17 ((u 16), .inl (cI, 110, .inl (upd (fun _ => 0) (0 : Int32).toNatClampNeg 0)))).set 18 ((u 17), .inl (cI, 110, .inl (upd (fun _ => 0) (0 : Int32).toNatClampNeg (-1))))).set 19 ((u 18), .inl (cI, 110, .inl (upd (fun _ => 0) (0 : Int32).toNatClampNeg (-1))))) ++ [(ao, .inl (cJ, 1, .inr (.inl (vp_updL (fun _ => 0) (0 : Int32).toNatClampNeg 0))))]) A) (by decide) (Nat.le_of_ble_eq_true rfl) rfl ?_
  intro p e s m args below meth c ls A H S hr hlocks htab hl hK hP hD hS hA hB hC
  have hx := S.1
  have hb := S.2.1
  refine lv_aload hx hb dL_node_0 (lv_at hl 5 rfl) ?_
  refine lv_iconst (v := 0) hx hb dL_node_2 (by decide) ?_
  refine lv_aload_n hx hb dL_node_3 rfl (lv_at hl 0 rfl) ?_
  refine lv_iload_n hx hb dL_node_4 rfl (lv_at hl 1 rfl) ?_
  refine lv_iload_n hx hb dL_node_5 rfl (lv_at hl 2 rfl) ?_
  refine lv_iload_n hx hb dL_node_6 rfl (lv_at hl 3 rfl) ?_
  refine lv_iload hx hb dL_node_7 (lv_at hl 4 rfl) ?_
  refine faVi [] [(ao, .inl (cJ, 1, .inr (.inl (fun _ => 0))))] (As := [.int 10, .int x2, .int 0, .int 0]) (ci := 8) S (c_X8_node_24 l D cI cZ cJ o u ra ga H.size x2 lo_x2 hi_x2) mi_X8_node kw_6_23 rfl rfl ⟨Nat.le_of_ble_eq_true rfl, Nat.le_of_ble_eq_true rfl⟩ hP hD hK hS hA hB xW_0 rfl rfl hl.1 (Nat.le_of_ble_eq_true rfl) ⟨Nat.le_of_ble_eq_true rfl, Nat.le_of_ble_eq_true rfl⟩ dL_node_9 (fun H locs hz hP hD hS => ?_)
  have hP : va_P D vwCl (((((((((xW o u cI cZ cJ).set 13 ((u 12), .inr (5, ([.int 0, .ref (u 13), .ref (u 14), .ref (u 15), .ref (u 16), .ref (u 17), .ref (u 18)].set 0 (.int 1))))).set 14 ((u 13), .inl (cI, 110, .inl (upd (fun _ => 0) (0 : Int32).toNatClampNeg 10)))).set 15 ((u 14), .inl (cI, 110, .inl (upd (fun _ => 0) (0 : Int32).toNatClampNeg x2)))).set 16 ((u 15), .inl (cI, 110, .inl (upd (fun _ => 0) (0 : Int32).toNatClampNeg 0)))).set 17 ((u 16), .inl (cI, 110, .inl (upd (fun _ => 0) (0 : Int32).toNatClampNeg 0)))).set 18 ((u 17), .inl (cI, 110, .inl (upd (fun _ => 0) (0 : Int32).toNatClampNeg (-1))))).set 19 ((u 18), .inl (cI, 110, .inl (upd (fun _ => 0) (0 : Int32).toNatClampNeg (-1))))) ++ [(ao, .inl (cJ, 1, .inr (.inl (fun _ => 0))))]) H := hP
  have hD : va_D A (((((((((xW o u cI cZ cJ).set 13 ((u 12), .inr (5, ([.int 0, .ref (u 13), .ref (u 14), .ref (u 15), .ref (u 16), .ref (u 17), .ref (u 18)].set 0 (.int 1))))).set 14 ((u 13), .inl (cI, 110, .inl (upd (fun _ => 0) (0 : Int32).toNatClampNeg 10)))).set 15 ((u 14), .inl (cI, 110, .inl (upd (fun _ => 0) (0 : Int32).toNatClampNeg x2)))).set 16 ((u 15), .inl (cI, 110, .inl (upd (fun _ => 0) (0 : Int32).toNatClampNeg 0)))).set 17 ((u 16), .inl (cI, 110, .inl (upd (fun _ => 0) (0 : Int32).toNatClampNeg 0)))).set 18 ((u 17), .inl (cI, 110, .inl (upd (fun _ => 0) (0 : Int32).toNatClampNeg (-1))))).set 19 ((u 18), .inl (cI, 110, .inl (upd (fun _ => 0) (0 : Int32).toNatClampNeg (-1))))) ++ [(ao, .inl (cJ, 1, .inr (.inl (fun _ => 0))))]) := hD
  refine lv_i2l (v := 0) hx hb dL_node_12 (by decide) ?_
  refine xlast (t0 := 2) S hK hP hD hS (q0 := 88) rfl rfl (vin rfl) dL_node_13 (fun H locs hP hD hS => ?_)
  have hP : va_P D vwCl (((((((((xW o u cI cZ cJ).set 13 ((u 12), .inr (5, ([.int 0, .ref (u 13), .ref (u 14), .ref (u 15), .ref (u 16), .ref (u 17), .ref (u 18)].set 0 (.int 1))))).set 14 ((u 13), .inl (cI, 110, .inl (upd (fun _ => 0) (0 : Int32).toNatClampNeg 10)))).set 15 ((u 14), .inl (cI, 110, .inl (upd (fun _ => 0) (0 : Int32).toNatClampNeg x2)))).set 16 ((u 15), .inl (cI, 110, .inl (upd (fun _ => 0) (0 : Int32).toNatClampNeg 0)))).set 17 ((u 16), .inl (cI, 110, .inl (upd (fun _ => 0) (0 : Int32).toNatClampNeg 0)))).set 18 ((u 17), .inl (cI, 110, .inl (upd (fun _ => 0) (0 : Int32).toNatClampNeg (-1))))).set 19 ((u 18), .inl (cI, 110, .inl (upd (fun _ => 0) (0 : Int32).toNatClampNeg (-1))))) ++ [(ao, .inl (cJ, 1, .inr (.inl (vp_updL (fun _ => 0) (0 : Int32).toNatClampNeg 0))))]) H := hP
  have hD : va_D A (((((((((xW o u cI cZ cJ).set 13 ((u 12), .inr (5, ([.int 0, .ref (u 13), .ref (u 14), .ref (u 15), .ref (u 16), .ref (u 17), .ref (u 18)].set 0 (.int 1))))).set 14 ((u 13), .inl (cI, 110, .inl (upd (fun _ => 0) (0 : Int32).toNatClampNeg 10)))).set 15 ((u 14), .inl (cI, 110, .inl (upd (fun _ => 0) (0 : Int32).toNatClampNeg x2)))).set 16 ((u 15), .inl (cI, 110, .inl (upd (fun _ => 0) (0 : Int32).toNatClampNeg 0)))).set 17 ((u 16), .inl (cI, 110, .inl (upd (fun _ => 0) (0 : Int32).toNatClampNeg 0)))).set 18 ((u 17), .inl (cI, 110, .inl (upd (fun _ => 0) (0 : Int32).toNatClampNeg (-1))))).set 19 ((u 18), .inl (cI, 110, .inl (upd (fun _ => 0) (0 : Int32).toNatClampNeg (-1))))) ++ [(ao, .inl (cJ, 1, .inr (.inl (vp_updL (fun _ => 0) (0 : Int32).toNatClampNeg 0))))]) := hD
  refine lv_goto (tgt := 25) hx hb dL_node_14 (by decide) ?_
  refine lv_iconst (v := 0) hx hb dL_node_25 (by decide) ?_
  exact vx_ret (wEnd S hr hlocks hP hD hS (Nat.le_of_ble_eq_true rfl) (Nat.le_of_ble_eq_true rfl) dL_node_26 rfl)

set_option maxHeartbeats 8000000 in
set_option maxRecDepth 100000 in
theorem c_X9_canBe_24 (l : Launch) (D : va_G) (cI cZ cJ : ClassId) (o : Nat) (q : Nat → Nat) (x2 : Int32) (lo_x2 : 0 ≤ x2) (hi_x2 : x2 ≤ 15) : Met l yX9_canBe (uW yX9_canBe cX9_canBe 5 (some .boolean)) ({ frames := 2, cells := 0, slots := 0, locals := 42 }) (va_Pc [.ref o, .int 10, .int x2, .int 0, .int 0] (pS D (tyL cI cZ cJ) (mW o 0 q cI cZ))) (QcRead (1)) 0 0 (fun _ => False) := by
  refine rdStart (lv := [(0, .ref o), (1, .int 10), (2, .int x2), (3, .int 0), (4, .int 0)]) (by decide) (Nat.le_of_ble_eq_true rfl) rfl ?_
  intro p e s m args below meth c ls S hr hlocks hl hP hK
  have hx := S.1
  have hb := S.2.1
  refine lv_iload_n hx hb dX9_canBe_0 rfl (lv_at hl 1 rfl) ?_
  refine lv_tableIn (off := 131) (tgt := 132) hx hb dX9_canBe_1 (by decide) (by decide) (by decide) (by decide) ?_
  refine lv_iload_n hx hb dX9_canBe_132 rfl (lv_at hl 2 rfl) ?_
  refine rdS (As := [.int x2]) S (c_X9_isName_2 l D cI cZ cJ o q x2 lo_x2 hi_x2) ms_X9_isName kw_7_108 ⟨rfl, rfl⟩ ⟨Nat.le_of_ble_eq_true rfl, Nat.le_of_ble_eq_true rfl⟩ hP hK hl.1 (Nat.le_of_ble_eq_true rfl) ⟨Nat.le_of_ble_eq_true rfl, Nat.le_of_ble_eq_true rfl⟩ dX9_canBe_133 ?_
  refine lv_if_eq (tgt := 152) hx hb dX9_canBe_136 (by decide) (fun c => absurd c (by decide)) (fun _ => ?_)
  refine lv_iload_n hx hb dX9_canBe_139 rfl (lv_at hl 3 rfl) ?_
  refine lv_if_ne (tgt := 152) hx hb dX9_canBe_140 (by decide) (fun c => absurd c (by decide)) (fun _ => ?_)
  refine lv_iload hx hb dX9_canBe_143 (lv_at hl 4 rfl) ?_
  refine lv_if_ne (tgt := 152) hx hb dX9_canBe_145 (by decide) (fun c => absurd c (by decide)) (fun _ => ?_)
  refine lv_iconst (v := 1) hx hb dX9_canBe_148 (by decide) ?_
  refine lv_goto (tgt := 153) hx hb dX9_canBe_149 (by decide) ?_
  exact rdEndZ S hr hlocks dX9_canBe_153 rfl rfl

set_option maxHeartbeats 8000000 in
set_option maxRecDepth 100000 in
theorem c_X9_parts_3 (l : Launch) (D : va_G) (cI cZ cJ : ClassId) (o : Nat) (q : Nat → Nat) (x2 : Int32) (lo_x2 : 0 ≤ x2) (hi_x2 : x2 ≤ 15) : Met l yX9_parts (uW yX9_parts cX9_parts 1 (some .int)) ({ frames := 0, cells := 0, slots := 0, locals := 0 }) (va_Pc [.int 10] (pS D (tyL cI cZ cJ) (((((((mW o 0 q cI cZ).set 12 ((q 11), .inl (cI, 110, .inl (upd (fun _ => 0) (0 : Int32).toNatClampNeg 10)))).set 13 ((q 12), .inl (cI, 110, .inl (upd (fun _ => 0) (0 : Int32).toNatClampNeg x2)))).set 14 ((q 13), .inl (cI, 110, .inl (upd (fun _ => 0) (0 : Int32).toNatClampNeg 0)))).set 15 ((q 14), .inl (cI, 110, .inl (upd (fun _ => 0) (0 : Int32).toNatClampNeg 0)))).set 16 ((q 15), .inl (cI, 110, .inl (upd (fun _ => 0) (0 : Int32).toNatClampNeg (-1))))).set 17 ((q 16), .inl (cI, 110, .inl (upd (fun _ => 0) (0 : Int32).toNatClampNeg (-1))))))) (QcRead (0)) 0 0 (fun _ => False) := by
  refine rdStart (lv := [(0, .int 10)]) (by decide) (Nat.le_of_ble_eq_true rfl) rfl ?_
  intro p e s m args below meth c ls S hr hlocks hl hP hK
  have hx := S.1
  have hb := S.2.1
  refine lv_iload_n hx hb dX9_parts_0 rfl (lv_at hl 0 rfl) ?_
  refine lv_tableIn (off := 103) (tgt := 104) hx hb dX9_parts_1 (by decide) (by decide) (by decide) (by decide) ?_
  refine lv_iconst (v := 0) hx hb dX9_parts_104 (by decide) ?_
  exact rdEnd S hr hlocks dX9_parts_105 rfl

set_option maxHeartbeats 8000000 in
set_option maxRecDepth 100000 in
theorem c_X9_has_9 (l : Launch) (D : va_G) (cI cZ cJ : ClassId) (o : Nat) (q : Nat → Nat) (x2 : Int32) (lo_x2 : 0 ≤ x2) (hi_x2 : x2 ≤ 15) : Met l yX9_has (uW yX9_has cX9_has 2 (some .boolean)) ({ frames := 0, cells := 0, slots := 0, locals := 0 }) (va_Pc [.int 0, .int 0] (pS D (tyL cI cZ cJ) (((((((mW o 0 q cI cZ).set 12 ((q 11), .inl (cI, 110, .inl (upd (fun _ => 0) (0 : Int32).toNatClampNeg 10)))).set 13 ((q 12), .inl (cI, 110, .inl (upd (fun _ => 0) (0 : Int32).toNatClampNeg x2)))).set 14 ((q 13), .inl (cI, 110, .inl (upd (fun _ => 0) (0 : Int32).toNatClampNeg 0)))).set 15 ((q 14), .inl (cI, 110, .inl (upd (fun _ => 0) (0 : Int32).toNatClampNeg 0)))).set 16 ((q 15), .inl (cI, 110, .inl (upd (fun _ => 0) (0 : Int32).toNatClampNeg (-1))))).set 17 ((q 16), .inl (cI, 110, .inl (upd (fun _ => 0) (0 : Int32).toNatClampNeg (-1))))))) (QcRead (0)) 0 0 (fun _ => False) := by
  refine rdStart (lv := [(0, .int 0), (1, .int 0)]) (by decide) (Nat.le_of_ble_eq_true rfl) rfl ?_
  intro p e s m args below meth c ls S hr hlocks hl hP hK
  have hx := S.1
  have hb := S.2.1
  refine lv_iload_n hx hb dX9_has_0 rfl (lv_at hl 0 rfl) ?_
  refine lv_iload_n hx hb dX9_has_1 rfl (lv_at hl 1 rfl) ?_
  refine xishr (v := 0) S dX9_has_2 (by decide) ?_
  refine lv_iconst (v := 1) hx hb dX9_has_3 (by decide) ?_
  refine xiand (v := 0) S dX9_has_4 (by decide) ?_
  refine lv_iconst (v := 1) hx hb dX9_has_5 (by decide) ?_
  refine lv_icmp_ne (tgt := 13) hx hb dX9_has_6 (by decide) (fun _ => ?_) (fun c => absurd c (by decide))
  refine lv_iconst (v := 0) hx hb dX9_has_13 (by decide) ?_
  exact rdEndZ S hr hlocks dX9_has_14 rfl rfl

set_option maxHeartbeats 8000000 in
set_option maxRecDepth 100000 in
theorem c_X9_part_9 (l : Launch) (D : va_G) (cI cZ cJ : ClassId) (o : Nat) (q : Nat → Nat) (x2 : Int32) (lo_x2 : 0 ≤ x2) (hi_x2 : x2 ≤ 15) : Met l yX9_part (uW yX9_part cX9_part 3 (some .int)) ({ frames := 1, cells := 0, slots := 0, locals := 21 }) (va_Pc [.ref o, .int 0, .int 0] (pS D (tyL cI cZ cJ) (((((((mW o 0 q cI cZ).set 12 ((q 11), .inl (cI, 110, .inl (upd (fun _ => 0) (0 : Int32).toNatClampNeg 10)))).set 13 ((q 12), .inl (cI, 110, .inl (upd (fun _ => 0) (0 : Int32).toNatClampNeg x2)))).set 14 ((q 13), .inl (cI, 110, .inl (upd (fun _ => 0) (0 : Int32).toNatClampNeg 0)))).set 15 ((q 14), .inl (cI, 110, .inl (upd (fun _ => 0) (0 : Int32).toNatClampNeg 0)))).set 16 ((q 15), .inl (cI, 110, .inl (upd (fun _ => 0) (0 : Int32).toNatClampNeg (-1))))).set 17 ((q 16), .inl (cI, 110, .inl (upd (fun _ => 0) (0 : Int32).toNatClampNeg (-1))))))) (QcRead ((-1))) 0 0 (fun _ => False) := by
  refine rdStart (lv := [(0, .ref o), (1, .int 0), (2, .int 0)]) (by decide) (Nat.le_of_ble_eq_true rfl) rfl ?_
  intro p e s m args below meth c ls S hr hlocks hl hP hK
  have hx := S.1
  have hb := S.2.1
  refine lv_aload_n hx hb dX9_part_0 rfl (lv_at hl 0 rfl) ?_
  refine xg (ci := 9) S inX9 rfl hK hP (q0 := 0) rfl 14 (by decide) mF_14 kw_6_162 rfl dX9_part_1 ?_
  refine lv_iload_n hx hb dX9_part_4 rfl (lv_at hl 1 rfl) ?_
  refine xiald (t0 := 0) (v := 10) S hK hP (q0 := 12) rfl rfl (vin rfl) rfl dX9_part_5 ?_
  refine rdS (As := [.int 10]) S (c_X9_parts_3 l D cI cZ cJ o q x2 lo_x2 hi_x2) ms_X9_parts kw_7_189 ⟨rfl, rfl⟩ ⟨Nat.le_of_ble_eq_true rfl, Nat.le_of_ble_eq_true rfl⟩ hP hK hl.1 (Nat.le_of_ble_eq_true rfl) ⟨Nat.le_of_ble_eq_true rfl, Nat.le_of_ble_eq_true rfl⟩ dX9_part_6 ?_
  refine lv_iload_n hx hb dX9_part_9 rfl (lv_at hl 2 rfl) ?_
  refine rdS (As := [.int 0, .int 0]) S (c_X9_has_9 l D cI cZ cJ o q x2 lo_x2 hi_x2) ms_X9_has kw_7_192 ⟨rfl, rfl⟩ ⟨Nat.le_of_ble_eq_true rfl, Nat.le_of_ble_eq_true rfl⟩ hP hK hl.1 (Nat.le_of_ble_eq_true rfl) ⟨Nat.le_of_ble_eq_true rfl, Nat.le_of_ble_eq_true rfl⟩ dX9_part_10 ?_
  refine lv_if_ne (tgt := 18) hx hb dX9_part_13 (by decide) (fun c => absurd c (by decide)) (fun _ => ?_)
  refine lv_iconst (v := (-1)) hx hb dX9_part_16 (by decide) ?_
  exact rdEnd S hr hlocks dX9_part_17 rfl

set_option maxHeartbeats 8000000 in
set_option maxRecDepth 100000 in
theorem c_X9_has_10 (l : Launch) (D : va_G) (cI cZ cJ : ClassId) (o : Nat) (q : Nat → Nat) (x2 : Int32) (lo_x2 : 0 ≤ x2) (hi_x2 : x2 ≤ 15) : Met l yX9_has (uW yX9_has cX9_has 2 (some .boolean)) ({ frames := 0, cells := 0, slots := 0, locals := 0 }) (va_Pc [.int 0, .int 1] (pS D (tyL cI cZ cJ) (((((((mW o 0 q cI cZ).set 12 ((q 11), .inl (cI, 110, .inl (upd (fun _ => 0) (0 : Int32).toNatClampNeg 10)))).set 13 ((q 12), .inl (cI, 110, .inl (upd (fun _ => 0) (0 : Int32).toNatClampNeg x2)))).set 14 ((q 13), .inl (cI, 110, .inl (upd (fun _ => 0) (0 : Int32).toNatClampNeg 0)))).set 15 ((q 14), .inl (cI, 110, .inl (upd (fun _ => 0) (0 : Int32).toNatClampNeg 0)))).set 16 ((q 15), .inl (cI, 110, .inl (upd (fun _ => 0) (0 : Int32).toNatClampNeg (-1))))).set 17 ((q 16), .inl (cI, 110, .inl (upd (fun _ => 0) (0 : Int32).toNatClampNeg (-1))))))) (QcRead (0)) 0 0 (fun _ => False) := by
  refine rdStart (lv := [(0, .int 0), (1, .int 1)]) (by decide) (Nat.le_of_ble_eq_true rfl) rfl ?_
  intro p e s m args below meth c ls S hr hlocks hl hP hK
  have hx := S.1
  have hb := S.2.1
  refine lv_iload_n hx hb dX9_has_0 rfl (lv_at hl 0 rfl) ?_
  refine lv_iload_n hx hb dX9_has_1 rfl (lv_at hl 1 rfl) ?_
  refine xishr (v := 0) S dX9_has_2 (by decide) ?_
  refine lv_iconst (v := 1) hx hb dX9_has_3 (by decide) ?_
  refine xiand (v := 0) S dX9_has_4 (by decide) ?_
  refine lv_iconst (v := 1) hx hb dX9_has_5 (by decide) ?_
  refine lv_icmp_ne (tgt := 13) hx hb dX9_has_6 (by decide) (fun _ => ?_) (fun c => absurd c (by decide))
  refine lv_iconst (v := 0) hx hb dX9_has_13 (by decide) ?_
  exact rdEndZ S hr hlocks dX9_has_14 rfl rfl

set_option maxHeartbeats 8000000 in
set_option maxRecDepth 100000 in
theorem c_X9_part_10 (l : Launch) (D : va_G) (cI cZ cJ : ClassId) (o : Nat) (q : Nat → Nat) (x2 : Int32) (lo_x2 : 0 ≤ x2) (hi_x2 : x2 ≤ 15) : Met l yX9_part (uW yX9_part cX9_part 3 (some .int)) ({ frames := 1, cells := 0, slots := 0, locals := 21 }) (va_Pc [.ref o, .int 0, .int 1] (pS D (tyL cI cZ cJ) (((((((mW o 0 q cI cZ).set 12 ((q 11), .inl (cI, 110, .inl (upd (fun _ => 0) (0 : Int32).toNatClampNeg 10)))).set 13 ((q 12), .inl (cI, 110, .inl (upd (fun _ => 0) (0 : Int32).toNatClampNeg x2)))).set 14 ((q 13), .inl (cI, 110, .inl (upd (fun _ => 0) (0 : Int32).toNatClampNeg 0)))).set 15 ((q 14), .inl (cI, 110, .inl (upd (fun _ => 0) (0 : Int32).toNatClampNeg 0)))).set 16 ((q 15), .inl (cI, 110, .inl (upd (fun _ => 0) (0 : Int32).toNatClampNeg (-1))))).set 17 ((q 16), .inl (cI, 110, .inl (upd (fun _ => 0) (0 : Int32).toNatClampNeg (-1))))))) (QcRead ((-1))) 0 0 (fun _ => False) := by
  refine rdStart (lv := [(0, .ref o), (1, .int 0), (2, .int 1)]) (by decide) (Nat.le_of_ble_eq_true rfl) rfl ?_
  intro p e s m args below meth c ls S hr hlocks hl hP hK
  have hx := S.1
  have hb := S.2.1
  refine lv_aload_n hx hb dX9_part_0 rfl (lv_at hl 0 rfl) ?_
  refine xg (ci := 9) S inX9 rfl hK hP (q0 := 0) rfl 14 (by decide) mF_14 kw_6_162 rfl dX9_part_1 ?_
  refine lv_iload_n hx hb dX9_part_4 rfl (lv_at hl 1 rfl) ?_
  refine xiald (t0 := 0) (v := 10) S hK hP (q0 := 12) rfl rfl (vin rfl) rfl dX9_part_5 ?_
  refine rdS (As := [.int 10]) S (c_X9_parts_3 l D cI cZ cJ o q x2 lo_x2 hi_x2) ms_X9_parts kw_7_189 ⟨rfl, rfl⟩ ⟨Nat.le_of_ble_eq_true rfl, Nat.le_of_ble_eq_true rfl⟩ hP hK hl.1 (Nat.le_of_ble_eq_true rfl) ⟨Nat.le_of_ble_eq_true rfl, Nat.le_of_ble_eq_true rfl⟩ dX9_part_6 ?_
  refine lv_iload_n hx hb dX9_part_9 rfl (lv_at hl 2 rfl) ?_
  refine rdS (As := [.int 0, .int 1]) S (c_X9_has_10 l D cI cZ cJ o q x2 lo_x2 hi_x2) ms_X9_has kw_7_192 ⟨rfl, rfl⟩ ⟨Nat.le_of_ble_eq_true rfl, Nat.le_of_ble_eq_true rfl⟩ hP hK hl.1 (Nat.le_of_ble_eq_true rfl) ⟨Nat.le_of_ble_eq_true rfl, Nat.le_of_ble_eq_true rfl⟩ dX9_part_10 ?_
  refine lv_if_ne (tgt := 18) hx hb dX9_part_13 (by decide) (fun c => absurd c (by decide)) (fun _ => ?_)
  refine lv_iconst (v := (-1)) hx hb dX9_part_16 (by decide) ?_
  exact rdEnd S hr hlocks dX9_part_17 rfl

set_option maxHeartbeats 8000000 in
set_option maxRecDepth 100000 in
theorem c_X9_has_11 (l : Launch) (D : va_G) (cI cZ cJ : ClassId) (o : Nat) (q : Nat → Nat) (x2 : Int32) (lo_x2 : 0 ≤ x2) (hi_x2 : x2 ≤ 15) : Met l yX9_has (uW yX9_has cX9_has 2 (some .boolean)) ({ frames := 0, cells := 0, slots := 0, locals := 0 }) (va_Pc [.int 0, .int 2] (pS D (tyL cI cZ cJ) (((((((mW o 0 q cI cZ).set 12 ((q 11), .inl (cI, 110, .inl (upd (fun _ => 0) (0 : Int32).toNatClampNeg 10)))).set 13 ((q 12), .inl (cI, 110, .inl (upd (fun _ => 0) (0 : Int32).toNatClampNeg x2)))).set 14 ((q 13), .inl (cI, 110, .inl (upd (fun _ => 0) (0 : Int32).toNatClampNeg 0)))).set 15 ((q 14), .inl (cI, 110, .inl (upd (fun _ => 0) (0 : Int32).toNatClampNeg 0)))).set 16 ((q 15), .inl (cI, 110, .inl (upd (fun _ => 0) (0 : Int32).toNatClampNeg (-1))))).set 17 ((q 16), .inl (cI, 110, .inl (upd (fun _ => 0) (0 : Int32).toNatClampNeg (-1))))))) (QcRead (0)) 0 0 (fun _ => False) := by
  refine rdStart (lv := [(0, .int 0), (1, .int 2)]) (by decide) (Nat.le_of_ble_eq_true rfl) rfl ?_
  intro p e s m args below meth c ls S hr hlocks hl hP hK
  have hx := S.1
  have hb := S.2.1
  refine lv_iload_n hx hb dX9_has_0 rfl (lv_at hl 0 rfl) ?_
  refine lv_iload_n hx hb dX9_has_1 rfl (lv_at hl 1 rfl) ?_
  refine xishr (v := 0) S dX9_has_2 (by decide) ?_
  refine lv_iconst (v := 1) hx hb dX9_has_3 (by decide) ?_
  refine xiand (v := 0) S dX9_has_4 (by decide) ?_
  refine lv_iconst (v := 1) hx hb dX9_has_5 (by decide) ?_
  refine lv_icmp_ne (tgt := 13) hx hb dX9_has_6 (by decide) (fun _ => ?_) (fun c => absurd c (by decide))
  refine lv_iconst (v := 0) hx hb dX9_has_13 (by decide) ?_
  exact rdEndZ S hr hlocks dX9_has_14 rfl rfl

set_option maxHeartbeats 8000000 in
set_option maxRecDepth 100000 in
theorem c_X9_part_11 (l : Launch) (D : va_G) (cI cZ cJ : ClassId) (o : Nat) (q : Nat → Nat) (x2 : Int32) (lo_x2 : 0 ≤ x2) (hi_x2 : x2 ≤ 15) : Met l yX9_part (uW yX9_part cX9_part 3 (some .int)) ({ frames := 1, cells := 0, slots := 0, locals := 21 }) (va_Pc [.ref o, .int 0, .int 2] (pS D (tyL cI cZ cJ) (((((((mW o 0 q cI cZ).set 12 ((q 11), .inl (cI, 110, .inl (upd (fun _ => 0) (0 : Int32).toNatClampNeg 10)))).set 13 ((q 12), .inl (cI, 110, .inl (upd (fun _ => 0) (0 : Int32).toNatClampNeg x2)))).set 14 ((q 13), .inl (cI, 110, .inl (upd (fun _ => 0) (0 : Int32).toNatClampNeg 0)))).set 15 ((q 14), .inl (cI, 110, .inl (upd (fun _ => 0) (0 : Int32).toNatClampNeg 0)))).set 16 ((q 15), .inl (cI, 110, .inl (upd (fun _ => 0) (0 : Int32).toNatClampNeg (-1))))).set 17 ((q 16), .inl (cI, 110, .inl (upd (fun _ => 0) (0 : Int32).toNatClampNeg (-1))))))) (QcRead ((-1))) 0 0 (fun _ => False) := by
  refine rdStart (lv := [(0, .ref o), (1, .int 0), (2, .int 2)]) (by decide) (Nat.le_of_ble_eq_true rfl) rfl ?_
  intro p e s m args below meth c ls S hr hlocks hl hP hK
  have hx := S.1
  have hb := S.2.1
  refine lv_aload_n hx hb dX9_part_0 rfl (lv_at hl 0 rfl) ?_
  refine xg (ci := 9) S inX9 rfl hK hP (q0 := 0) rfl 14 (by decide) mF_14 kw_6_162 rfl dX9_part_1 ?_
  refine lv_iload_n hx hb dX9_part_4 rfl (lv_at hl 1 rfl) ?_
  refine xiald (t0 := 0) (v := 10) S hK hP (q0 := 12) rfl rfl (vin rfl) rfl dX9_part_5 ?_
  refine rdS (As := [.int 10]) S (c_X9_parts_3 l D cI cZ cJ o q x2 lo_x2 hi_x2) ms_X9_parts kw_7_189 ⟨rfl, rfl⟩ ⟨Nat.le_of_ble_eq_true rfl, Nat.le_of_ble_eq_true rfl⟩ hP hK hl.1 (Nat.le_of_ble_eq_true rfl) ⟨Nat.le_of_ble_eq_true rfl, Nat.le_of_ble_eq_true rfl⟩ dX9_part_6 ?_
  refine lv_iload_n hx hb dX9_part_9 rfl (lv_at hl 2 rfl) ?_
  refine rdS (As := [.int 0, .int 2]) S (c_X9_has_11 l D cI cZ cJ o q x2 lo_x2 hi_x2) ms_X9_has kw_7_192 ⟨rfl, rfl⟩ ⟨Nat.le_of_ble_eq_true rfl, Nat.le_of_ble_eq_true rfl⟩ hP hK hl.1 (Nat.le_of_ble_eq_true rfl) ⟨Nat.le_of_ble_eq_true rfl, Nat.le_of_ble_eq_true rfl⟩ dX9_part_10 ?_
  refine lv_if_ne (tgt := 18) hx hb dX9_part_13 (by decide) (fun c => absurd c (by decide)) (fun _ => ?_)
  refine lv_iconst (v := (-1)) hx hb dX9_part_16 (by decide) ?_
  exact rdEnd S hr hlocks dX9_part_17 rfl

set_option maxHeartbeats 8000000 in
set_option maxRecDepth 100000 in
theorem c_X9_node_24 (l : Launch) (D : va_G) (cI cZ cJ : ClassId) (o : Nat) (q : Nat → Nat) (sz : Nat) (x2 : Int32) (lo_x2 : 0 ≤ x2) (hi_x2 : x2 ≤ 15) : Met l yX9_node (uW yX9_node cX9_node 6 (some .int)) ({ frames := 3, cells := 0, slots := 0, locals := 66 }) (va_Pc [.ref o, .int 10, .int x2, .int 0, .int 0] (wS D (tyL cI cZ cJ) (mW o 0 q cI cZ) sz)) (wQi (0) D ((((((((mW o 0 q cI cZ).set 0 (o, .inr (9, ((mF 0 q).set 13 (.int 1))))).set 12 ((q 11), .inl (cI, 110, .inl (upd (fun _ => 0) (0 : Int32).toNatClampNeg 10)))).set 13 ((q 12), .inl (cI, 110, .inl (upd (fun _ => 0) (0 : Int32).toNatClampNeg x2)))).set 14 ((q 13), .inl (cI, 110, .inl (upd (fun _ => 0) (0 : Int32).toNatClampNeg 0)))).set 15 ((q 14), .inl (cI, 110, .inl (upd (fun _ => 0) (0 : Int32).toNatClampNeg 0)))).set 16 ((q 15), .inl (cI, 110, .inl (upd (fun _ => 0) (0 : Int32).toNatClampNeg (-1))))).set 17 ((q 16), .inl (cI, 110, .inl (upd (fun _ => 0) (0 : Int32).toNatClampNeg (-1))))) (va_A (mW o 0 q cI cZ) sz)) 0 0 (va_A (mW o 0 q cI cZ) sz) := by
  refine wStart (lv := [(0, .ref o), (1, .int 10), (2, .int x2), (3, .int 0), (4, .int 0)]) (Qc := fun A => wQi (0) D ((((((((mW o 0 q cI cZ).set 0 (o, .inr (9, ((mF 0 q).set 13 (.int 1))))).set 12 ((q 11), .inl (cI, 110, .inl (upd (fun _ => 0) (0 : Int32).toNatClampNeg 10)))).set 13 ((q 12), .inl (cI, 110, .inl (upd (fun _ => 0) (0 : Int32).toNatClampNeg x2)))).set 14 ((q 13), .inl (cI, 110, .inl (upd (fun _ => 0) (0 : Int32).toNatClampNeg 0)))).set 15 ((q 14), .inl (cI, 110, .inl (upd (fun _ => 0) (0 : Int32).toNatClampNeg 0)))).set 16 ((q 15), .inl (cI, 110, .inl (upd (fun _ => 0) (0 : Int32).toNatClampNeg (-1))))).set 17 ((q 16), .inl (cI, 110, .inl (upd (fun _ => 0) (0 : Int32).toNatClampNeg (-1))))) A) (by decide) (Nat.le_of_ble_eq_true rfl) rfl ?_
  intro p e s m args below meth c ls A H S hr hlocks hnm hl hK hP hD hS hA
  have hx := S.1
  have hb := S.2.1
  refine lv_aload_n hx hb dX9_node_0 rfl (lv_at hl 0 rfl) ?_
  refine lv_iconst (v := 0) hx hb dX9_node_1 (by decide) ?_
  refine xp (ci := 9) (v := .int 0) S inX9 tyX9 tyX9_ok nmX9 rfl hK hP hD hS mW_0 0 (by decide) kw_6_148 rfl rfl rfl rfl (Nat.le_of_ble_eq_true rfl) dX9_node_2 (fun H locs hP hD hS => ?_)
  have hP : va_P D vwCl (mW o 0 q cI cZ) H := hP
  have hD : va_D A (mW o 0 q cI cZ) := hD
  refine lv_iload_n hx hb dX9_node_5 rfl (lv_at hl 1 rfl) ?_
  refine lv_iconst (v := 0) hx hb dX9_node_6 (by decide) ?_
  refine lv_bipush (v := 21) hx hb dX9_node_7 (by decide) ?_
  refine rdS (As := [.int 10, .int 0, .int 21]) S (c_X9_isIn_49 l D cI cZ cJ o q) ms_X9_isIn kw_7_101 ⟨rfl, rfl⟩ ⟨Nat.le_of_ble_eq_true rfl, Nat.le_of_ble_eq_true rfl⟩ hP hK hl.1 (Nat.le_of_ble_eq_true rfl) ⟨Nat.le_of_ble_eq_true rfl, Nat.le_of_ble_eq_true rfl⟩ dX9_node_9 ?_
  refine lv_if_eq (tgt := 27) hx hb dX9_node_12 (by decide) (fun c => absurd c (by decide)) (fun _ => ?_)
  refine lv_aload_n hx hb dX9_node_15 rfl (lv_at hl 0 rfl) ?_
  refine lv_iload_n hx hb dX9_node_16 rfl (lv_at hl 1 rfl) ?_
  refine lv_iload_n hx hb dX9_node_17 rfl (lv_at hl 2 rfl) ?_
  refine lv_iload_n hx hb dX9_node_18 rfl (lv_at hl 3 rfl) ?_
  refine lv_iload hx hb dX9_node_19 (lv_at hl 4 rfl) ?_
  refine rdV (As := [.int 10, .int x2, .int 0, .int 0]) (ci := 9) S (c_X9_canBe_24 l D cI cZ cJ o q x2 lo_x2 hi_x2) mi_X9_canBe kw_7_155 ⟨rfl, rfl⟩ ⟨Nat.le_of_ble_eq_true rfl, Nat.le_of_ble_eq_true rfl⟩ hP hK mW_0 rfl rfl hl.1 (Nat.le_of_ble_eq_true rfl) ⟨Nat.le_of_ble_eq_true rfl, Nat.le_of_ble_eq_true rfl⟩ dX9_node_21 ?_
  refine lv_if_ne (tgt := 33) hx hb dX9_node_24 (by decide) (fun _ => ?_) (fun c => absurd c (by decide))
  refine lv_aload_n hx hb dX9_node_33 rfl (lv_at hl 0 rfl) ?_
  refine xg (ci := 9) S inX9 rfl hK hP mW_0 13 (by decide) mF_13 kw_6_161 rfl dX9_node_34 ?_
  refine lv_bipush (v := 110) hx hb dX9_node_37 (by decide) ?_
  refine lv_icmp_ne (tgt := 48) hx hb dX9_node_39 (by decide) (fun _ => ?_) (fun c => absurd c (by decide))
  refine lv_aload_n hx hb dX9_node_48 rfl (lv_at hl 0 rfl) ?_
  refine xg (ci := 9) S inX9 rfl hK hP mW_0 14 (by decide) mF_14 kw_6_162 rfl dX9_node_49 ?_
  refine lv_aload_n hx hb dX9_node_52 rfl (lv_at hl 0 rfl) ?_
  refine xg (ci := 9) S inX9 rfl hK hP mW_0 13 (by decide) mF_13 kw_6_161 rfl dX9_node_53 ?_
  refine lv_iload_n hx hb dX9_node_56 rfl (lv_at hl 1 rfl) ?_
  refine xiast (t0 := 0) S hK hP hD hS mW_12 rfl (vin rfl) dX9_node_57 (fun H locs hP hD hS => ?_)
  have hP : va_P D vwCl ((mW o 0 q cI cZ).set 12 ((q 11), .inl (cI, 110, .inl (upd (fun _ => 0) (0 : Int32).toNatClampNeg 10)))) H := hP
  have hD : va_D A ((mW o 0 q cI cZ).set 12 ((q 11), .inl (cI, 110, .inl (upd (fun _ => 0) (0 : Int32).toNatClampNeg 10)))) := hD
  refine lv_aload_n hx hb dX9_node_58 rfl (lv_at hl 0 rfl) ?_
  refine xg (ci := 9) S inX9 rfl hK hP (q0 := 0) rfl 15 (by decide) mF_15 kw_6_163 rfl dX9_node_59 ?_
  refine lv_aload_n hx hb dX9_node_62 rfl (lv_at hl 0 rfl) ?_
  refine xg (ci := 9) S inX9 rfl hK hP (q0 := 0) rfl 13 (by decide) mF_13 kw_6_161 rfl dX9_node_63 ?_
  refine lv_iload_n hx hb dX9_node_66 rfl (lv_at hl 2 rfl) ?_
  refine xiast (t0 := 0) S hK hP hD hS (q0 := 13) rfl rfl (vin rfl) dX9_node_67 (fun H locs hP hD hS => ?_)
  have hP : va_P D vwCl (((mW o 0 q cI cZ).set 12 ((q 11), .inl (cI, 110, .inl (upd (fun _ => 0) (0 : Int32).toNatClampNeg 10)))).set 13 ((q 12), .inl (cI, 110, .inl (upd (fun _ => 0) (0 : Int32).toNatClampNeg x2)))) H := hP
  have hD : va_D A (((mW o 0 q cI cZ).set 12 ((q 11), .inl (cI, 110, .inl (upd (fun _ => 0) (0 : Int32).toNatClampNeg 10)))).set 13 ((q 12), .inl (cI, 110, .inl (upd (fun _ => 0) (0 : Int32).toNatClampNeg x2)))) := hD
  refine lv_aload_n hx hb dX9_node_68 rfl (lv_at hl 0 rfl) ?_
  refine xg (ci := 9) S inX9 rfl hK hP (q0 := 0) rfl 16 (by decide) mF_16 kw_6_164 rfl dX9_node_69 ?_
  refine lv_aload_n hx hb dX9_node_72 rfl (lv_at hl 0 rfl) ?_
  refine xg (ci := 9) S inX9 rfl hK hP (q0 := 0) rfl 13 (by decide) mF_13 kw_6_161 rfl dX9_node_73 ?_
  refine lv_iload_n hx hb dX9_node_76 rfl (lv_at hl 3 rfl) ?_
  refine xiast (t0 := 0) S hK hP hD hS (q0 := 14) rfl rfl (vin rfl) dX9_node_77 (fun H locs hP hD hS => ?_)
  have hP : va_P D vwCl ((((mW o 0 q cI cZ).set 12 ((q 11), .inl (cI, 110, .inl (upd (fun _ => 0) (0 : Int32).toNatClampNeg 10)))).set 13 ((q 12), .inl (cI, 110, .inl (upd (fun _ => 0) (0 : Int32).toNatClampNeg x2)))).set 14 ((q 13), .inl (cI, 110, .inl (upd (fun _ => 0) (0 : Int32).toNatClampNeg 0)))) H := hP
  have hD : va_D A ((((mW o 0 q cI cZ).set 12 ((q 11), .inl (cI, 110, .inl (upd (fun _ => 0) (0 : Int32).toNatClampNeg 10)))).set 13 ((q 12), .inl (cI, 110, .inl (upd (fun _ => 0) (0 : Int32).toNatClampNeg x2)))).set 14 ((q 13), .inl (cI, 110, .inl (upd (fun _ => 0) (0 : Int32).toNatClampNeg 0)))) := hD
  refine lv_aload_n hx hb dX9_node_78 rfl (lv_at hl 0 rfl) ?_
  refine xg (ci := 9) S inX9 rfl hK hP (q0 := 0) rfl 17 (by decide) mF_17 kw_6_165 rfl dX9_node_79 ?_
  refine lv_aload_n hx hb dX9_node_82 rfl (lv_at hl 0 rfl) ?_
  refine xg (ci := 9) S inX9 rfl hK hP (q0 := 0) rfl 13 (by decide) mF_13 kw_6_161 rfl dX9_node_83 ?_
  refine lv_iload hx hb dX9_node_86 (lv_at hl 4 rfl) ?_
  refine xiast (t0 := 0) S hK hP hD hS (q0 := 15) rfl rfl (vin rfl) dX9_node_88 (fun H locs hP hD hS => ?_)
  have hP : va_P D vwCl (((((mW o 0 q cI cZ).set 12 ((q 11), .inl (cI, 110, .inl (upd (fun _ => 0) (0 : Int32).toNatClampNeg 10)))).set 13 ((q 12), .inl (cI, 110, .inl (upd (fun _ => 0) (0 : Int32).toNatClampNeg x2)))).set 14 ((q 13), .inl (cI, 110, .inl (upd (fun _ => 0) (0 : Int32).toNatClampNeg 0)))).set 15 ((q 14), .inl (cI, 110, .inl (upd (fun _ => 0) (0 : Int32).toNatClampNeg 0)))) H := hP
  have hD : va_D A (((((mW o 0 q cI cZ).set 12 ((q 11), .inl (cI, 110, .inl (upd (fun _ => 0) (0 : Int32).toNatClampNeg 10)))).set 13 ((q 12), .inl (cI, 110, .inl (upd (fun _ => 0) (0 : Int32).toNatClampNeg x2)))).set 14 ((q 13), .inl (cI, 110, .inl (upd (fun _ => 0) (0 : Int32).toNatClampNeg 0)))).set 15 ((q 14), .inl (cI, 110, .inl (upd (fun _ => 0) (0 : Int32).toNatClampNeg 0)))) := hD
  refine lv_aload_n hx hb dX9_node_89 rfl (lv_at hl 0 rfl) ?_
  refine xg (ci := 9) S inX9 rfl hK hP (q0 := 0) rfl 18 (by decide) mF_18 kw_6_166 rfl dX9_node_90 ?_
  refine lv_aload_n hx hb dX9_node_93 rfl (lv_at hl 0 rfl) ?_
  refine xg (ci := 9) S inX9 rfl hK hP (q0 := 0) rfl 13 (by decide) mF_13 kw_6_161 rfl dX9_node_94 ?_
  refine lv_iconst (v := (-1)) hx hb dX9_node_97 (by decide) ?_
  refine xiast (t0 := 0) S hK hP hD hS (q0 := 16) rfl rfl (vin rfl) dX9_node_98 (fun H locs hP hD hS => ?_)
  have hP : va_P D vwCl ((((((mW o 0 q cI cZ).set 12 ((q 11), .inl (cI, 110, .inl (upd (fun _ => 0) (0 : Int32).toNatClampNeg 10)))).set 13 ((q 12), .inl (cI, 110, .inl (upd (fun _ => 0) (0 : Int32).toNatClampNeg x2)))).set 14 ((q 13), .inl (cI, 110, .inl (upd (fun _ => 0) (0 : Int32).toNatClampNeg 0)))).set 15 ((q 14), .inl (cI, 110, .inl (upd (fun _ => 0) (0 : Int32).toNatClampNeg 0)))).set 16 ((q 15), .inl (cI, 110, .inl (upd (fun _ => 0) (0 : Int32).toNatClampNeg (-1))))) H := hP
  have hD : va_D A ((((((mW o 0 q cI cZ).set 12 ((q 11), .inl (cI, 110, .inl (upd (fun _ => 0) (0 : Int32).toNatClampNeg 10)))).set 13 ((q 12), .inl (cI, 110, .inl (upd (fun _ => 0) (0 : Int32).toNatClampNeg x2)))).set 14 ((q 13), .inl (cI, 110, .inl (upd (fun _ => 0) (0 : Int32).toNatClampNeg 0)))).set 15 ((q 14), .inl (cI, 110, .inl (upd (fun _ => 0) (0 : Int32).toNatClampNeg 0)))).set 16 ((q 15), .inl (cI, 110, .inl (upd (fun _ => 0) (0 : Int32).toNatClampNeg (-1))))) := hD
  refine lv_aload_n hx hb dX9_node_99 rfl (lv_at hl 0 rfl) ?_
  refine xg (ci := 9) S inX9 rfl hK hP (q0 := 0) rfl 19 (by decide) mF_19 kw_6_167 rfl dX9_node_100 ?_
  refine lv_aload_n hx hb dX9_node_103 rfl (lv_at hl 0 rfl) ?_
  refine xg (ci := 9) S inX9 rfl hK hP (q0 := 0) rfl 13 (by decide) mF_13 kw_6_161 rfl dX9_node_104 ?_
  refine lv_iconst (v := (-1)) hx hb dX9_node_107 (by decide) ?_
  refine xiast (t0 := 0) S hK hP hD hS (q0 := 17) rfl rfl (vin rfl) dX9_node_108 (fun H locs hP hD hS => ?_)
  have hP : va_P D vwCl (((((((mW o 0 q cI cZ).set 12 ((q 11), .inl (cI, 110, .inl (upd (fun _ => 0) (0 : Int32).toNatClampNeg 10)))).set 13 ((q 12), .inl (cI, 110, .inl (upd (fun _ => 0) (0 : Int32).toNatClampNeg x2)))).set 14 ((q 13), .inl (cI, 110, .inl (upd (fun _ => 0) (0 : Int32).toNatClampNeg 0)))).set 15 ((q 14), .inl (cI, 110, .inl (upd (fun _ => 0) (0 : Int32).toNatClampNeg 0)))).set 16 ((q 15), .inl (cI, 110, .inl (upd (fun _ => 0) (0 : Int32).toNatClampNeg (-1))))).set 17 ((q 16), .inl (cI, 110, .inl (upd (fun _ => 0) (0 : Int32).toNatClampNeg (-1))))) H := hP
  have hD : va_D A (((((((mW o 0 q cI cZ).set 12 ((q 11), .inl (cI, 110, .inl (upd (fun _ => 0) (0 : Int32).toNatClampNeg 10)))).set 13 ((q 12), .inl (cI, 110, .inl (upd (fun _ => 0) (0 : Int32).toNatClampNeg x2)))).set 14 ((q 13), .inl (cI, 110, .inl (upd (fun _ => 0) (0 : Int32).toNatClampNeg 0)))).set 15 ((q 14), .inl (cI, 110, .inl (upd (fun _ => 0) (0 : Int32).toNatClampNeg 0)))).set 16 ((q 15), .inl (cI, 110, .inl (upd (fun _ => 0) (0 : Int32).toNatClampNeg (-1))))).set 17 ((q 16), .inl (cI, 110, .inl (upd (fun _ => 0) (0 : Int32).toNatClampNeg (-1))))) := hD
  refine lv_iconst (v := 0) hx hb dX9_node_109 (by decide) ?_
  refine lv_istore (lv' := [(5, .int 0), (0, .ref o), (1, .int 10), (2, .int x2), (3, .int 0), (4, .int 0)]) hx hb dX9_node_110 hl (by decide) rfl (fun ls hl => ?_)
  refine lv_iload hx hb dX9_node_112 (lv_at hl 0 rfl) ?_
  refine lv_iconst (v := 3) hx hb dX9_node_114 (by decide) ?_
  refine lv_icmp_ge (tgt := 157) hx hb dX9_node_115 (by decide) (fun c => absurd c (by decide)) (fun _ => ?_)
  refine lv_aload_n hx hb dX9_node_118 rfl (lv_at hl 1 rfl) ?_
  refine lv_aload_n hx hb dX9_node_119 rfl (lv_at hl 1 rfl) ?_
  refine xg (ci := 9) S inX9 rfl hK hP (q0 := 0) rfl 13 (by decide) mF_13 kw_6_161 rfl dX9_node_120 ?_
  refine lv_iload hx hb dX9_node_123 (lv_at hl 0 rfl) ?_
  refine rdV (As := [.int 0, .int 0]) (ci := 9) S (c_X9_part_9 l D cI cZ cJ o q x2 lo_x2 hi_x2) mi_X9_part kw_7_185 ⟨rfl, rfl⟩ ⟨Nat.le_of_ble_eq_true rfl, Nat.le_of_ble_eq_true rfl⟩ hP hK (k := 0) rfl rfl rfl hl.1 (Nat.le_of_ble_eq_true rfl) ⟨Nat.le_of_ble_eq_true rfl, Nat.le_of_ble_eq_true rfl⟩ dX9_node_125 ?_
  refine lv_iconst (v := (-1)) hx hb dX9_node_128 (by decide) ?_
  refine lv_icmp_eq (tgt := 151) hx hb dX9_node_129 (by decide) (fun _ => ?_) (fun c => absurd c (by decide))
  refine lv_iinc (v := 1) (lv' := [(5, .int 1), (0, .ref o), (1, .int 10), (2, .int x2), (3, .int 0), (4, .int 0)]) hx hb dX9_node_151 hl (k := 0) rfl (by decide) (by decide) rfl (fun ls hl => ?_)
  refine lv_goto (tgt := 112) hx hb dX9_node_154 (by decide) ?_
  refine lv_iload hx hb dX9_node_112 (lv_at hl 0 rfl) ?_
  refine lv_iconst (v := 3) hx hb dX9_node_114 (by decide) ?_
  refine lv_icmp_ge (tgt := 157) hx hb dX9_node_115 (by decide) (fun c => absurd c (by decide)) (fun _ => ?_)
  refine lv_aload_n hx hb dX9_node_118 rfl (lv_at hl 1 rfl) ?_
  refine lv_aload_n hx hb dX9_node_119 rfl (lv_at hl 1 rfl) ?_
  refine xg (ci := 9) S inX9 rfl hK hP (q0 := 0) rfl 13 (by decide) mF_13 kw_6_161 rfl dX9_node_120 ?_
  refine lv_iload hx hb dX9_node_123 (lv_at hl 0 rfl) ?_
  refine rdV (As := [.int 0, .int 1]) (ci := 9) S (c_X9_part_10 l D cI cZ cJ o q x2 lo_x2 hi_x2) mi_X9_part kw_7_185 ⟨rfl, rfl⟩ ⟨Nat.le_of_ble_eq_true rfl, Nat.le_of_ble_eq_true rfl⟩ hP hK (k := 0) rfl rfl rfl hl.1 (Nat.le_of_ble_eq_true rfl) ⟨Nat.le_of_ble_eq_true rfl, Nat.le_of_ble_eq_true rfl⟩ dX9_node_125 ?_
  refine lv_iconst (v := (-1)) hx hb dX9_node_128 (by decide) ?_
  refine lv_icmp_eq (tgt := 151) hx hb dX9_node_129 (by decide) (fun _ => ?_) (fun c => absurd c (by decide))
  refine lv_iinc (v := 2) (lv' := [(5, .int 2), (0, .ref o), (1, .int 10), (2, .int x2), (3, .int 0), (4, .int 0)]) hx hb dX9_node_151 hl (k := 0) rfl (by decide) (by decide) rfl (fun ls hl => ?_)
  refine lv_goto (tgt := 112) hx hb dX9_node_154 (by decide) ?_
  refine lv_iload hx hb dX9_node_112 (lv_at hl 0 rfl) ?_
  refine lv_iconst (v := 3) hx hb dX9_node_114 (by decide) ?_
  refine lv_icmp_ge (tgt := 157) hx hb dX9_node_115 (by decide) (fun c => absurd c (by decide)) (fun _ => ?_)
  refine lv_aload_n hx hb dX9_node_118 rfl (lv_at hl 1 rfl) ?_
  refine lv_aload_n hx hb dX9_node_119 rfl (lv_at hl 1 rfl) ?_
  refine xg (ci := 9) S inX9 rfl hK hP (q0 := 0) rfl 13 (by decide) mF_13 kw_6_161 rfl dX9_node_120 ?_
  refine lv_iload hx hb dX9_node_123 (lv_at hl 0 rfl) ?_
  refine rdV (As := [.int 0, .int 2]) (ci := 9) S (c_X9_part_11 l D cI cZ cJ o q x2 lo_x2 hi_x2) mi_X9_part kw_7_185 ⟨rfl, rfl⟩ ⟨Nat.le_of_ble_eq_true rfl, Nat.le_of_ble_eq_true rfl⟩ hP hK (k := 0) rfl rfl rfl hl.1 (Nat.le_of_ble_eq_true rfl) ⟨Nat.le_of_ble_eq_true rfl, Nat.le_of_ble_eq_true rfl⟩ dX9_node_125 ?_
  refine lv_iconst (v := (-1)) hx hb dX9_node_128 (by decide) ?_
  refine lv_icmp_eq (tgt := 151) hx hb dX9_node_129 (by decide) (fun _ => ?_) (fun c => absurd c (by decide))
  refine lv_iinc (v := 3) (lv' := [(5, .int 3), (0, .ref o), (1, .int 10), (2, .int x2), (3, .int 0), (4, .int 0)]) hx hb dX9_node_151 hl (k := 0) rfl (by decide) (by decide) rfl (fun ls hl => ?_)
  refine lv_goto (tgt := 112) hx hb dX9_node_154 (by decide) ?_
  refine lv_iload hx hb dX9_node_112 (lv_at hl 0 rfl) ?_
  refine lv_iconst (v := 3) hx hb dX9_node_114 (by decide) ?_
  refine lv_icmp_ge (tgt := 157) hx hb dX9_node_115 (by decide) (fun _ => ?_) (fun c => absurd c (by decide))
  refine lv_aload_n hx hb dX9_node_157 rfl (lv_at hl 1 rfl) ?_
  refine lv_dup hx hb dX9_node_158 rfl ?_
  refine xg (ci := 9) S inX9 rfl hK hP (q0 := 0) rfl 13 (by decide) mF_13 kw_6_161 rfl dX9_node_159 ?_
  refine lv_dup_x1 hx hb dX9_node_162 rfl rfl ?_
  refine lv_iconst (v := 1) hx hb dX9_node_163 (by decide) ?_
  refine xiadd (v := 1) S dX9_node_164 (by decide) ?_
  refine xp (ci := 9) (v := .int 1) S inX9 tyX9 tyX9_ok nmX9 rfl hK hP hD hS (q0 := 0) rfl 13 (by decide) kw_6_161 rfl rfl rfl rfl (Nat.le_of_ble_eq_true rfl) dX9_node_165 (fun H locs hP hD hS => ?_)
  have hP : va_P D vwCl ((((((((mW o 0 q cI cZ).set 0 (o, .inr (9, ((mF 0 q).set 13 (.int 1))))).set 12 ((q 11), .inl (cI, 110, .inl (upd (fun _ => 0) (0 : Int32).toNatClampNeg 10)))).set 13 ((q 12), .inl (cI, 110, .inl (upd (fun _ => 0) (0 : Int32).toNatClampNeg x2)))).set 14 ((q 13), .inl (cI, 110, .inl (upd (fun _ => 0) (0 : Int32).toNatClampNeg 0)))).set 15 ((q 14), .inl (cI, 110, .inl (upd (fun _ => 0) (0 : Int32).toNatClampNeg 0)))).set 16 ((q 15), .inl (cI, 110, .inl (upd (fun _ => 0) (0 : Int32).toNatClampNeg (-1))))).set 17 ((q 16), .inl (cI, 110, .inl (upd (fun _ => 0) (0 : Int32).toNatClampNeg (-1))))) H := hP
  have hD : va_D A ((((((((mW o 0 q cI cZ).set 0 (o, .inr (9, ((mF 0 q).set 13 (.int 1))))).set 12 ((q 11), .inl (cI, 110, .inl (upd (fun _ => 0) (0 : Int32).toNatClampNeg 10)))).set 13 ((q 12), .inl (cI, 110, .inl (upd (fun _ => 0) (0 : Int32).toNatClampNeg x2)))).set 14 ((q 13), .inl (cI, 110, .inl (upd (fun _ => 0) (0 : Int32).toNatClampNeg 0)))).set 15 ((q 14), .inl (cI, 110, .inl (upd (fun _ => 0) (0 : Int32).toNatClampNeg 0)))).set 16 ((q 15), .inl (cI, 110, .inl (upd (fun _ => 0) (0 : Int32).toNatClampNeg (-1))))).set 17 ((q 16), .inl (cI, 110, .inl (upd (fun _ => 0) (0 : Int32).toNatClampNeg (-1))))) := hD
  exact wEnd S hr hlocks hP hD hS (Nat.le_of_ble_eq_true rfl) (Nat.le_of_ble_eq_true rfl) dX9_node_168 rfl

set_option maxHeartbeats 8000000 in
set_option maxRecDepth 100000 in
theorem c_X9_thrown_12 (l : Launch) (D : va_G) (cI cZ cJ : ClassId) (o : Nat) (q : Nat → Nat) (x2 : Int32) (lo_x2 : 0 ≤ x2) (hi_x2 : x2 ≤ 15) : Met l yX9_thrown (uW yX9_thrown cX9_thrown 1 (some .int)) ({ frames := 0, cells := 0, slots := 0, locals := 0 }) (va_Pc [.ref o] (pS D (tyL cI cZ cJ) ((((((((mW o 0 q cI cZ).set 0 (o, .inr (9, ((mF 0 q).set 13 (.int 1))))).set 12 ((q 11), .inl (cI, 110, .inl (upd (fun _ => 0) (0 : Int32).toNatClampNeg 10)))).set 13 ((q 12), .inl (cI, 110, .inl (upd (fun _ => 0) (0 : Int32).toNatClampNeg x2)))).set 14 ((q 13), .inl (cI, 110, .inl (upd (fun _ => 0) (0 : Int32).toNatClampNeg 0)))).set 15 ((q 14), .inl (cI, 110, .inl (upd (fun _ => 0) (0 : Int32).toNatClampNeg 0)))).set 16 ((q 15), .inl (cI, 110, .inl (upd (fun _ => 0) (0 : Int32).toNatClampNeg (-1))))).set 17 ((q 16), .inl (cI, 110, .inl (upd (fun _ => 0) (0 : Int32).toNatClampNeg (-1))))))) (QcRead (0)) 0 0 (fun _ => False) := by
  refine rdStart (lv := [(0, .ref o)]) (by decide) (Nat.le_of_ble_eq_true rfl) rfl ?_
  intro p e s m args below meth c ls S hr hlocks hl hP hK
  have hx := S.1
  have hb := S.2.1
  refine lv_aload_n hx hb dX9_thrown_0 rfl (lv_at hl 0 rfl) ?_
  refine xg (ci := 9) S inX9 rfl hK hP (q0 := 0) rfl 0 (by decide) rfl kw_6_148 rfl dX9_thrown_1 ?_
  exact rdEnd S hr hlocks dX9_thrown_4 rfl

set_option maxHeartbeats 8000000 in
set_option maxRecDepth 100000 in
theorem h_node_25 (l : Launch) (D : va_G) (cI cZ cJ : ClassId) (o : Nat) (u : Nat → Nat) (ao : Nat) (hst : l.stackTraces = false) (ra ga : Nat → Nat) (sz : Nat) (x2 : Int32) (x4 : Int32) (lo_x2 : 0 ≤ x2) (hi_x2 : x2 ≤ 15) (ne_x4_0 : ¬ x4 = 0) : vx_Met l yL_node (uWh yL_node cL_node 7 (some .int) [(0, 14, 17, 15), (0, 14, 21, 17)]) ({ frames := 8, cells := 1, slots := 6, locals := 126 }) (va_Pc [.ref o, .int 10, .int x2, .int 0, .int x4, .ref ao] (lS ra ga D (tyL cI cZ cJ) ((xW o u cI cZ cJ) ++ [(ao, .inl (cJ, 1, .inr (.inl (fun _ => 0))))]) sz)) (wQi (1) D ((xW o u cI cZ cJ) ++ [(ao, .inl (cJ, 1, .inr (.inl (fun _ => 0))))]) (va_A ((xW o u cI cZ cJ) ++ [(ao, .inl (cJ, 1, .inr (.inl (fun _ => 0))))]) sz)) (xN (va_A ((xW o u cI cZ cJ) ++ [(ao, .inl (cJ, 1, .inr (.inl (fun _ => 0))))]) sz)) 1 6 (va_A ((xW o u cI cZ cJ) ++ [(ao, .inl (cJ, 1, .inr (.inl (fun _ => 0))))]) sz) := by
  refine hStart (l := l) (y := yL_node) (b := cL_node) (n := 7) (r := (some .int)) (hh := [(0, 14, 17, 15), (0, 14, 21, 17)]) (rm := ({ frames := 8, cells := 1, slots := 6, locals := 126 })) (mc := 1) (ms := 6) (ra := ra) (ga := ga) (D := D) (tys := tyL cI cZ cJ) (ws := ((xW o u cI cZ cJ) ++ [(ao, .inl (cJ, 1, .inr (.inl (fun _ => 0))))])) (av := [.ref o, .int 10, .int x2, .int 0, .int x4, .ref ao]) (sz := sz) (lv := [(0, .ref o), (1, .int 10), (2, .int x2), (3, .int 0), (4, .int x4), (5, .ref ao)]) (Qc := fun A => wQi (1) D ((xW o u cI cZ cJ) ++ [(ao, .inl (cJ, 1, .inr (.inl (fun _ => 0))))]) A) (by decide) (Nat.le_of_ble_eq_true rfl) rfl ?_
  intro p e s m args below meth c ls A H S hr hlocks htab hl hK hP hD hS hA hB hC
  have hx := S.1
  have hb := S.2.1
  refine lv_aload hx hb dL_node_0 (lv_at hl 5 rfl) ?_
  refine lv_iconst (v := 0) hx hb dL_node_2 (by decide) ?_
  refine lv_aload_n hx hb dL_node_3 rfl (lv_at hl 0 rfl) ?_
  refine lv_iload_n hx hb dL_node_4 rfl (lv_at hl 1 rfl) ?_
  refine lv_iload_n hx hb dL_node_5 rfl (lv_at hl 2 rfl) ?_
  refine lv_iload_n hx hb dL_node_6 rfl (lv_at hl 3 rfl) ?_
  refine lv_iload hx hb dL_node_7 (lv_at hl 4 rfl) ?_
  refine cVi [] [(ao, .inl (cJ, 1, .inr (.inl (fun _ => 0))))] (As := [.int 10, .int x2, .int 0, .int x4]) (ci := 8) S (c_X8_node_25 l D cI cZ cJ o u hst ra ga H.size x2 x4 lo_x2 hi_x2 ne_x4_0) mi_X8_node kw_6_23 rfl rfl ⟨Nat.le_of_ble_eq_true rfl, Nat.le_of_ble_eq_true rfl⟩ hP hD hK hS hA hB xW_0 rfl rfl hl.1 (Nat.le_of_ble_eq_true rfl) ⟨Nat.le_of_ble_eq_true rfl, Nat.le_of_ble_eq_true rfl⟩ dL_node_9 (fun ce q9 H locs hz hP hD hS hce hcv hcl => ?_)
  refine vx_catch (name := "java/lang/IllegalArgumentException") S.2.2.2.1 [] (⟨0, 14, 17, 15⟩ : ExceptionTableEntry) [(⟨0, 14, 21, 17⟩ : ExceptionTableEntry)] (htab.trans rfl) (fun _ h => absurd h List.not_mem_nil) (by decide) (by decide) (S.2.2.2.2 _ kw_5_177) (va_Nw.use rfl hB.c1) hce hcv hcl ?_
  have hP : va_P D vwCl ((xW o u cI cZ cJ) ++ [(ao, .inl (cJ, 1, .inr (.inl (fun _ => 0))))]) H := hP
  have hD : va_D A ((xW o u cI cZ cJ) ++ [(ao, .inl (cJ, 1, .inr (.inl (fun _ => 0))))]) := hD
  refine lv_astore (lv' := [(6, .ref q9), (0, .ref o), (1, .int 10), (2, .int x2), (3, .int 0), (4, .int x4), (5, .ref ao)]) hx hb dL_node_17 hl (by decide) rfl (fun ls hl => ?_)
  refine lv_iconst (v := 1) hx hb dL_node_19 (by decide) ?_
  exact vx_ret (wEnd S hr hlocks hP hD hS (Nat.le_of_ble_eq_true rfl) (Nat.le_of_ble_eq_true rfl) dL_node_20 rfl)

set_option maxHeartbeats 8000000 in
set_option maxRecDepth 100000 in
theorem c_X9_canBe_25 (l : Launch) (D : va_G) (cI cZ cJ : ClassId) (o : Nat) (q : Nat → Nat) (x2 : Int32) (x4 : Int32) (lo_x2 : 0 ≤ x2) (hi_x2 : x2 ≤ 15) (ne_x4_0 : ¬ x4 = 0) : Met l yX9_canBe (uW yX9_canBe cX9_canBe 5 (some .boolean)) ({ frames := 2, cells := 0, slots := 0, locals := 42 }) (va_Pc [.ref o, .int 10, .int x2, .int 0, .int x4] (pS D (tyL cI cZ cJ) (mW o 0 q cI cZ))) (QcRead (0)) 0 0 (fun _ => False) := by
  refine rdStart (lv := [(0, .ref o), (1, .int 10), (2, .int x2), (3, .int 0), (4, .int x4)]) (by decide) (Nat.le_of_ble_eq_true rfl) rfl ?_
  intro p e s m args below meth c ls S hr hlocks hl hP hK
  have hx := S.1
  have hb := S.2.1
  refine lv_iload_n hx hb dX9_canBe_0 rfl (lv_at hl 1 rfl) ?_
  refine lv_tableIn (off := 131) (tgt := 132) hx hb dX9_canBe_1 (by decide) (by decide) (by decide) (by decide) ?_
  refine lv_iload_n hx hb dX9_canBe_132 rfl (lv_at hl 2 rfl) ?_
  refine rdS (As := [.int x2]) S (c_X9_isName_2 l D cI cZ cJ o q x2 lo_x2 hi_x2) ms_X9_isName kw_7_108 ⟨rfl, rfl⟩ ⟨Nat.le_of_ble_eq_true rfl, Nat.le_of_ble_eq_true rfl⟩ hP hK hl.1 (Nat.le_of_ble_eq_true rfl) ⟨Nat.le_of_ble_eq_true rfl, Nat.le_of_ble_eq_true rfl⟩ dX9_canBe_133 ?_
  refine lv_if_eq (tgt := 152) hx hb dX9_canBe_136 (by decide) (fun c => absurd c (by decide)) (fun _ => ?_)
  refine lv_iload_n hx hb dX9_canBe_139 rfl (lv_at hl 3 rfl) ?_
  refine lv_if_ne (tgt := 152) hx hb dX9_canBe_140 (by decide) (fun c => absurd c (by decide)) (fun _ => ?_)
  refine lv_iload hx hb dX9_canBe_143 (lv_at hl 4 rfl) ?_
  refine lv_if_ne (tgt := 152) hx hb dX9_canBe_145 (by decide) (fun _ => ?_) (fun c => absurd c ne_x4_0)
  refine lv_iconst (v := 0) hx hb dX9_canBe_152 (by decide) ?_
  exact rdEndZ S hr hlocks dX9_canBe_153 rfl rfl

set_option maxHeartbeats 8000000 in
set_option maxRecDepth 100000 in
theorem c_X9_node_25 (l : Launch) (D : va_G) (cI cZ cJ : ClassId) (o : Nat) (q : Nat → Nat) (sz : Nat) (x2 : Int32) (x4 : Int32) (lo_x2 : 0 ≤ x2) (hi_x2 : x2 ≤ 15) (ne_x4_0 : ¬ x4 = 0) : Met l yX9_node (uW yX9_node cX9_node 6 (some .int)) ({ frames := 3, cells := 0, slots := 0, locals := 66 }) (va_Pc [.ref o, .int 10, .int x2, .int 0, .int x4] (wS D (tyL cI cZ cJ) (mW o 0 q cI cZ) sz)) (wQi (0) D (mW o 1 q cI cZ) (va_A (mW o 0 q cI cZ) sz)) 0 0 (va_A (mW o 0 q cI cZ) sz) := by
  refine wStart (lv := [(0, .ref o), (1, .int 10), (2, .int x2), (3, .int 0), (4, .int x4)]) (Qc := fun A => wQi (0) D (mW o 1 q cI cZ) A) (by decide) (Nat.le_of_ble_eq_true rfl) rfl ?_
  intro p e s m args below meth c ls A H S hr hlocks hnm hl hK hP hD hS hA
  have hx := S.1
  have hb := S.2.1
  refine lv_aload_n hx hb dX9_node_0 rfl (lv_at hl 0 rfl) ?_
  refine lv_iconst (v := 0) hx hb dX9_node_1 (by decide) ?_
  refine xp (ci := 9) (v := .int 0) S inX9 tyX9 tyX9_ok nmX9 rfl hK hP hD hS mW_0 0 (by decide) kw_6_148 rfl rfl rfl rfl (Nat.le_of_ble_eq_true rfl) dX9_node_2 (fun H locs hP hD hS => ?_)
  have hP : va_P D vwCl (mW o 0 q cI cZ) H := hP
  have hD : va_D A (mW o 0 q cI cZ) := hD
  refine lv_iload_n hx hb dX9_node_5 rfl (lv_at hl 1 rfl) ?_
  refine lv_iconst (v := 0) hx hb dX9_node_6 (by decide) ?_
  refine lv_bipush (v := 21) hx hb dX9_node_7 (by decide) ?_
  refine rdS (As := [.int 10, .int 0, .int 21]) S (c_X9_isIn_49 l D cI cZ cJ o q) ms_X9_isIn kw_7_101 ⟨rfl, rfl⟩ ⟨Nat.le_of_ble_eq_true rfl, Nat.le_of_ble_eq_true rfl⟩ hP hK hl.1 (Nat.le_of_ble_eq_true rfl) ⟨Nat.le_of_ble_eq_true rfl, Nat.le_of_ble_eq_true rfl⟩ dX9_node_9 ?_
  refine lv_if_eq (tgt := 27) hx hb dX9_node_12 (by decide) (fun c => absurd c (by decide)) (fun _ => ?_)
  refine lv_aload_n hx hb dX9_node_15 rfl (lv_at hl 0 rfl) ?_
  refine lv_iload_n hx hb dX9_node_16 rfl (lv_at hl 1 rfl) ?_
  refine lv_iload_n hx hb dX9_node_17 rfl (lv_at hl 2 rfl) ?_
  refine lv_iload_n hx hb dX9_node_18 rfl (lv_at hl 3 rfl) ?_
  refine lv_iload hx hb dX9_node_19 (lv_at hl 4 rfl) ?_
  refine rdV (As := [.int 10, .int x2, .int 0, .int x4]) (ci := 9) S (c_X9_canBe_25 l D cI cZ cJ o q x2 x4 lo_x2 hi_x2 ne_x4_0) mi_X9_canBe kw_7_155 ⟨rfl, rfl⟩ ⟨Nat.le_of_ble_eq_true rfl, Nat.le_of_ble_eq_true rfl⟩ hP hK mW_0 rfl rfl hl.1 (Nat.le_of_ble_eq_true rfl) ⟨Nat.le_of_ble_eq_true rfl, Nat.le_of_ble_eq_true rfl⟩ dX9_node_21 ?_
  refine lv_if_ne (tgt := 33) hx hb dX9_node_24 (by decide) (fun c => absurd c (by decide)) (fun _ => ?_)
  refine lv_aload_n hx hb dX9_node_27 rfl (lv_at hl 0 rfl) ?_
  refine lv_iconst (v := 1) hx hb dX9_node_28 (by decide) ?_
  refine wrV (As := [.int 1]) (ci := 9) S (c_X9_no_0 l D cI cZ cJ o q H.size) mi_X9_no kw_7_104 rfl rfl ⟨Nat.le_of_ble_eq_true rfl, Nat.le_of_ble_eq_true rfl⟩ hP hD hK hS hA mW_0 rfl rfl hl.1 (Nat.le_of_ble_eq_true rfl) ⟨Nat.le_of_ble_eq_true rfl, Nat.le_of_ble_eq_true rfl⟩ dX9_node_29 (fun H locs hz hP hD hS => ?_)
  exact wEnd S hr hlocks hP hD hS (Nat.le_of_ble_eq_true rfl) (Nat.le_of_ble_eq_true rfl) dX9_node_32 rfl

set_option maxHeartbeats 8000000 in
set_option maxRecDepth 100000 in
theorem h_node_26 (l : Launch) (D : va_G) (cI cZ cJ : ClassId) (o : Nat) (u : Nat → Nat) (ao : Nat) (hst : l.stackTraces = false) (ra ga : Nat → Nat) (sz : Nat) (x2 : Int32) (x3 : Int32) (x4 : Int32) (lo_x2 : 0 ≤ x2) (hi_x2 : x2 ≤ 15) (ne_x3_0 : ¬ x3 = 0) : vx_Met l yL_node (uWh yL_node cL_node 7 (some .int) [(0, 14, 17, 15), (0, 14, 21, 17)]) ({ frames := 8, cells := 1, slots := 6, locals := 126 }) (va_Pc [.ref o, .int 10, .int x2, .int x3, .int x4, .ref ao] (lS ra ga D (tyL cI cZ cJ) ((xW o u cI cZ cJ) ++ [(ao, .inl (cJ, 1, .inr (.inl (fun _ => 0))))]) sz)) (wQi (1) D ((xW o u cI cZ cJ) ++ [(ao, .inl (cJ, 1, .inr (.inl (fun _ => 0))))]) (va_A ((xW o u cI cZ cJ) ++ [(ao, .inl (cJ, 1, .inr (.inl (fun _ => 0))))]) sz)) (xN (va_A ((xW o u cI cZ cJ) ++ [(ao, .inl (cJ, 1, .inr (.inl (fun _ => 0))))]) sz)) 1 6 (va_A ((xW o u cI cZ cJ) ++ [(ao, .inl (cJ, 1, .inr (.inl (fun _ => 0))))]) sz) := by
  refine hStart (l := l) (y := yL_node) (b := cL_node) (n := 7) (r := (some .int)) (hh := [(0, 14, 17, 15), (0, 14, 21, 17)]) (rm := ({ frames := 8, cells := 1, slots := 6, locals := 126 })) (mc := 1) (ms := 6) (ra := ra) (ga := ga) (D := D) (tys := tyL cI cZ cJ) (ws := ((xW o u cI cZ cJ) ++ [(ao, .inl (cJ, 1, .inr (.inl (fun _ => 0))))])) (av := [.ref o, .int 10, .int x2, .int x3, .int x4, .ref ao]) (sz := sz) (lv := [(0, .ref o), (1, .int 10), (2, .int x2), (3, .int x3), (4, .int x4), (5, .ref ao)]) (Qc := fun A => wQi (1) D ((xW o u cI cZ cJ) ++ [(ao, .inl (cJ, 1, .inr (.inl (fun _ => 0))))]) A) (by decide) (Nat.le_of_ble_eq_true rfl) rfl ?_
  intro p e s m args below meth c ls A H S hr hlocks htab hl hK hP hD hS hA hB hC
  have hx := S.1
  have hb := S.2.1
  refine lv_aload hx hb dL_node_0 (lv_at hl 5 rfl) ?_
  refine lv_iconst (v := 0) hx hb dL_node_2 (by decide) ?_
  refine lv_aload_n hx hb dL_node_3 rfl (lv_at hl 0 rfl) ?_
  refine lv_iload_n hx hb dL_node_4 rfl (lv_at hl 1 rfl) ?_
  refine lv_iload_n hx hb dL_node_5 rfl (lv_at hl 2 rfl) ?_
  refine lv_iload_n hx hb dL_node_6 rfl (lv_at hl 3 rfl) ?_
  refine lv_iload hx hb dL_node_7 (lv_at hl 4 rfl) ?_
  refine cVi [] [(ao, .inl (cJ, 1, .inr (.inl (fun _ => 0))))] (As := [.int 10, .int x2, .int x3, .int x4]) (ci := 8) S (c_X8_node_26 l D cI cZ cJ o u hst ra ga H.size x2 x3 x4 lo_x2 hi_x2 ne_x3_0) mi_X8_node kw_6_23 rfl rfl ⟨Nat.le_of_ble_eq_true rfl, Nat.le_of_ble_eq_true rfl⟩ hP hD hK hS hA hB xW_0 rfl rfl hl.1 (Nat.le_of_ble_eq_true rfl) ⟨Nat.le_of_ble_eq_true rfl, Nat.le_of_ble_eq_true rfl⟩ dL_node_9 (fun ce q9 H locs hz hP hD hS hce hcv hcl => ?_)
  refine vx_catch (name := "java/lang/IllegalArgumentException") S.2.2.2.1 [] (⟨0, 14, 17, 15⟩ : ExceptionTableEntry) [(⟨0, 14, 21, 17⟩ : ExceptionTableEntry)] (htab.trans rfl) (fun _ h => absurd h List.not_mem_nil) (by decide) (by decide) (S.2.2.2.2 _ kw_5_177) (va_Nw.use rfl hB.c1) hce hcv hcl ?_
  have hP : va_P D vwCl ((xW o u cI cZ cJ) ++ [(ao, .inl (cJ, 1, .inr (.inl (fun _ => 0))))]) H := hP
  have hD : va_D A ((xW o u cI cZ cJ) ++ [(ao, .inl (cJ, 1, .inr (.inl (fun _ => 0))))]) := hD
  refine lv_astore (lv' := [(6, .ref q9), (0, .ref o), (1, .int 10), (2, .int x2), (3, .int x3), (4, .int x4), (5, .ref ao)]) hx hb dL_node_17 hl (by decide) rfl (fun ls hl => ?_)
  refine lv_iconst (v := 1) hx hb dL_node_19 (by decide) ?_
  exact vx_ret (wEnd S hr hlocks hP hD hS (Nat.le_of_ble_eq_true rfl) (Nat.le_of_ble_eq_true rfl) dL_node_20 rfl)

set_option maxHeartbeats 8000000 in
set_option maxRecDepth 100000 in
theorem c_X9_canBe_26 (l : Launch) (D : va_G) (cI cZ cJ : ClassId) (o : Nat) (q : Nat → Nat) (x2 : Int32) (x3 : Int32) (x4 : Int32) (lo_x2 : 0 ≤ x2) (hi_x2 : x2 ≤ 15) (ne_x3_0 : ¬ x3 = 0) : Met l yX9_canBe (uW yX9_canBe cX9_canBe 5 (some .boolean)) ({ frames := 2, cells := 0, slots := 0, locals := 42 }) (va_Pc [.ref o, .int 10, .int x2, .int x3, .int x4] (pS D (tyL cI cZ cJ) (mW o 0 q cI cZ))) (QcRead (0)) 0 0 (fun _ => False) := by
  refine rdStart (lv := [(0, .ref o), (1, .int 10), (2, .int x2), (3, .int x3), (4, .int x4)]) (by decide) (Nat.le_of_ble_eq_true rfl) rfl ?_
  intro p e s m args below meth c ls S hr hlocks hl hP hK
  have hx := S.1
  have hb := S.2.1
  refine lv_iload_n hx hb dX9_canBe_0 rfl (lv_at hl 1 rfl) ?_
  refine lv_tableIn (off := 131) (tgt := 132) hx hb dX9_canBe_1 (by decide) (by decide) (by decide) (by decide) ?_
  refine lv_iload_n hx hb dX9_canBe_132 rfl (lv_at hl 2 rfl) ?_
  refine rdS (As := [.int x2]) S (c_X9_isName_2 l D cI cZ cJ o q x2 lo_x2 hi_x2) ms_X9_isName kw_7_108 ⟨rfl, rfl⟩ ⟨Nat.le_of_ble_eq_true rfl, Nat.le_of_ble_eq_true rfl⟩ hP hK hl.1 (Nat.le_of_ble_eq_true rfl) ⟨Nat.le_of_ble_eq_true rfl, Nat.le_of_ble_eq_true rfl⟩ dX9_canBe_133 ?_
  refine lv_if_eq (tgt := 152) hx hb dX9_canBe_136 (by decide) (fun c => absurd c (by decide)) (fun _ => ?_)
  refine lv_iload_n hx hb dX9_canBe_139 rfl (lv_at hl 3 rfl) ?_
  refine lv_if_ne (tgt := 152) hx hb dX9_canBe_140 (by decide) (fun _ => ?_) (fun c => absurd c ne_x3_0)
  refine lv_iconst (v := 0) hx hb dX9_canBe_152 (by decide) ?_
  exact rdEndZ S hr hlocks dX9_canBe_153 rfl rfl

set_option maxHeartbeats 8000000 in
set_option maxRecDepth 100000 in
theorem c_X9_node_26 (l : Launch) (D : va_G) (cI cZ cJ : ClassId) (o : Nat) (q : Nat → Nat) (sz : Nat) (x2 : Int32) (x3 : Int32) (x4 : Int32) (lo_x2 : 0 ≤ x2) (hi_x2 : x2 ≤ 15) (ne_x3_0 : ¬ x3 = 0) : Met l yX9_node (uW yX9_node cX9_node 6 (some .int)) ({ frames := 3, cells := 0, slots := 0, locals := 66 }) (va_Pc [.ref o, .int 10, .int x2, .int x3, .int x4] (wS D (tyL cI cZ cJ) (mW o 0 q cI cZ) sz)) (wQi (0) D (mW o 1 q cI cZ) (va_A (mW o 0 q cI cZ) sz)) 0 0 (va_A (mW o 0 q cI cZ) sz) := by
  refine wStart (lv := [(0, .ref o), (1, .int 10), (2, .int x2), (3, .int x3), (4, .int x4)]) (Qc := fun A => wQi (0) D (mW o 1 q cI cZ) A) (by decide) (Nat.le_of_ble_eq_true rfl) rfl ?_
  intro p e s m args below meth c ls A H S hr hlocks hnm hl hK hP hD hS hA
  have hx := S.1
  have hb := S.2.1
  refine lv_aload_n hx hb dX9_node_0 rfl (lv_at hl 0 rfl) ?_
  refine lv_iconst (v := 0) hx hb dX9_node_1 (by decide) ?_
  refine xp (ci := 9) (v := .int 0) S inX9 tyX9 tyX9_ok nmX9 rfl hK hP hD hS mW_0 0 (by decide) kw_6_148 rfl rfl rfl rfl (Nat.le_of_ble_eq_true rfl) dX9_node_2 (fun H locs hP hD hS => ?_)
  have hP : va_P D vwCl (mW o 0 q cI cZ) H := hP
  have hD : va_D A (mW o 0 q cI cZ) := hD
  refine lv_iload_n hx hb dX9_node_5 rfl (lv_at hl 1 rfl) ?_
  refine lv_iconst (v := 0) hx hb dX9_node_6 (by decide) ?_
  refine lv_bipush (v := 21) hx hb dX9_node_7 (by decide) ?_
  refine rdS (As := [.int 10, .int 0, .int 21]) S (c_X9_isIn_49 l D cI cZ cJ o q) ms_X9_isIn kw_7_101 ⟨rfl, rfl⟩ ⟨Nat.le_of_ble_eq_true rfl, Nat.le_of_ble_eq_true rfl⟩ hP hK hl.1 (Nat.le_of_ble_eq_true rfl) ⟨Nat.le_of_ble_eq_true rfl, Nat.le_of_ble_eq_true rfl⟩ dX9_node_9 ?_
  refine lv_if_eq (tgt := 27) hx hb dX9_node_12 (by decide) (fun c => absurd c (by decide)) (fun _ => ?_)
  refine lv_aload_n hx hb dX9_node_15 rfl (lv_at hl 0 rfl) ?_
  refine lv_iload_n hx hb dX9_node_16 rfl (lv_at hl 1 rfl) ?_
  refine lv_iload_n hx hb dX9_node_17 rfl (lv_at hl 2 rfl) ?_
  refine lv_iload_n hx hb dX9_node_18 rfl (lv_at hl 3 rfl) ?_
  refine lv_iload hx hb dX9_node_19 (lv_at hl 4 rfl) ?_
  refine rdV (As := [.int 10, .int x2, .int x3, .int x4]) (ci := 9) S (c_X9_canBe_26 l D cI cZ cJ o q x2 x3 x4 lo_x2 hi_x2 ne_x3_0) mi_X9_canBe kw_7_155 ⟨rfl, rfl⟩ ⟨Nat.le_of_ble_eq_true rfl, Nat.le_of_ble_eq_true rfl⟩ hP hK mW_0 rfl rfl hl.1 (Nat.le_of_ble_eq_true rfl) ⟨Nat.le_of_ble_eq_true rfl, Nat.le_of_ble_eq_true rfl⟩ dX9_node_21 ?_
  refine lv_if_ne (tgt := 33) hx hb dX9_node_24 (by decide) (fun c => absurd c (by decide)) (fun _ => ?_)
  refine lv_aload_n hx hb dX9_node_27 rfl (lv_at hl 0 rfl) ?_
  refine lv_iconst (v := 1) hx hb dX9_node_28 (by decide) ?_
  refine wrV (As := [.int 1]) (ci := 9) S (c_X9_no_0 l D cI cZ cJ o q H.size) mi_X9_no kw_7_104 rfl rfl ⟨Nat.le_of_ble_eq_true rfl, Nat.le_of_ble_eq_true rfl⟩ hP hD hK hS hA mW_0 rfl rfl hl.1 (Nat.le_of_ble_eq_true rfl) ⟨Nat.le_of_ble_eq_true rfl, Nat.le_of_ble_eq_true rfl⟩ dX9_node_29 (fun H locs hz hP hD hS => ?_)
  exact wEnd S hr hlocks hP hD hS (Nat.le_of_ble_eq_true rfl) (Nat.le_of_ble_eq_true rfl) dX9_node_32 rfl

set_option maxHeartbeats 8000000 in
set_option maxRecDepth 100000 in
theorem h_node_27 (l : Launch) (D : va_G) (cI cZ cJ : ClassId) (o : Nat) (u : Nat → Nat) (ao : Nat) (hst : l.stackTraces = false) (ra ga : Nat → Nat) (sz : Nat) (x2 : Int32) (x3 : Int32) (x4 : Int32) (hi_x2 : x2 ≤ (-1)) : vx_Met l yL_node (uWh yL_node cL_node 7 (some .int) [(0, 14, 17, 15), (0, 14, 21, 17)]) ({ frames := 8, cells := 1, slots := 6, locals := 126 }) (va_Pc [.ref o, .int 11, .int x2, .int x3, .int x4, .ref ao] (lS ra ga D (tyL cI cZ cJ) ((xW o u cI cZ cJ) ++ [(ao, .inl (cJ, 1, .inr (.inl (fun _ => 0))))]) sz)) (wQi (1) D ((xW o u cI cZ cJ) ++ [(ao, .inl (cJ, 1, .inr (.inl (fun _ => 0))))]) (va_A ((xW o u cI cZ cJ) ++ [(ao, .inl (cJ, 1, .inr (.inl (fun _ => 0))))]) sz)) (xN (va_A ((xW o u cI cZ cJ) ++ [(ao, .inl (cJ, 1, .inr (.inl (fun _ => 0))))]) sz)) 1 6 (va_A ((xW o u cI cZ cJ) ++ [(ao, .inl (cJ, 1, .inr (.inl (fun _ => 0))))]) sz) := by
  refine hStart (l := l) (y := yL_node) (b := cL_node) (n := 7) (r := (some .int)) (hh := [(0, 14, 17, 15), (0, 14, 21, 17)]) (rm := ({ frames := 8, cells := 1, slots := 6, locals := 126 })) (mc := 1) (ms := 6) (ra := ra) (ga := ga) (D := D) (tys := tyL cI cZ cJ) (ws := ((xW o u cI cZ cJ) ++ [(ao, .inl (cJ, 1, .inr (.inl (fun _ => 0))))])) (av := [.ref o, .int 11, .int x2, .int x3, .int x4, .ref ao]) (sz := sz) (lv := [(0, .ref o), (1, .int 11), (2, .int x2), (3, .int x3), (4, .int x4), (5, .ref ao)]) (Qc := fun A => wQi (1) D ((xW o u cI cZ cJ) ++ [(ao, .inl (cJ, 1, .inr (.inl (fun _ => 0))))]) A) (by decide) (Nat.le_of_ble_eq_true rfl) rfl ?_
  intro p e s m args below meth c ls A H S hr hlocks htab hl hK hP hD hS hA hB hC
  have hx := S.1
  have hb := S.2.1
  refine lv_aload hx hb dL_node_0 (lv_at hl 5 rfl) ?_
  refine lv_iconst (v := 0) hx hb dL_node_2 (by decide) ?_
  refine lv_aload_n hx hb dL_node_3 rfl (lv_at hl 0 rfl) ?_
  refine lv_iload_n hx hb dL_node_4 rfl (lv_at hl 1 rfl) ?_
  refine lv_iload_n hx hb dL_node_5 rfl (lv_at hl 2 rfl) ?_
  refine lv_iload_n hx hb dL_node_6 rfl (lv_at hl 3 rfl) ?_
  refine lv_iload hx hb dL_node_7 (lv_at hl 4 rfl) ?_
  refine cVi [] [(ao, .inl (cJ, 1, .inr (.inl (fun _ => 0))))] (As := [.int 11, .int x2, .int x3, .int x4]) (ci := 8) S (c_X8_node_27 l D cI cZ cJ o u hst ra ga H.size x2 x3 x4 hi_x2) mi_X8_node kw_6_23 rfl rfl ⟨Nat.le_of_ble_eq_true rfl, Nat.le_of_ble_eq_true rfl⟩ hP hD hK hS hA hB xW_0 rfl rfl hl.1 (Nat.le_of_ble_eq_true rfl) ⟨Nat.le_of_ble_eq_true rfl, Nat.le_of_ble_eq_true rfl⟩ dL_node_9 (fun ce q9 H locs hz hP hD hS hce hcv hcl => ?_)
  refine vx_catch (name := "java/lang/IllegalArgumentException") S.2.2.2.1 [] (⟨0, 14, 17, 15⟩ : ExceptionTableEntry) [(⟨0, 14, 21, 17⟩ : ExceptionTableEntry)] (htab.trans rfl) (fun _ h => absurd h List.not_mem_nil) (by decide) (by decide) (S.2.2.2.2 _ kw_5_177) (va_Nw.use rfl hB.c1) hce hcv hcl ?_
  have hP : va_P D vwCl ((xW o u cI cZ cJ) ++ [(ao, .inl (cJ, 1, .inr (.inl (fun _ => 0))))]) H := hP
  have hD : va_D A ((xW o u cI cZ cJ) ++ [(ao, .inl (cJ, 1, .inr (.inl (fun _ => 0))))]) := hD
  refine lv_astore (lv' := [(6, .ref q9), (0, .ref o), (1, .int 11), (2, .int x2), (3, .int x3), (4, .int x4), (5, .ref ao)]) hx hb dL_node_17 hl (by decide) rfl (fun ls hl => ?_)
  refine lv_iconst (v := 1) hx hb dL_node_19 (by decide) ?_
  exact vx_ret (wEnd S hr hlocks hP hD hS (Nat.le_of_ble_eq_true rfl) (Nat.le_of_ble_eq_true rfl) dL_node_20 rfl)

set_option maxHeartbeats 8000000 in
set_option maxRecDepth 100000 in
theorem c_X9_isIn_50 (l : Launch) (D : va_G) (cI cZ cJ : ClassId) (o : Nat) (q : Nat → Nat) : Met l yX9_isIn (uW yX9_isIn cX9_isIn 3 (some .boolean)) ({ frames := 0, cells := 0, slots := 0, locals := 0 }) (va_Pc [.int 11, .int 0, .int 21] (pS D (tyL cI cZ cJ) (mW o 0 q cI cZ))) (QcRead (1)) 0 0 (fun _ => False) := by
  refine rdStart (lv := [(0, .int 11), (1, .int 0), (2, .int 21)]) (by decide) (Nat.le_of_ble_eq_true rfl) rfl ?_
  intro p e s m args below meth c ls S hr hlocks hl hP hK
  have hx := S.1
  have hb := S.2.1
  refine lv_iload_n hx hb dX9_isIn_0 rfl (lv_at hl 0 rfl) ?_
  refine lv_iload_n hx hb dX9_isIn_1 rfl (lv_at hl 1 rfl) ?_
  refine lv_icmp_lt (tgt := 14) hx hb dX9_isIn_2 (by decide) (fun c => absurd c (by decide)) (fun _ => ?_)
  refine lv_iload_n hx hb dX9_isIn_5 rfl (lv_at hl 0 rfl) ?_
  refine lv_iload_n hx hb dX9_isIn_6 rfl (lv_at hl 2 rfl) ?_
  refine lv_icmp_gt (tgt := 14) hx hb dX9_isIn_7 (by decide) (fun c => absurd c (by decide)) (fun _ => ?_)
  refine lv_iconst (v := 1) hx hb dX9_isIn_10 (by decide) ?_
  refine lv_goto (tgt := 15) hx hb dX9_isIn_11 (by decide) ?_
  exact rdEndZ S hr hlocks dX9_isIn_15 rfl rfl

set_option maxHeartbeats 8000000 in
set_option maxRecDepth 100000 in
theorem c_X9_canBe_27 (l : Launch) (D : va_G) (cI cZ cJ : ClassId) (o : Nat) (q : Nat → Nat) (x2 : Int32) (x3 : Int32) (x4 : Int32) (hi_x2 : x2 ≤ (-1)) : Met l yX9_canBe (uW yX9_canBe cX9_canBe 5 (some .boolean)) ({ frames := 2, cells := 0, slots := 0, locals := 42 }) (va_Pc [.ref o, .int 11, .int x2, .int x3, .int x4] (pS D (tyL cI cZ cJ) (mW o 0 q cI cZ))) (QcRead (0)) 0 0 (fun _ => False) := by
  refine rdStart (lv := [(0, .ref o), (1, .int 11), (2, .int x2), (3, .int x3), (4, .int x4)]) (by decide) (Nat.le_of_ble_eq_true rfl) rfl ?_
  intro p e s m args below meth c ls S hr hlocks hl hP hK
  have hx := S.1
  have hb := S.2.1
  refine lv_iload_n hx hb dX9_canBe_0 rfl (lv_at hl 1 rfl) ?_
  refine lv_tableIn (off := 131) (tgt := 132) hx hb dX9_canBe_1 (by decide) (by decide) (by decide) (by decide) ?_
  refine lv_iload_n hx hb dX9_canBe_132 rfl (lv_at hl 2 rfl) ?_
  refine rdS (As := [.int x2]) S (c_X9_isName_0 l D cI cZ cJ o q x2 hi_x2) ms_X9_isName kw_7_108 ⟨rfl, rfl⟩ ⟨Nat.le_of_ble_eq_true rfl, Nat.le_of_ble_eq_true rfl⟩ hP hK hl.1 (Nat.le_of_ble_eq_true rfl) ⟨Nat.le_of_ble_eq_true rfl, Nat.le_of_ble_eq_true rfl⟩ dX9_canBe_133 ?_
  refine lv_if_eq (tgt := 152) hx hb dX9_canBe_136 (by decide) (fun _ => ?_) (fun c => absurd c (by decide))
  refine lv_iconst (v := 0) hx hb dX9_canBe_152 (by decide) ?_
  exact rdEndZ S hr hlocks dX9_canBe_153 rfl rfl

set_option maxHeartbeats 8000000 in
set_option maxRecDepth 100000 in
theorem c_X9_node_27 (l : Launch) (D : va_G) (cI cZ cJ : ClassId) (o : Nat) (q : Nat → Nat) (sz : Nat) (x2 : Int32) (x3 : Int32) (x4 : Int32) (hi_x2 : x2 ≤ (-1)) : Met l yX9_node (uW yX9_node cX9_node 6 (some .int)) ({ frames := 3, cells := 0, slots := 0, locals := 66 }) (va_Pc [.ref o, .int 11, .int x2, .int x3, .int x4] (wS D (tyL cI cZ cJ) (mW o 0 q cI cZ) sz)) (wQi (0) D (mW o 1 q cI cZ) (va_A (mW o 0 q cI cZ) sz)) 0 0 (va_A (mW o 0 q cI cZ) sz) := by
  refine wStart (lv := [(0, .ref o), (1, .int 11), (2, .int x2), (3, .int x3), (4, .int x4)]) (Qc := fun A => wQi (0) D (mW o 1 q cI cZ) A) (by decide) (Nat.le_of_ble_eq_true rfl) rfl ?_
  intro p e s m args below meth c ls A H S hr hlocks hnm hl hK hP hD hS hA
  have hx := S.1
  have hb := S.2.1
  refine lv_aload_n hx hb dX9_node_0 rfl (lv_at hl 0 rfl) ?_
  refine lv_iconst (v := 0) hx hb dX9_node_1 (by decide) ?_
  refine xp (ci := 9) (v := .int 0) S inX9 tyX9 tyX9_ok nmX9 rfl hK hP hD hS mW_0 0 (by decide) kw_6_148 rfl rfl rfl rfl (Nat.le_of_ble_eq_true rfl) dX9_node_2 (fun H locs hP hD hS => ?_)
  have hP : va_P D vwCl (mW o 0 q cI cZ) H := hP
  have hD : va_D A (mW o 0 q cI cZ) := hD
  refine lv_iload_n hx hb dX9_node_5 rfl (lv_at hl 1 rfl) ?_
  refine lv_iconst (v := 0) hx hb dX9_node_6 (by decide) ?_
  refine lv_bipush (v := 21) hx hb dX9_node_7 (by decide) ?_
  refine rdS (As := [.int 11, .int 0, .int 21]) S (c_X9_isIn_50 l D cI cZ cJ o q) ms_X9_isIn kw_7_101 ⟨rfl, rfl⟩ ⟨Nat.le_of_ble_eq_true rfl, Nat.le_of_ble_eq_true rfl⟩ hP hK hl.1 (Nat.le_of_ble_eq_true rfl) ⟨Nat.le_of_ble_eq_true rfl, Nat.le_of_ble_eq_true rfl⟩ dX9_node_9 ?_
  refine lv_if_eq (tgt := 27) hx hb dX9_node_12 (by decide) (fun c => absurd c (by decide)) (fun _ => ?_)
  refine lv_aload_n hx hb dX9_node_15 rfl (lv_at hl 0 rfl) ?_
  refine lv_iload_n hx hb dX9_node_16 rfl (lv_at hl 1 rfl) ?_
  refine lv_iload_n hx hb dX9_node_17 rfl (lv_at hl 2 rfl) ?_
  refine lv_iload_n hx hb dX9_node_18 rfl (lv_at hl 3 rfl) ?_
  refine lv_iload hx hb dX9_node_19 (lv_at hl 4 rfl) ?_
  refine rdV (As := [.int 11, .int x2, .int x3, .int x4]) (ci := 9) S (c_X9_canBe_27 l D cI cZ cJ o q x2 x3 x4 hi_x2) mi_X9_canBe kw_7_155 ⟨rfl, rfl⟩ ⟨Nat.le_of_ble_eq_true rfl, Nat.le_of_ble_eq_true rfl⟩ hP hK mW_0 rfl rfl hl.1 (Nat.le_of_ble_eq_true rfl) ⟨Nat.le_of_ble_eq_true rfl, Nat.le_of_ble_eq_true rfl⟩ dX9_node_21 ?_
  refine lv_if_ne (tgt := 33) hx hb dX9_node_24 (by decide) (fun c => absurd c (by decide)) (fun _ => ?_)
  refine lv_aload_n hx hb dX9_node_27 rfl (lv_at hl 0 rfl) ?_
  refine lv_iconst (v := 1) hx hb dX9_node_28 (by decide) ?_
  refine wrV (As := [.int 1]) (ci := 9) S (c_X9_no_0 l D cI cZ cJ o q H.size) mi_X9_no kw_7_104 rfl rfl ⟨Nat.le_of_ble_eq_true rfl, Nat.le_of_ble_eq_true rfl⟩ hP hD hK hS hA mW_0 rfl rfl hl.1 (Nat.le_of_ble_eq_true rfl) ⟨Nat.le_of_ble_eq_true rfl, Nat.le_of_ble_eq_true rfl⟩ dX9_node_29 (fun H locs hz hP hD hS => ?_)
  exact wEnd S hr hlocks hP hD hS (Nat.le_of_ble_eq_true rfl) (Nat.le_of_ble_eq_true rfl) dX9_node_32 rfl

set_option maxHeartbeats 8000000 in
set_option maxRecDepth 100000 in
theorem h_node_28 (l : Launch) (D : va_G) (cI cZ cJ : ClassId) (o : Nat) (u : Nat → Nat) (ao : Nat) (hst : l.stackTraces = false) (ra ga : Nat → Nat) (sz : Nat) (x2 : Int32) (x3 : Int32) (x4 : Int32) (lo_x2 : 16 ≤ x2) : vx_Met l yL_node (uWh yL_node cL_node 7 (some .int) [(0, 14, 17, 15), (0, 14, 21, 17)]) ({ frames := 8, cells := 1, slots := 6, locals := 126 }) (va_Pc [.ref o, .int 11, .int x2, .int x3, .int x4, .ref ao] (lS ra ga D (tyL cI cZ cJ) ((xW o u cI cZ cJ) ++ [(ao, .inl (cJ, 1, .inr (.inl (fun _ => 0))))]) sz)) (wQi (1) D ((xW o u cI cZ cJ) ++ [(ao, .inl (cJ, 1, .inr (.inl (fun _ => 0))))]) (va_A ((xW o u cI cZ cJ) ++ [(ao, .inl (cJ, 1, .inr (.inl (fun _ => 0))))]) sz)) (xN (va_A ((xW o u cI cZ cJ) ++ [(ao, .inl (cJ, 1, .inr (.inl (fun _ => 0))))]) sz)) 1 6 (va_A ((xW o u cI cZ cJ) ++ [(ao, .inl (cJ, 1, .inr (.inl (fun _ => 0))))]) sz) := by
  refine hStart (l := l) (y := yL_node) (b := cL_node) (n := 7) (r := (some .int)) (hh := [(0, 14, 17, 15), (0, 14, 21, 17)]) (rm := ({ frames := 8, cells := 1, slots := 6, locals := 126 })) (mc := 1) (ms := 6) (ra := ra) (ga := ga) (D := D) (tys := tyL cI cZ cJ) (ws := ((xW o u cI cZ cJ) ++ [(ao, .inl (cJ, 1, .inr (.inl (fun _ => 0))))])) (av := [.ref o, .int 11, .int x2, .int x3, .int x4, .ref ao]) (sz := sz) (lv := [(0, .ref o), (1, .int 11), (2, .int x2), (3, .int x3), (4, .int x4), (5, .ref ao)]) (Qc := fun A => wQi (1) D ((xW o u cI cZ cJ) ++ [(ao, .inl (cJ, 1, .inr (.inl (fun _ => 0))))]) A) (by decide) (Nat.le_of_ble_eq_true rfl) rfl ?_
  intro p e s m args below meth c ls A H S hr hlocks htab hl hK hP hD hS hA hB hC
  have hx := S.1
  have hb := S.2.1
  refine lv_aload hx hb dL_node_0 (lv_at hl 5 rfl) ?_
  refine lv_iconst (v := 0) hx hb dL_node_2 (by decide) ?_
  refine lv_aload_n hx hb dL_node_3 rfl (lv_at hl 0 rfl) ?_
  refine lv_iload_n hx hb dL_node_4 rfl (lv_at hl 1 rfl) ?_
  refine lv_iload_n hx hb dL_node_5 rfl (lv_at hl 2 rfl) ?_
  refine lv_iload_n hx hb dL_node_6 rfl (lv_at hl 3 rfl) ?_
  refine lv_iload hx hb dL_node_7 (lv_at hl 4 rfl) ?_
  refine cVi [] [(ao, .inl (cJ, 1, .inr (.inl (fun _ => 0))))] (As := [.int 11, .int x2, .int x3, .int x4]) (ci := 8) S (c_X8_node_28 l D cI cZ cJ o u hst ra ga H.size x2 x3 x4 lo_x2) mi_X8_node kw_6_23 rfl rfl ⟨Nat.le_of_ble_eq_true rfl, Nat.le_of_ble_eq_true rfl⟩ hP hD hK hS hA hB xW_0 rfl rfl hl.1 (Nat.le_of_ble_eq_true rfl) ⟨Nat.le_of_ble_eq_true rfl, Nat.le_of_ble_eq_true rfl⟩ dL_node_9 (fun ce q9 H locs hz hP hD hS hce hcv hcl => ?_)
  refine vx_catch (name := "java/lang/IllegalArgumentException") S.2.2.2.1 [] (⟨0, 14, 17, 15⟩ : ExceptionTableEntry) [(⟨0, 14, 21, 17⟩ : ExceptionTableEntry)] (htab.trans rfl) (fun _ h => absurd h List.not_mem_nil) (by decide) (by decide) (S.2.2.2.2 _ kw_5_177) (va_Nw.use rfl hB.c1) hce hcv hcl ?_
  have hP : va_P D vwCl ((xW o u cI cZ cJ) ++ [(ao, .inl (cJ, 1, .inr (.inl (fun _ => 0))))]) H := hP
  have hD : va_D A ((xW o u cI cZ cJ) ++ [(ao, .inl (cJ, 1, .inr (.inl (fun _ => 0))))]) := hD
  refine lv_astore (lv' := [(6, .ref q9), (0, .ref o), (1, .int 11), (2, .int x2), (3, .int x3), (4, .int x4), (5, .ref ao)]) hx hb dL_node_17 hl (by decide) rfl (fun ls hl => ?_)
  refine lv_iconst (v := 1) hx hb dL_node_19 (by decide) ?_
  exact vx_ret (wEnd S hr hlocks hP hD hS (Nat.le_of_ble_eq_true rfl) (Nat.le_of_ble_eq_true rfl) dL_node_20 rfl)

set_option maxHeartbeats 8000000 in
set_option maxRecDepth 100000 in
theorem c_X9_canBe_28 (l : Launch) (D : va_G) (cI cZ cJ : ClassId) (o : Nat) (q : Nat → Nat) (x2 : Int32) (x3 : Int32) (x4 : Int32) (lo_x2 : 16 ≤ x2) : Met l yX9_canBe (uW yX9_canBe cX9_canBe 5 (some .boolean)) ({ frames := 2, cells := 0, slots := 0, locals := 42 }) (va_Pc [.ref o, .int 11, .int x2, .int x3, .int x4] (pS D (tyL cI cZ cJ) (mW o 0 q cI cZ))) (QcRead (0)) 0 0 (fun _ => False) := by
  refine rdStart (lv := [(0, .ref o), (1, .int 11), (2, .int x2), (3, .int x3), (4, .int x4)]) (by decide) (Nat.le_of_ble_eq_true rfl) rfl ?_
  intro p e s m args below meth c ls S hr hlocks hl hP hK
  have hx := S.1
  have hb := S.2.1
  refine lv_iload_n hx hb dX9_canBe_0 rfl (lv_at hl 1 rfl) ?_
  refine lv_tableIn (off := 131) (tgt := 132) hx hb dX9_canBe_1 (by decide) (by decide) (by decide) (by decide) ?_
  refine lv_iload_n hx hb dX9_canBe_132 rfl (lv_at hl 2 rfl) ?_
  refine rdS (As := [.int x2]) S (c_X9_isName_1 l D cI cZ cJ o q x2 lo_x2) ms_X9_isName kw_7_108 ⟨rfl, rfl⟩ ⟨Nat.le_of_ble_eq_true rfl, Nat.le_of_ble_eq_true rfl⟩ hP hK hl.1 (Nat.le_of_ble_eq_true rfl) ⟨Nat.le_of_ble_eq_true rfl, Nat.le_of_ble_eq_true rfl⟩ dX9_canBe_133 ?_
  refine lv_if_eq (tgt := 152) hx hb dX9_canBe_136 (by decide) (fun _ => ?_) (fun c => absurd c (by decide))
  refine lv_iconst (v := 0) hx hb dX9_canBe_152 (by decide) ?_
  exact rdEndZ S hr hlocks dX9_canBe_153 rfl rfl

set_option maxHeartbeats 8000000 in
set_option maxRecDepth 100000 in
theorem c_X9_node_28 (l : Launch) (D : va_G) (cI cZ cJ : ClassId) (o : Nat) (q : Nat → Nat) (sz : Nat) (x2 : Int32) (x3 : Int32) (x4 : Int32) (lo_x2 : 16 ≤ x2) : Met l yX9_node (uW yX9_node cX9_node 6 (some .int)) ({ frames := 3, cells := 0, slots := 0, locals := 66 }) (va_Pc [.ref o, .int 11, .int x2, .int x3, .int x4] (wS D (tyL cI cZ cJ) (mW o 0 q cI cZ) sz)) (wQi (0) D (mW o 1 q cI cZ) (va_A (mW o 0 q cI cZ) sz)) 0 0 (va_A (mW o 0 q cI cZ) sz) := by
  refine wStart (lv := [(0, .ref o), (1, .int 11), (2, .int x2), (3, .int x3), (4, .int x4)]) (Qc := fun A => wQi (0) D (mW o 1 q cI cZ) A) (by decide) (Nat.le_of_ble_eq_true rfl) rfl ?_
  intro p e s m args below meth c ls A H S hr hlocks hnm hl hK hP hD hS hA
  have hx := S.1
  have hb := S.2.1
  refine lv_aload_n hx hb dX9_node_0 rfl (lv_at hl 0 rfl) ?_
  refine lv_iconst (v := 0) hx hb dX9_node_1 (by decide) ?_
  refine xp (ci := 9) (v := .int 0) S inX9 tyX9 tyX9_ok nmX9 rfl hK hP hD hS mW_0 0 (by decide) kw_6_148 rfl rfl rfl rfl (Nat.le_of_ble_eq_true rfl) dX9_node_2 (fun H locs hP hD hS => ?_)
  have hP : va_P D vwCl (mW o 0 q cI cZ) H := hP
  have hD : va_D A (mW o 0 q cI cZ) := hD
  refine lv_iload_n hx hb dX9_node_5 rfl (lv_at hl 1 rfl) ?_
  refine lv_iconst (v := 0) hx hb dX9_node_6 (by decide) ?_
  refine lv_bipush (v := 21) hx hb dX9_node_7 (by decide) ?_
  refine rdS (As := [.int 11, .int 0, .int 21]) S (c_X9_isIn_50 l D cI cZ cJ o q) ms_X9_isIn kw_7_101 ⟨rfl, rfl⟩ ⟨Nat.le_of_ble_eq_true rfl, Nat.le_of_ble_eq_true rfl⟩ hP hK hl.1 (Nat.le_of_ble_eq_true rfl) ⟨Nat.le_of_ble_eq_true rfl, Nat.le_of_ble_eq_true rfl⟩ dX9_node_9 ?_
  refine lv_if_eq (tgt := 27) hx hb dX9_node_12 (by decide) (fun c => absurd c (by decide)) (fun _ => ?_)
  refine lv_aload_n hx hb dX9_node_15 rfl (lv_at hl 0 rfl) ?_
  refine lv_iload_n hx hb dX9_node_16 rfl (lv_at hl 1 rfl) ?_
  refine lv_iload_n hx hb dX9_node_17 rfl (lv_at hl 2 rfl) ?_
  refine lv_iload_n hx hb dX9_node_18 rfl (lv_at hl 3 rfl) ?_
  refine lv_iload hx hb dX9_node_19 (lv_at hl 4 rfl) ?_
  refine rdV (As := [.int 11, .int x2, .int x3, .int x4]) (ci := 9) S (c_X9_canBe_28 l D cI cZ cJ o q x2 x3 x4 lo_x2) mi_X9_canBe kw_7_155 ⟨rfl, rfl⟩ ⟨Nat.le_of_ble_eq_true rfl, Nat.le_of_ble_eq_true rfl⟩ hP hK mW_0 rfl rfl hl.1 (Nat.le_of_ble_eq_true rfl) ⟨Nat.le_of_ble_eq_true rfl, Nat.le_of_ble_eq_true rfl⟩ dX9_node_21 ?_
  refine lv_if_ne (tgt := 33) hx hb dX9_node_24 (by decide) (fun c => absurd c (by decide)) (fun _ => ?_)
  refine lv_aload_n hx hb dX9_node_27 rfl (lv_at hl 0 rfl) ?_
  refine lv_iconst (v := 1) hx hb dX9_node_28 (by decide) ?_
  refine wrV (As := [.int 1]) (ci := 9) S (c_X9_no_0 l D cI cZ cJ o q H.size) mi_X9_no kw_7_104 rfl rfl ⟨Nat.le_of_ble_eq_true rfl, Nat.le_of_ble_eq_true rfl⟩ hP hD hK hS hA mW_0 rfl rfl hl.1 (Nat.le_of_ble_eq_true rfl) ⟨Nat.le_of_ble_eq_true rfl, Nat.le_of_ble_eq_true rfl⟩ dX9_node_29 (fun H locs hz hP hD hS => ?_)
  exact wEnd S hr hlocks hP hD hS (Nat.le_of_ble_eq_true rfl) (Nat.le_of_ble_eq_true rfl) dX9_node_32 rfl

set_option maxHeartbeats 8000000 in
set_option maxRecDepth 100000 in
theorem h_node_29 (l : Launch) (D : va_G) (cI cZ cJ : ClassId) (o : Nat) (u : Nat → Nat) (ao : Nat) (hst : l.stackTraces = false) (ra ga : Nat → Nat) (sz : Nat) (x2 : Int32) (lo_x2 : 0 ≤ x2) (hi_x2 : x2 ≤ 15) : vx_Met l yL_node (uWh yL_node cL_node 7 (some .int) [(0, 14, 17, 15), (0, 14, 21, 17)]) ({ frames := 4, cells := 0, slots := 0, locals := 90 }) (va_Pc [.ref o, .int 11, .int x2, .int 0, .int 0, .ref ao] (lS ra ga D (tyL cI cZ cJ) ((xW o u cI cZ cJ) ++ [(ao, .inl (cJ, 1, .inr (.inl (fun _ => 0))))]) sz)) (wQi (0) D (((((((((xW o u cI cZ cJ).set 13 ((u 12), .inr (5, ([.int 0, .ref (u 13), .ref (u 14), .ref (u 15), .ref (u 16), .ref (u 17), .ref (u 18)].set 0 (.int 1))))).set 14 ((u 13), .inl (cI, 110, .inl (upd (fun _ => 0) (0 : Int32).toNatClampNeg 11)))).set 15 ((u 14), .inl (cI, 110, .inl (upd (fun _ => 0) (0 : Int32).toNatClampNeg x2)))).set 16 ((u 15), .inl (cI, 110, .inl (upd (fun _ => 0) (0 : Int32).toNatClampNeg 0)))).set 17 ((u 16), .inl (cI, 110, .inl (upd (fun _ => 0) (0 : Int32).toNatClampNeg 0)))).set 18 ((u 17), .inl (cI, 110, .inl (upd (fun _ => 0) (0 : Int32).toNatClampNeg (-1))))).set 19 ((u 18), .inl (cI, 110, .inl (upd (fun _ => 0) (0 : Int32).toNatClampNeg (-1))))) ++ [(ao, .inl (cJ, 1, .inr (.inl (vp_updL (fun _ => 0) (0 : Int32).toNatClampNeg 0))))]) (va_A ((xW o u cI cZ cJ) ++ [(ao, .inl (cJ, 1, .inr (.inl (fun _ => 0))))]) sz)) (xN (va_A ((xW o u cI cZ cJ) ++ [(ao, .inl (cJ, 1, .inr (.inl (fun _ => 0))))]) sz)) 0 0 (va_A ((xW o u cI cZ cJ) ++ [(ao, .inl (cJ, 1, .inr (.inl (fun _ => 0))))]) sz) := by
  refine hStart (l := l) (y := yL_node) (b := cL_node) (n := 7) (r := (some .int)) (hh := [(0, 14, 17, 15), (0, 14, 21, 17)]) (rm := ({ frames := 4, cells := 0, slots := 0, locals := 90 })) (mc := 0) (ms := 0) (ra := ra) (ga := ga) (D := D) (tys := tyL cI cZ cJ) (ws := ((xW o u cI cZ cJ) ++ [(ao, .inl (cJ, 1, .inr (.inl (fun _ => 0))))])) (av := [.ref o, .int 11, .int x2, .int 0, .int 0, .ref ao]) (sz := sz) (lv := [(0, .ref o), (1, .int 11), (2, .int x2), (3, .int 0), (4, .int 0), (5, .ref ao)]) (Qc := fun A => wQi (0) D (((((((((xW o u cI cZ cJ).set 13 ((u 12), .inr (5, ([.int 0, .ref (u 13), .ref (u 14), .ref (u 15), .ref (u 16), .ref (u 17), .ref (u 18)].set 0 (.int 1))))).set 14 ((u 13), .inl (cI, 110, .inl (upd (fun _ => 0) (0 : Int32).toNatClampNeg 11)))).set 15 ((u 14), .inl (cI, 110, .inl (upd (fun _ => 0) (0 : Int32).toNatClampNeg x2)))).set 16 ((u 15), .inl (cI, 110, .inl (upd (fun _ => 0) (0 : Int32).toNatClampNeg 0)))).set 17 ((u 16), .inl (cI, 110, .inl (upd (fun _ => 0) (0 : Int32).toNatClampNeg 0)))).set 18 ((u 17), .inl (cI, 110, .inl (upd (fun _ => 0) (0 : Int32).toNatClampNeg (-1))))).set 19 ((u 18), .inl (cI, 110, .inl (upd (fun _ => 0) (0 : Int32).toNatClampNeg (-1))))) ++ [(ao, .inl (cJ, 1, .inr (.inl (vp_updL (fun _ => 0) (0 : Int32).toNatClampNeg 0))))]) A) (by decide) (Nat.le_of_ble_eq_true rfl) rfl ?_
  intro p e s m args below meth c ls A H S hr hlocks htab hl hK hP hD hS hA hB hC
  have hx := S.1
  have hb := S.2.1
  refine lv_aload hx hb dL_node_0 (lv_at hl 5 rfl) ?_
  refine lv_iconst (v := 0) hx hb dL_node_2 (by decide) ?_
  refine lv_aload_n hx hb dL_node_3 rfl (lv_at hl 0 rfl) ?_
  refine lv_iload_n hx hb dL_node_4 rfl (lv_at hl 1 rfl) ?_
  refine lv_iload_n hx hb dL_node_5 rfl (lv_at hl 2 rfl) ?_
  refine lv_iload_n hx hb dL_node_6 rfl (lv_at hl 3 rfl) ?_
  refine lv_iload hx hb dL_node_7 (lv_at hl 4 rfl) ?_
  refine faVi [] [(ao, .inl (cJ, 1, .inr (.inl (fun _ => 0))))] (As := [.int 11, .int x2, .int 0, .int 0]) (ci := 8) S (c_X8_node_29 l D cI cZ cJ o u ra ga H.size x2 lo_x2 hi_x2) mi_X8_node kw_6_23 rfl rfl ⟨Nat.le_of_ble_eq_true rfl, Nat.le_of_ble_eq_true rfl⟩ hP hD hK hS hA hB xW_0 rfl rfl hl.1 (Nat.le_of_ble_eq_true rfl) ⟨Nat.le_of_ble_eq_true rfl, Nat.le_of_ble_eq_true rfl⟩ dL_node_9 (fun H locs hz hP hD hS => ?_)
  have hP : va_P D vwCl (((((((((xW o u cI cZ cJ).set 13 ((u 12), .inr (5, ([.int 0, .ref (u 13), .ref (u 14), .ref (u 15), .ref (u 16), .ref (u 17), .ref (u 18)].set 0 (.int 1))))).set 14 ((u 13), .inl (cI, 110, .inl (upd (fun _ => 0) (0 : Int32).toNatClampNeg 11)))).set 15 ((u 14), .inl (cI, 110, .inl (upd (fun _ => 0) (0 : Int32).toNatClampNeg x2)))).set 16 ((u 15), .inl (cI, 110, .inl (upd (fun _ => 0) (0 : Int32).toNatClampNeg 0)))).set 17 ((u 16), .inl (cI, 110, .inl (upd (fun _ => 0) (0 : Int32).toNatClampNeg 0)))).set 18 ((u 17), .inl (cI, 110, .inl (upd (fun _ => 0) (0 : Int32).toNatClampNeg (-1))))).set 19 ((u 18), .inl (cI, 110, .inl (upd (fun _ => 0) (0 : Int32).toNatClampNeg (-1))))) ++ [(ao, .inl (cJ, 1, .inr (.inl (fun _ => 0))))]) H := hP
  have hD : va_D A (((((((((xW o u cI cZ cJ).set 13 ((u 12), .inr (5, ([.int 0, .ref (u 13), .ref (u 14), .ref (u 15), .ref (u 16), .ref (u 17), .ref (u 18)].set 0 (.int 1))))).set 14 ((u 13), .inl (cI, 110, .inl (upd (fun _ => 0) (0 : Int32).toNatClampNeg 11)))).set 15 ((u 14), .inl (cI, 110, .inl (upd (fun _ => 0) (0 : Int32).toNatClampNeg x2)))).set 16 ((u 15), .inl (cI, 110, .inl (upd (fun _ => 0) (0 : Int32).toNatClampNeg 0)))).set 17 ((u 16), .inl (cI, 110, .inl (upd (fun _ => 0) (0 : Int32).toNatClampNeg 0)))).set 18 ((u 17), .inl (cI, 110, .inl (upd (fun _ => 0) (0 : Int32).toNatClampNeg (-1))))).set 19 ((u 18), .inl (cI, 110, .inl (upd (fun _ => 0) (0 : Int32).toNatClampNeg (-1))))) ++ [(ao, .inl (cJ, 1, .inr (.inl (fun _ => 0))))]) := hD
  refine lv_i2l (v := 0) hx hb dL_node_12 (by decide) ?_
  refine xlast (t0 := 2) S hK hP hD hS (q0 := 88) rfl rfl (vin rfl) dL_node_13 (fun H locs hP hD hS => ?_)
  have hP : va_P D vwCl (((((((((xW o u cI cZ cJ).set 13 ((u 12), .inr (5, ([.int 0, .ref (u 13), .ref (u 14), .ref (u 15), .ref (u 16), .ref (u 17), .ref (u 18)].set 0 (.int 1))))).set 14 ((u 13), .inl (cI, 110, .inl (upd (fun _ => 0) (0 : Int32).toNatClampNeg 11)))).set 15 ((u 14), .inl (cI, 110, .inl (upd (fun _ => 0) (0 : Int32).toNatClampNeg x2)))).set 16 ((u 15), .inl (cI, 110, .inl (upd (fun _ => 0) (0 : Int32).toNatClampNeg 0)))).set 17 ((u 16), .inl (cI, 110, .inl (upd (fun _ => 0) (0 : Int32).toNatClampNeg 0)))).set 18 ((u 17), .inl (cI, 110, .inl (upd (fun _ => 0) (0 : Int32).toNatClampNeg (-1))))).set 19 ((u 18), .inl (cI, 110, .inl (upd (fun _ => 0) (0 : Int32).toNatClampNeg (-1))))) ++ [(ao, .inl (cJ, 1, .inr (.inl (vp_updL (fun _ => 0) (0 : Int32).toNatClampNeg 0))))]) H := hP
  have hD : va_D A (((((((((xW o u cI cZ cJ).set 13 ((u 12), .inr (5, ([.int 0, .ref (u 13), .ref (u 14), .ref (u 15), .ref (u 16), .ref (u 17), .ref (u 18)].set 0 (.int 1))))).set 14 ((u 13), .inl (cI, 110, .inl (upd (fun _ => 0) (0 : Int32).toNatClampNeg 11)))).set 15 ((u 14), .inl (cI, 110, .inl (upd (fun _ => 0) (0 : Int32).toNatClampNeg x2)))).set 16 ((u 15), .inl (cI, 110, .inl (upd (fun _ => 0) (0 : Int32).toNatClampNeg 0)))).set 17 ((u 16), .inl (cI, 110, .inl (upd (fun _ => 0) (0 : Int32).toNatClampNeg 0)))).set 18 ((u 17), .inl (cI, 110, .inl (upd (fun _ => 0) (0 : Int32).toNatClampNeg (-1))))).set 19 ((u 18), .inl (cI, 110, .inl (upd (fun _ => 0) (0 : Int32).toNatClampNeg (-1))))) ++ [(ao, .inl (cJ, 1, .inr (.inl (vp_updL (fun _ => 0) (0 : Int32).toNatClampNeg 0))))]) := hD
  refine lv_goto (tgt := 25) hx hb dL_node_14 (by decide) ?_
  refine lv_iconst (v := 0) hx hb dL_node_25 (by decide) ?_
  exact vx_ret (wEnd S hr hlocks hP hD hS (Nat.le_of_ble_eq_true rfl) (Nat.le_of_ble_eq_true rfl) dL_node_26 rfl)

set_option maxHeartbeats 8000000 in
set_option maxRecDepth 100000 in
theorem c_X9_canBe_29 (l : Launch) (D : va_G) (cI cZ cJ : ClassId) (o : Nat) (q : Nat → Nat) (x2 : Int32) (lo_x2 : 0 ≤ x2) (hi_x2 : x2 ≤ 15) : Met l yX9_canBe (uW yX9_canBe cX9_canBe 5 (some .boolean)) ({ frames := 2, cells := 0, slots := 0, locals := 42 }) (va_Pc [.ref o, .int 11, .int x2, .int 0, .int 0] (pS D (tyL cI cZ cJ) (mW o 0 q cI cZ))) (QcRead (1)) 0 0 (fun _ => False) := by
  refine rdStart (lv := [(0, .ref o), (1, .int 11), (2, .int x2), (3, .int 0), (4, .int 0)]) (by decide) (Nat.le_of_ble_eq_true rfl) rfl ?_
  intro p e s m args below meth c ls S hr hlocks hl hP hK
  have hx := S.1
  have hb := S.2.1
  refine lv_iload_n hx hb dX9_canBe_0 rfl (lv_at hl 1 rfl) ?_
  refine lv_tableIn (off := 131) (tgt := 132) hx hb dX9_canBe_1 (by decide) (by decide) (by decide) (by decide) ?_
  refine lv_iload_n hx hb dX9_canBe_132 rfl (lv_at hl 2 rfl) ?_
  refine rdS (As := [.int x2]) S (c_X9_isName_2 l D cI cZ cJ o q x2 lo_x2 hi_x2) ms_X9_isName kw_7_108 ⟨rfl, rfl⟩ ⟨Nat.le_of_ble_eq_true rfl, Nat.le_of_ble_eq_true rfl⟩ hP hK hl.1 (Nat.le_of_ble_eq_true rfl) ⟨Nat.le_of_ble_eq_true rfl, Nat.le_of_ble_eq_true rfl⟩ dX9_canBe_133 ?_
  refine lv_if_eq (tgt := 152) hx hb dX9_canBe_136 (by decide) (fun c => absurd c (by decide)) (fun _ => ?_)
  refine lv_iload_n hx hb dX9_canBe_139 rfl (lv_at hl 3 rfl) ?_
  refine lv_if_ne (tgt := 152) hx hb dX9_canBe_140 (by decide) (fun c => absurd c (by decide)) (fun _ => ?_)
  refine lv_iload hx hb dX9_canBe_143 (lv_at hl 4 rfl) ?_
  refine lv_if_ne (tgt := 152) hx hb dX9_canBe_145 (by decide) (fun c => absurd c (by decide)) (fun _ => ?_)
  refine lv_iconst (v := 1) hx hb dX9_canBe_148 (by decide) ?_
  refine lv_goto (tgt := 153) hx hb dX9_canBe_149 (by decide) ?_
  exact rdEndZ S hr hlocks dX9_canBe_153 rfl rfl

set_option maxHeartbeats 8000000 in
set_option maxRecDepth 100000 in
theorem c_X9_parts_4 (l : Launch) (D : va_G) (cI cZ cJ : ClassId) (o : Nat) (q : Nat → Nat) (x2 : Int32) (lo_x2 : 0 ≤ x2) (hi_x2 : x2 ≤ 15) : Met l yX9_parts (uW yX9_parts cX9_parts 1 (some .int)) ({ frames := 0, cells := 0, slots := 0, locals := 0 }) (va_Pc [.int 11] (pS D (tyL cI cZ cJ) (((((((mW o 0 q cI cZ).set 12 ((q 11), .inl (cI, 110, .inl (upd (fun _ => 0) (0 : Int32).toNatClampNeg 11)))).set 13 ((q 12), .inl (cI, 110, .inl (upd (fun _ => 0) (0 : Int32).toNatClampNeg x2)))).set 14 ((q 13), .inl (cI, 110, .inl (upd (fun _ => 0) (0 : Int32).toNatClampNeg 0)))).set 15 ((q 14), .inl (cI, 110, .inl (upd (fun _ => 0) (0 : Int32).toNatClampNeg 0)))).set 16 ((q 15), .inl (cI, 110, .inl (upd (fun _ => 0) (0 : Int32).toNatClampNeg (-1))))).set 17 ((q 16), .inl (cI, 110, .inl (upd (fun _ => 0) (0 : Int32).toNatClampNeg (-1))))))) (QcRead (0)) 0 0 (fun _ => False) := by
  refine rdStart (lv := [(0, .int 11)]) (by decide) (Nat.le_of_ble_eq_true rfl) rfl ?_
  intro p e s m args below meth c ls S hr hlocks hl hP hK
  have hx := S.1
  have hb := S.2.1
  refine lv_iload_n hx hb dX9_parts_0 rfl (lv_at hl 0 rfl) ?_
  refine lv_tableIn (off := 103) (tgt := 104) hx hb dX9_parts_1 (by decide) (by decide) (by decide) (by decide) ?_
  refine lv_iconst (v := 0) hx hb dX9_parts_104 (by decide) ?_
  exact rdEnd S hr hlocks dX9_parts_105 rfl
