set_option maxHeartbeats 8000000 in
set_option maxRecDepth 100000 in
theorem c_X9_isIn_90 (l : Launch) (D : va_G) (cI cZ cJ : ClassId) (o : Nat) (q : Nat → Nat) : Met l yX9_isIn (uW yX9_isIn cX9_isIn 3 (some .boolean)) ({ frames := 0, cells := 0, slots := 0, locals := 0 }) (va_Pc [.int 7, .int 0, .int 10] (pS D (tyL cI cZ cJ) (mW o 0 q cI cZ))) (QcRead (1)) 0 0 (fun _ => False) := by
  refine rdStart (lv := [(0, .int 7), (1, .int 0), (2, .int 10)]) (by decide) (Nat.le_of_ble_eq_true rfl) rfl ?_
  intro p e s m args below meth c ls S hr hlocks hl hP hK
  have hx := S.1
  have hb := S.2.1
  refine lv_iload_n hx hb dX9_isIn_0 rfl (lv_at hl 0 rfl) ?_
  refine lv_iload_n hx hb dX9_isIn_1 rfl (lv_at hl 1 rfl) ?_
  refine lv_icmp_lt (tgt := 14) hx hb dX9_isIn_2 (by decide) (fun c => absurd c (by decide)) (fun _ => ?_)
  refine lv_iload_n hx hb dX9_isIn_5 rfl (lv_at hl 0 rfl) ?_
  refine lv_iload_n hx hb dX9_isIn_6 rfl (lv_at hl 2 rfl) ?_
  refine lv_icmp_gt (tgt := 14) hx hb dX9_isIn_7 (by decide) (fun c => absurd c (by decide)) (fun _ => ?_)
  refine lv_iconst (v := 1) hx hb dX9_isIn_10 (by decide) ?_
  refine lv_goto (tgt := 15) hx hb dX9_isIn_11 (by decide) ?_
  exact rdEndZ S hr hlocks dX9_isIn_15 rfl rfl

set_option maxHeartbeats 8000000 in
set_option maxRecDepth 100000 in
theorem c_X9_manyNow_8 (l : Launch) (D : va_G) (cI cZ cJ : ClassId) (o : Nat) (q : Nat → Nat) : Met l yX9_manyNow (uW yX9_manyNow cX9_manyNow 4 (some .int)) ({ frames := 0, cells := 0, slots := 0, locals := 0 }) (va_Pc [.ref o, .int 7] (pS D (tyL cI cZ cJ) (mW o 0 q cI cZ))) (QcRead (7)) 0 0 (fun _ => False) := by
  refine rdStart (lv := [(0, .ref o), (1, .int 7)]) (by decide) (Nat.le_of_ble_eq_true rfl) rfl ?_
  intro p e s m args below meth c ls S hr hlocks hl hP hK
  have hx := S.1
  have hb := S.2.1
  refine lv_iconst (v := 0) hx hb dX9_manyNow_0 (by decide) ?_
  refine lv_istore_n (lv' := [(2, .int 0), (0, .ref o), (1, .int 7)]) hx hb dX9_manyNow_1 rfl hl (by decide) rfl (fun ls hl => ?_)
  refine lv_iload_n hx hb dX9_manyNow_2 rfl (lv_at hl 2 rfl) ?_
  refine lv_tableIn (off := 165) (tgt := 168) hx hb dX9_manyNow_3 (by decide) (by decide) (by decide) (by decide) ?_
  refine lv_aload_n hx hb dX9_manyNow_168 rfl (lv_at hl 1 rfl) ?_
  refine xg (ci := 9) S inX9 rfl hK hP mW_0 20 (by decide) mF_20 kw_6_168 rfl dX9_manyNow_169 ?_
  exact rdEnd S hr hlocks dX9_manyNow_172 rfl

set_option maxHeartbeats 8000000 in
set_option maxRecDepth 100000 in
theorem c_X9_many_9 (l : Launch) (D : va_G) (cI cZ cJ : ClassId) (o : Nat) (q : Nat → Nat) (sz : Nat) : Met l yX9_many (uW yX9_many cX9_many 2 (some .int)) ({ frames := 1, cells := 0, slots := 0, locals := 23 }) (va_Pc [.ref o, .int 7] (wS D (tyL cI cZ cJ) (mW o 0 q cI cZ) sz)) (wQi (7) D (mW o 0 q cI cZ) (va_A (mW o 0 q cI cZ) sz)) 0 0 (va_A (mW o 0 q cI cZ) sz) := by
  refine wStart (lv := [(0, .ref o), (1, .int 7)]) (Qc := fun A => wQi (7) D (mW o 0 q cI cZ) A) (by decide) (Nat.le_of_ble_eq_true rfl) rfl ?_
  intro p e s m args below meth c ls A H S hr hlocks hnm hl hK hP hD hS hA
  have hx := S.1
  have hb := S.2.1
  refine lv_aload_n hx hb dX9_many_0 rfl (lv_at hl 0 rfl) ?_
  refine lv_iconst (v := 0) hx hb dX9_many_1 (by decide) ?_
  refine xp (ci := 9) (v := .int 0) S inX9 tyX9 tyX9_ok nmX9 rfl hK hP hD hS mW_0 0 (by decide) kw_6_148 rfl rfl rfl rfl (Nat.le_of_ble_eq_true rfl) dX9_many_2 (fun H locs hP hD hS => ?_)
  have hP : va_P D vwCl (mW o 0 q cI cZ) H := hP
  have hD : va_D A (mW o 0 q cI cZ) := hD
  refine lv_iload_n hx hb dX9_many_5 rfl (lv_at hl 1 rfl) ?_
  refine lv_iconst (v := 0) hx hb dX9_many_6 (by decide) ?_
  refine lv_bipush (v := 10) hx hb dX9_many_7 (by decide) ?_
  refine rdS (As := [.int 7, .int 0, .int 10]) S (c_X9_isIn_90 l D cI cZ cJ o q) ms_X9_isIn kw_7_101 ⟨rfl, rfl⟩ ⟨Nat.le_of_ble_eq_true rfl, Nat.le_of_ble_eq_true rfl⟩ hP hK hl.1 (Nat.le_of_ble_eq_true rfl) ⟨Nat.le_of_ble_eq_true rfl, Nat.le_of_ble_eq_true rfl⟩ dX9_many_9 ?_
  refine lv_if_eq (tgt := 23) hx hb dX9_many_12 (by decide) (fun c => absurd c (by decide)) (fun _ => ?_)
  refine lv_aload_n hx hb dX9_many_15 rfl (lv_at hl 0 rfl) ?_
  refine lv_iload_n hx hb dX9_many_16 rfl (lv_at hl 1 rfl) ?_
  refine rdV (As := [.int 7]) (ci := 9) S (c_X9_manyNow_8 l D cI cZ cJ o q) mi_X9_manyNow kw_9_28 ⟨rfl, rfl⟩ ⟨Nat.le_of_ble_eq_true rfl, Nat.le_of_ble_eq_true rfl⟩ hP hK mW_0 rfl rfl hl.1 (Nat.le_of_ble_eq_true rfl) ⟨Nat.le_of_ble_eq_true rfl, Nat.le_of_ble_eq_true rfl⟩ dX9_many_17 ?_
  refine lv_goto (tgt := 28) hx hb dX9_many_20 (by decide) ?_
  exact wEnd S hr hlocks hP hD hS (Nat.le_of_ble_eq_true rfl) (Nat.le_of_ble_eq_true rfl) dX9_many_28 rfl

set_option maxHeartbeats 8000000 in
set_option maxRecDepth 100000 in
theorem h_many_10 (l : Launch) (D : va_G) (cI cZ cJ : ClassId) (o : Nat) (u : Nat → Nat) (ao : Nat) (hst : l.stackTraces = false) (ra ga : Nat → Nat) (sz : Nat) : vx_Met l yL_many (uWh yL_many cL_many 4 (some .int) [(0, 9, 12, 15)]) ({ frames := 5, cells := 0, slots := 0, locals := 106 }) (va_Pc [.ref o, .int 8, .ref ao] (lS ra ga D (tyL cI cZ cJ) ((xW o u cI cZ cJ) ++ [(ao, .inl (cJ, 1, .inr (.inl (fun _ => 0))))]) sz)) (wQi (0) D ((((((((xW o u cI cZ cJ).set 0 (o, .inr (8, ((xF u).set 9 (.int 0))))).set 32 ((u 31), .inl (cZ, 10, .inl (upd (upd (upd (upd (upd (upd (upd (upd (upd (upd (fun _ => 0) (0 : Int32).toNatClampNeg 0) (1 : Int32).toNatClampNeg 0) (2 : Int32).toNatClampNeg 0) (3 : Int32).toNatClampNeg 0) (4 : Int32).toNatClampNeg 0) (5 : Int32).toNatClampNeg 0) (6 : Int32).toNatClampNeg 0) (7 : Int32).toNatClampNeg 0) (8 : Int32).toNatClampNeg 0) (9 : Int32).toNatClampNeg 0)))).set 34 ((u 33), .inr (2, ([.ref (u 0), .ref (u 12), .ref (u 19), .int 0, .ref (u 34), .ref (u 35), .ref (u 36), .ref (u 37), .int 0].set 3 (.int 1))))).set 35 ((u 34), .inl (cI, 120, .inl (upd (fun _ => 0) (0 : Int32).toNatClampNeg 10)))).set 36 ((u 35), .inl (cI, 120, .inl (upd (fun _ => 0) (0 : Int32).toNatClampNeg 0)))).set 37 ((u 36), .inl (cI, 120, .inl (upd (fun _ => 0) (0 : Int32).toNatClampNeg (-1))))) ++ [(ao, .inl (cJ, 1, .inr (.inl (vp_updL (fun _ => 0) (0 : Int32).toNatClampNeg 1000))))]) (va_A ((xW o u cI cZ cJ) ++ [(ao, .inl (cJ, 1, .inr (.inl (fun _ => 0))))]) sz)) (xN (va_A ((xW o u cI cZ cJ) ++ [(ao, .inl (cJ, 1, .inr (.inl (fun _ => 0))))]) sz)) 0 0 (va_A ((xW o u cI cZ cJ) ++ [(ao, .inl (cJ, 1, .inr (.inl (fun _ => 0))))]) sz) := by
  refine hStart (l := l) (y := yL_many) (b := cL_many) (n := 4) (r := (some .int)) (hh := [(0, 9, 12, 15)]) (rm := ({ frames := 5, cells := 0, slots := 0, locals := 106 })) (mc := 0) (ms := 0) (ra := ra) (ga := ga) (D := D) (tys := tyL cI cZ cJ) (ws := ((xW o u cI cZ cJ) ++ [(ao, .inl (cJ, 1, .inr (.inl (fun _ => 0))))])) (av := [.ref o, .int 8, .ref ao]) (sz := sz) (lv := [(0, .ref o), (1, .int 8), (2, .ref ao)]) (Qc := fun A => wQi (0) D ((((((((xW o u cI cZ cJ).set 0 (o, .inr (8, ((xF u).set 9 (.int 0))))).set 32 ((u 31), .inl (cZ, 10, .inl (upd (upd (upd (upd (upd (upd (upd (upd (upd (upd (fun _ => 0) (0 : Int32).toNatClampNeg 0) (1 : Int32).toNatClampNeg 0) (2 : Int32).toNatClampNeg 0) (3 : Int32).toNatClampNeg 0) (4 : Int32).toNatClampNeg 0) (5 : Int32).toNatClampNeg 0) (6 : Int32).toNatClampNeg 0) (7 : Int32).toNatClampNeg 0) (8 : Int32).toNatClampNeg 0) (9 : Int32).toNatClampNeg 0)))).set 34 ((u 33), .inr (2, ([.ref (u 0), .ref (u 12), .ref (u 19), .int 0, .ref (u 34), .ref (u 35), .ref (u 36), .ref (u 37), .int 0].set 3 (.int 1))))).set 35 ((u 34), .inl (cI, 120, .inl (upd (fun _ => 0) (0 : Int32).toNatClampNeg 10)))).set 36 ((u 35), .inl (cI, 120, .inl (upd (fun _ => 0) (0 : Int32).toNatClampNeg 0)))).set 37 ((u 36), .inl (cI, 120, .inl (upd (fun _ => 0) (0 : Int32).toNatClampNeg (-1))))) ++ [(ao, .inl (cJ, 1, .inr (.inl (vp_updL (fun _ => 0) (0 : Int32).toNatClampNeg 1000))))]) A) (by decide) (Nat.le_of_ble_eq_true rfl) rfl ?_
  intro p e s m args below meth c ls A H S hr hlocks htab hl hK hP hD hS hA hB hC
  have hx := S.1
  have hb := S.2.1
  refine lv_aload_n hx hb dL_many_0 rfl (lv_at hl 2 rfl) ?_
  refine lv_iconst (v := 0) hx hb dL_many_1 (by decide) ?_
  refine lv_aload_n hx hb dL_many_2 rfl (lv_at hl 0 rfl) ?_
  refine lv_iload_n hx hb dL_many_3 rfl (lv_at hl 1 rfl) ?_
  refine faVi [] [(ao, .inl (cJ, 1, .inr (.inl (fun _ => 0))))] (As := [.int 8]) (ci := 8) S (c_X8_many_10 l D cI cZ cJ o u ra ga H.size) mi_X8_many kw_6_123 rfl rfl ⟨Nat.le_of_ble_eq_true rfl, Nat.le_of_ble_eq_true rfl⟩ hP hD hK hS hA hB xW_0 rfl rfl hl.1 (Nat.le_of_ble_eq_true rfl) ⟨Nat.le_of_ble_eq_true rfl, Nat.le_of_ble_eq_true rfl⟩ dL_many_4 (fun H locs hz hP hD hS => ?_)
  have hP : va_P D vwCl ((((((((xW o u cI cZ cJ).set 0 (o, .inr (8, ((xF u).set 9 (.int 0))))).set 32 ((u 31), .inl (cZ, 10, .inl (upd (upd (upd (upd (upd (upd (upd (upd (upd (upd (fun _ => 0) (0 : Int32).toNatClampNeg 0) (1 : Int32).toNatClampNeg 0) (2 : Int32).toNatClampNeg 0) (3 : Int32).toNatClampNeg 0) (4 : Int32).toNatClampNeg 0) (5 : Int32).toNatClampNeg 0) (6 : Int32).toNatClampNeg 0) (7 : Int32).toNatClampNeg 0) (8 : Int32).toNatClampNeg 0) (9 : Int32).toNatClampNeg 0)))).set 34 ((u 33), .inr (2, ([.ref (u 0), .ref (u 12), .ref (u 19), .int 0, .ref (u 34), .ref (u 35), .ref (u 36), .ref (u 37), .int 0].set 3 (.int 1))))).set 35 ((u 34), .inl (cI, 120, .inl (upd (fun _ => 0) (0 : Int32).toNatClampNeg 10)))).set 36 ((u 35), .inl (cI, 120, .inl (upd (fun _ => 0) (0 : Int32).toNatClampNeg 0)))).set 37 ((u 36), .inl (cI, 120, .inl (upd (fun _ => 0) (0 : Int32).toNatClampNeg (-1))))) ++ [(ao, .inl (cJ, 1, .inr (.inl (fun _ => 0))))]) H := hP
  have hD : va_D A ((((((((xW o u cI cZ cJ).set 0 (o, .inr (8, ((xF u).set 9 (.int 0))))).set 32 ((u 31), .inl (cZ, 10, .inl (upd (upd (upd (upd (upd (upd (upd (upd (upd (upd (fun _ => 0) (0 : Int32).toNatClampNeg 0) (1 : Int32).toNatClampNeg 0) (2 : Int32).toNatClampNeg 0) (3 : Int32).toNatClampNeg 0) (4 : Int32).toNatClampNeg 0) (5 : Int32).toNatClampNeg 0) (6 : Int32).toNatClampNeg 0) (7 : Int32).toNatClampNeg 0) (8 : Int32).toNatClampNeg 0) (9 : Int32).toNatClampNeg 0)))).set 34 ((u 33), .inr (2, ([.ref (u 0), .ref (u 12), .ref (u 19), .int 0, .ref (u 34), .ref (u 35), .ref (u 36), .ref (u 37), .int 0].set 3 (.int 1))))).set 35 ((u 34), .inl (cI, 120, .inl (upd (fun _ => 0) (0 : Int32).toNatClampNeg 10)))).set 36 ((u 35), .inl (cI, 120, .inl (upd (fun _ => 0) (0 : Int32).toNatClampNeg 0)))).set 37 ((u 36), .inl (cI, 120, .inl (upd (fun _ => 0) (0 : Int32).toNatClampNeg (-1))))) ++ [(ao, .inl (cJ, 1, .inr (.inl (fun _ => 0))))]) := hD
  refine lv_i2l (v := 1000) hx hb dL_many_7 (by decide) ?_
  refine xlast (t0 := 2) S hK hP hD hS (q0 := 88) rfl rfl (vin rfl) dL_many_8 (fun H locs hP hD hS => ?_)
  have hP : va_P D vwCl ((((((((xW o u cI cZ cJ).set 0 (o, .inr (8, ((xF u).set 9 (.int 0))))).set 32 ((u 31), .inl (cZ, 10, .inl (upd (upd (upd (upd (upd (upd (upd (upd (upd (upd (fun _ => 0) (0 : Int32).toNatClampNeg 0) (1 : Int32).toNatClampNeg 0) (2 : Int32).toNatClampNeg 0) (3 : Int32).toNatClampNeg 0) (4 : Int32).toNatClampNeg 0) (5 : Int32).toNatClampNeg 0) (6 : Int32).toNatClampNeg 0) (7 : Int32).toNatClampNeg 0) (8 : Int32).toNatClampNeg 0) (9 : Int32).toNatClampNeg 0)))).set 34 ((u 33), .inr (2, ([.ref (u 0), .ref (u 12), .ref (u 19), .int 0, .ref (u 34), .ref (u 35), .ref (u 36), .ref (u 37), .int 0].set 3 (.int 1))))).set 35 ((u 34), .inl (cI, 120, .inl (upd (fun _ => 0) (0 : Int32).toNatClampNeg 10)))).set 36 ((u 35), .inl (cI, 120, .inl (upd (fun _ => 0) (0 : Int32).toNatClampNeg 0)))).set 37 ((u 36), .inl (cI, 120, .inl (upd (fun _ => 0) (0 : Int32).toNatClampNeg (-1))))) ++ [(ao, .inl (cJ, 1, .inr (.inl (vp_updL (fun _ => 0) (0 : Int32).toNatClampNeg 1000))))]) H := hP
  have hD : va_D A ((((((((xW o u cI cZ cJ).set 0 (o, .inr (8, ((xF u).set 9 (.int 0))))).set 32 ((u 31), .inl (cZ, 10, .inl (upd (upd (upd (upd (upd (upd (upd (upd (upd (upd (fun _ => 0) (0 : Int32).toNatClampNeg 0) (1 : Int32).toNatClampNeg 0) (2 : Int32).toNatClampNeg 0) (3 : Int32).toNatClampNeg 0) (4 : Int32).toNatClampNeg 0) (5 : Int32).toNatClampNeg 0) (6 : Int32).toNatClampNeg 0) (7 : Int32).toNatClampNeg 0) (8 : Int32).toNatClampNeg 0) (9 : Int32).toNatClampNeg 0)))).set 34 ((u 33), .inr (2, ([.ref (u 0), .ref (u 12), .ref (u 19), .int 0, .ref (u 34), .ref (u 35), .ref (u 36), .ref (u 37), .int 0].set 3 (.int 1))))).set 35 ((u 34), .inl (cI, 120, .inl (upd (fun _ => 0) (0 : Int32).toNatClampNeg 10)))).set 36 ((u 35), .inl (cI, 120, .inl (upd (fun _ => 0) (0 : Int32).toNatClampNeg 0)))).set 37 ((u 36), .inl (cI, 120, .inl (upd (fun _ => 0) (0 : Int32).toNatClampNeg (-1))))) ++ [(ao, .inl (cJ, 1, .inr (.inl (vp_updL (fun _ => 0) (0 : Int32).toNatClampNeg 1000))))]) := hD
  refine lv_goto (tgt := 15) hx hb dL_many_9 (by decide) ?_
  refine lv_iconst (v := 0) hx hb dL_many_15 (by decide) ?_
  exact vx_ret (wEnd S hr hlocks hP hD hS (Nat.le_of_ble_eq_true rfl) (Nat.le_of_ble_eq_true rfl) dL_many_16 rfl)

set_option maxHeartbeats 8000000 in
set_option maxRecDepth 100000 in
theorem c_X9_isIn_91 (l : Launch) (D : va_G) (cI cZ cJ : ClassId) (o : Nat) (q : Nat → Nat) : Met l yX9_isIn (uW yX9_isIn cX9_isIn 3 (some .boolean)) ({ frames := 0, cells := 0, slots := 0, locals := 0 }) (va_Pc [.int 8, .int 0, .int 10] (pS D (tyL cI cZ cJ) (mW o 0 q cI cZ))) (QcRead (1)) 0 0 (fun _ => False) := by
  refine rdStart (lv := [(0, .int 8), (1, .int 0), (2, .int 10)]) (by decide) (Nat.le_of_ble_eq_true rfl) rfl ?_
  intro p e s m args below meth c ls S hr hlocks hl hP hK
  have hx := S.1
  have hb := S.2.1
  refine lv_iload_n hx hb dX9_isIn_0 rfl (lv_at hl 0 rfl) ?_
  refine lv_iload_n hx hb dX9_isIn_1 rfl (lv_at hl 1 rfl) ?_
  refine lv_icmp_lt (tgt := 14) hx hb dX9_isIn_2 (by decide) (fun c => absurd c (by decide)) (fun _ => ?_)
  refine lv_iload_n hx hb dX9_isIn_5 rfl (lv_at hl 0 rfl) ?_
  refine lv_iload_n hx hb dX9_isIn_6 rfl (lv_at hl 2 rfl) ?_
  refine lv_icmp_gt (tgt := 14) hx hb dX9_isIn_7 (by decide) (fun c => absurd c (by decide)) (fun _ => ?_)
  refine lv_iconst (v := 1) hx hb dX9_isIn_10 (by decide) ?_
  refine lv_goto (tgt := 15) hx hb dX9_isIn_11 (by decide) ?_
  exact rdEndZ S hr hlocks dX9_isIn_15 rfl rfl

set_option maxHeartbeats 8000000 in
set_option maxRecDepth 100000 in
theorem c_X9_manyNow_9 (l : Launch) (D : va_G) (cI cZ cJ : ClassId) (o : Nat) (q : Nat → Nat) : Met l yX9_manyNow (uW yX9_manyNow cX9_manyNow 4 (some .int)) ({ frames := 0, cells := 0, slots := 0, locals := 0 }) (va_Pc [.ref o, .int 8] (pS D (tyL cI cZ cJ) (mW o 0 q cI cZ))) (QcRead (1000)) 0 0 (fun _ => False) := by
  refine rdStart (lv := [(0, .ref o), (1, .int 8)]) (by decide) (Nat.le_of_ble_eq_true rfl) rfl ?_
  intro p e s m args below meth c ls S hr hlocks hl hP hK
  have hx := S.1
  have hb := S.2.1
  refine lv_iconst (v := 0) hx hb dX9_manyNow_0 (by decide) ?_
  refine lv_istore_n (lv' := [(2, .int 0), (0, .ref o), (1, .int 8)]) hx hb dX9_manyNow_1 rfl hl (by decide) rfl (fun ls hl => ?_)
  refine lv_iload_n hx hb dX9_manyNow_2 rfl (lv_at hl 2 rfl) ?_
  refine lv_tableIn (off := 170) (tgt := 173) hx hb dX9_manyNow_3 (by decide) (by decide) (by decide) (by decide) ?_
  refine lv_aload_n hx hb dX9_manyNow_173 rfl (lv_at hl 1 rfl) ?_
  refine xg (ci := 9) S inX9 rfl hK hP mW_0 21 (by decide) mF_21 kw_6_169 rfl dX9_manyNow_174 ?_
  exact rdEnd S hr hlocks dX9_manyNow_177 rfl

set_option maxHeartbeats 8000000 in
set_option maxRecDepth 100000 in
theorem c_X9_many_10 (l : Launch) (D : va_G) (cI cZ cJ : ClassId) (o : Nat) (q : Nat → Nat) (sz : Nat) : Met l yX9_many (uW yX9_many cX9_many 2 (some .int)) ({ frames := 1, cells := 0, slots := 0, locals := 23 }) (va_Pc [.ref o, .int 8] (wS D (tyL cI cZ cJ) (mW o 0 q cI cZ) sz)) (wQi (1000) D (mW o 0 q cI cZ) (va_A (mW o 0 q cI cZ) sz)) 0 0 (va_A (mW o 0 q cI cZ) sz) := by
  refine wStart (lv := [(0, .ref o), (1, .int 8)]) (Qc := fun A => wQi (1000) D (mW o 0 q cI cZ) A) (by decide) (Nat.le_of_ble_eq_true rfl) rfl ?_
  intro p e s m args below meth c ls A H S hr hlocks hnm hl hK hP hD hS hA
  have hx := S.1
  have hb := S.2.1
  refine lv_aload_n hx hb dX9_many_0 rfl (lv_at hl 0 rfl) ?_
  refine lv_iconst (v := 0) hx hb dX9_many_1 (by decide) ?_
  refine xp (ci := 9) (v := .int 0) S inX9 tyX9 tyX9_ok nmX9 rfl hK hP hD hS mW_0 0 (by decide) kw_6_148 rfl rfl rfl rfl (Nat.le_of_ble_eq_true rfl) dX9_many_2 (fun H locs hP hD hS => ?_)
  have hP : va_P D vwCl (mW o 0 q cI cZ) H := hP
  have hD : va_D A (mW o 0 q cI cZ) := hD
  refine lv_iload_n hx hb dX9_many_5 rfl (lv_at hl 1 rfl) ?_
  refine lv_iconst (v := 0) hx hb dX9_many_6 (by decide) ?_
  refine lv_bipush (v := 10) hx hb dX9_many_7 (by decide) ?_
  refine rdS (As := [.int 8, .int 0, .int 10]) S (c_X9_isIn_91 l D cI cZ cJ o q) ms_X9_isIn kw_7_101 ⟨rfl, rfl⟩ ⟨Nat.le_of_ble_eq_true rfl, Nat.le_of_ble_eq_true rfl⟩ hP hK hl.1 (Nat.le_of_ble_eq_true rfl) ⟨Nat.le_of_ble_eq_true rfl, Nat.le_of_ble_eq_true rfl⟩ dX9_many_9 ?_
  refine lv_if_eq (tgt := 23) hx hb dX9_many_12 (by decide) (fun c => absurd c (by decide)) (fun _ => ?_)
  refine lv_aload_n hx hb dX9_many_15 rfl (lv_at hl 0 rfl) ?_
  refine lv_iload_n hx hb dX9_many_16 rfl (lv_at hl 1 rfl) ?_
  refine rdV (As := [.int 8]) (ci := 9) S (c_X9_manyNow_9 l D cI cZ cJ o q) mi_X9_manyNow kw_9_28 ⟨rfl, rfl⟩ ⟨Nat.le_of_ble_eq_true rfl, Nat.le_of_ble_eq_true rfl⟩ hP hK mW_0 rfl rfl hl.1 (Nat.le_of_ble_eq_true rfl) ⟨Nat.le_of_ble_eq_true rfl, Nat.le_of_ble_eq_true rfl⟩ dX9_many_17 ?_
  refine lv_goto (tgt := 28) hx hb dX9_many_20 (by decide) ?_
  exact wEnd S hr hlocks hP hD hS (Nat.le_of_ble_eq_true rfl) (Nat.le_of_ble_eq_true rfl) dX9_many_28 rfl

set_option maxHeartbeats 8000000 in
set_option maxRecDepth 100000 in
theorem h_many_11 (l : Launch) (D : va_G) (cI cZ cJ : ClassId) (o : Nat) (u : Nat → Nat) (ao : Nat) (hst : l.stackTraces = false) (ra ga : Nat → Nat) (sz : Nat) (x1 : Int32) (hi_x1 : x1 ≤ (-1)) (ne_x1_0 : ¬ x1 = 0) (ne_x1_1 : ¬ x1 = 1) (ne_x1_2 : ¬ x1 = 2) (ne_x1_3 : ¬ x1 = 3) (ne_x1_4 : ¬ x1 = 4) (ne_x1_5 : ¬ x1 = 5) (ne_x1_6 : ¬ x1 = 6) (ne_x1_7 : ¬ x1 = 7) (ne_x1_8 : ¬ x1 = 8) : vx_Met l yL_many (uWh yL_many cL_many 4 (some .int) [(0, 9, 12, 15)]) ({ frames := 8, cells := 1, slots := 6, locals := 123 }) (va_Pc [.ref o, .int x1, .ref ao] (lS ra ga D (tyL cI cZ cJ) ((xW o u cI cZ cJ) ++ [(ao, .inl (cJ, 1, .inr (.inl (fun _ => 0))))]) sz)) (wQi (1) D ((xW o u cI cZ cJ) ++ [(ao, .inl (cJ, 1, .inr (.inl (fun _ => 0))))]) (va_A ((xW o u cI cZ cJ) ++ [(ao, .inl (cJ, 1, .inr (.inl (fun _ => 0))))]) sz)) (xN (va_A ((xW o u cI cZ cJ) ++ [(ao, .inl (cJ, 1, .inr (.inl (fun _ => 0))))]) sz)) 1 6 (va_A ((xW o u cI cZ cJ) ++ [(ao, .inl (cJ, 1, .inr (.inl (fun _ => 0))))]) sz) := by
  refine hStart (l := l) (y := yL_many) (b := cL_many) (n := 4) (r := (some .int)) (hh := [(0, 9, 12, 15)]) (rm := ({ frames := 8, cells := 1, slots := 6, locals := 123 })) (mc := 1) (ms := 6) (ra := ra) (ga := ga) (D := D) (tys := tyL cI cZ cJ) (ws := ((xW o u cI cZ cJ) ++ [(ao, .inl (cJ, 1, .inr (.inl (fun _ => 0))))])) (av := [.ref o, .int x1, .ref ao]) (sz := sz) (lv := [(0, .ref o), (1, .int x1), (2, .ref ao)]) (Qc := fun A => wQi (1) D ((xW o u cI cZ cJ) ++ [(ao, .inl (cJ, 1, .inr (.inl (fun _ => 0))))]) A) (by decide) (Nat.le_of_ble_eq_true rfl) rfl ?_
  intro p e s m args below meth c ls A H S hr hlocks htab hl hK hP hD hS hA hB hC
  have hx := S.1
  have hb := S.2.1
  refine lv_aload_n hx hb dL_many_0 rfl (lv_at hl 2 rfl) ?_
  refine lv_iconst (v := 0) hx hb dL_many_1 (by decide) ?_
  refine lv_aload_n hx hb dL_many_2 rfl (lv_at hl 0 rfl) ?_
  refine lv_iload_n hx hb dL_many_3 rfl (lv_at hl 1 rfl) ?_
  refine cVi [] [(ao, .inl (cJ, 1, .inr (.inl (fun _ => 0))))] (As := [.int x1]) (ci := 8) S (c_X8_many_11 l D cI cZ cJ o u hst ra ga H.size x1 hi_x1 ne_x1_0 ne_x1_1 ne_x1_2 ne_x1_3 ne_x1_4 ne_x1_5 ne_x1_6 ne_x1_7 ne_x1_8) mi_X8_many kw_6_123 rfl rfl ⟨Nat.le_of_ble_eq_true rfl, Nat.le_of_ble_eq_true rfl⟩ hP hD hK hS hA hB xW_0 rfl rfl hl.1 (Nat.le_of_ble_eq_true rfl) ⟨Nat.le_of_ble_eq_true rfl, Nat.le_of_ble_eq_true rfl⟩ dL_many_4 (fun ce q9 H locs hz hP hD hS hce hcv hcl => ?_)
  refine vx_catch (name := "java/lang/IllegalArgumentException") S.2.2.2.1 [] (⟨0, 9, 12, 15⟩ : ExceptionTableEntry) [] (htab.trans rfl) (fun _ h => absurd h List.not_mem_nil) (by decide) (by decide) (S.2.2.2.2 _ kw_5_177) (va_Nw.use rfl hB.c1) hce hcv hcl ?_
  have hP : va_P D vwCl ((xW o u cI cZ cJ) ++ [(ao, .inl (cJ, 1, .inr (.inl (fun _ => 0))))]) H := hP
  have hD : va_D A ((xW o u cI cZ cJ) ++ [(ao, .inl (cJ, 1, .inr (.inl (fun _ => 0))))]) := hD
  refine lv_astore_n (lv' := [(3, .ref q9), (0, .ref o), (1, .int x1), (2, .ref ao)]) hx hb dL_many_12 rfl hl (by decide) rfl (fun ls hl => ?_)
  refine lv_iconst (v := 1) hx hb dL_many_13 (by decide) ?_
  exact vx_ret (wEnd S hr hlocks hP hD hS (Nat.le_of_ble_eq_true rfl) (Nat.le_of_ble_eq_true rfl) dL_many_14 rfl)

set_option maxHeartbeats 8000000 in
set_option maxRecDepth 100000 in
theorem c_X9_isIn_92 (l : Launch) (D : va_G) (cI cZ cJ : ClassId) (o : Nat) (q : Nat → Nat) (x1 : Int32) (hi_x1 : x1 ≤ (-1)) (ne_x1_0 : ¬ x1 = 0) (ne_x1_1 : ¬ x1 = 1) (ne_x1_2 : ¬ x1 = 2) (ne_x1_3 : ¬ x1 = 3) (ne_x1_4 : ¬ x1 = 4) (ne_x1_5 : ¬ x1 = 5) (ne_x1_6 : ¬ x1 = 6) (ne_x1_7 : ¬ x1 = 7) (ne_x1_8 : ¬ x1 = 8) : Met l yX9_isIn (uW yX9_isIn cX9_isIn 3 (some .boolean)) ({ frames := 0, cells := 0, slots := 0, locals := 0 }) (va_Pc [.int x1, .int 0, .int 10] (pS D (tyL cI cZ cJ) (mW o 0 q cI cZ))) (QcRead (0)) 0 0 (fun _ => False) := by
  refine rdStart (lv := [(0, .int x1), (1, .int 0), (2, .int 10)]) (by decide) (Nat.le_of_ble_eq_true rfl) rfl ?_
  intro p e s m args below meth c ls S hr hlocks hl hP hK
  have hx := S.1
  have hb := S.2.1
  refine lv_iload_n hx hb dX9_isIn_0 rfl (lv_at hl 0 rfl) ?_
  refine lv_iload_n hx hb dX9_isIn_1 rfl (lv_at hl 1 rfl) ?_
  refine lv_icmp_lt (tgt := 14) hx hb dX9_isIn_2 (by decide) (fun _ => ?_) (fun c => absurd (b_lt hi_x1 (by decide)) c)
  refine lv_iconst (v := 0) hx hb dX9_isIn_14 (by decide) ?_
  exact rdEndZ S hr hlocks dX9_isIn_15 rfl rfl

set_option maxHeartbeats 8000000 in
set_option maxRecDepth 100000 in
theorem c_X9_many_11 (l : Launch) (D : va_G) (cI cZ cJ : ClassId) (o : Nat) (q : Nat → Nat) (sz : Nat) (x1 : Int32) (hi_x1 : x1 ≤ (-1)) (ne_x1_0 : ¬ x1 = 0) (ne_x1_1 : ¬ x1 = 1) (ne_x1_2 : ¬ x1 = 2) (ne_x1_3 : ¬ x1 = 3) (ne_x1_4 : ¬ x1 = 4) (ne_x1_5 : ¬ x1 = 5) (ne_x1_6 : ¬ x1 = 6) (ne_x1_7 : ¬ x1 = 7) (ne_x1_8 : ¬ x1 = 8) : Met l yX9_many (uW yX9_many cX9_many 2 (some .int)) ({ frames := 1, cells := 0, slots := 0, locals := 22 }) (va_Pc [.ref o, .int x1] (wS D (tyL cI cZ cJ) (mW o 0 q cI cZ) sz)) (wQi (0) D (mW o 1 q cI cZ) (va_A (mW o 0 q cI cZ) sz)) 0 0 (va_A (mW o 0 q cI cZ) sz) := by
  refine wStart (lv := [(0, .ref o), (1, .int x1)]) (Qc := fun A => wQi (0) D (mW o 1 q cI cZ) A) (by decide) (Nat.le_of_ble_eq_true rfl) rfl ?_
  intro p e s m args below meth c ls A H S hr hlocks hnm hl hK hP hD hS hA
  have hx := S.1
  have hb := S.2.1
  refine lv_aload_n hx hb dX9_many_0 rfl (lv_at hl 0 rfl) ?_
  refine lv_iconst (v := 0) hx hb dX9_many_1 (by decide) ?_
  refine xp (ci := 9) (v := .int 0) S inX9 tyX9 tyX9_ok nmX9 rfl hK hP hD hS mW_0 0 (by decide) kw_6_148 rfl rfl rfl rfl (Nat.le_of_ble_eq_true rfl) dX9_many_2 (fun H locs hP hD hS => ?_)
  have hP : va_P D vwCl (mW o 0 q cI cZ) H := hP
  have hD : va_D A (mW o 0 q cI cZ) := hD
  refine lv_iload_n hx hb dX9_many_5 rfl (lv_at hl 1 rfl) ?_
  refine lv_iconst (v := 0) hx hb dX9_many_6 (by decide) ?_
  refine lv_bipush (v := 10) hx hb dX9_many_7 (by decide) ?_
  refine rdS (As := [.int x1, .int 0, .int 10]) S (c_X9_isIn_92 l D cI cZ cJ o q x1 hi_x1 ne_x1_0 ne_x1_1 ne_x1_2 ne_x1_3 ne_x1_4 ne_x1_5 ne_x1_6 ne_x1_7 ne_x1_8) ms_X9_isIn kw_7_101 ⟨rfl, rfl⟩ ⟨Nat.le_of_ble_eq_true rfl, Nat.le_of_ble_eq_true rfl⟩ hP hK hl.1 (Nat.le_of_ble_eq_true rfl) ⟨Nat.le_of_ble_eq_true rfl, Nat.le_of_ble_eq_true rfl⟩ dX9_many_9 ?_
  refine lv_if_eq (tgt := 23) hx hb dX9_many_12 (by decide) (fun _ => ?_) (fun c => absurd c (by decide))
  refine lv_aload_n hx hb dX9_many_23 rfl (lv_at hl 0 rfl) ?_
  refine lv_iconst (v := 1) hx hb dX9_many_24 (by decide) ?_
  refine wrV (As := [.int 1]) (ci := 9) S (c_X9_no_0 l D cI cZ cJ o q H.size) mi_X9_no kw_7_104 rfl rfl ⟨Nat.le_of_ble_eq_true rfl, Nat.le_of_ble_eq_true rfl⟩ hP hD hK hS hA mW_0 rfl rfl hl.1 (Nat.le_of_ble_eq_true rfl) ⟨Nat.le_of_ble_eq_true rfl, Nat.le_of_ble_eq_true rfl⟩ dX9_many_25 (fun H locs hz hP hD hS => ?_)
  exact wEnd S hr hlocks hP hD hS (Nat.le_of_ble_eq_true rfl) (Nat.le_of_ble_eq_true rfl) dX9_many_28 rfl

set_option maxHeartbeats 8000000 in
set_option maxRecDepth 100000 in
theorem h_many_12 (l : Launch) (D : va_G) (cI cZ cJ : ClassId) (o : Nat) (u : Nat → Nat) (ao : Nat) (hst : l.stackTraces = false) (ra ga : Nat → Nat) (sz : Nat) : vx_Met l yL_many (uWh yL_many cL_many 4 (some .int) [(0, 9, 12, 15)]) ({ frames := 5, cells := 0, slots := 0, locals := 106 }) (va_Pc [.ref o, .int 9, .ref ao] (lS ra ga D (tyL cI cZ cJ) ((xW o u cI cZ cJ) ++ [(ao, .inl (cJ, 1, .inr (.inl (fun _ => 0))))]) sz)) (wQi (0) D ((((((((xW o u cI cZ cJ).set 0 (o, .inr (8, ((xF u).set 9 (.int 0))))).set 32 ((u 31), .inl (cZ, 10, .inl (upd (upd (upd (upd (upd (upd (upd (upd (upd (upd (fun _ => 0) (0 : Int32).toNatClampNeg 0) (1 : Int32).toNatClampNeg 0) (2 : Int32).toNatClampNeg 0) (3 : Int32).toNatClampNeg 0) (4 : Int32).toNatClampNeg 0) (5 : Int32).toNatClampNeg 0) (6 : Int32).toNatClampNeg 0) (7 : Int32).toNatClampNeg 0) (8 : Int32).toNatClampNeg 0) (9 : Int32).toNatClampNeg 0)))).set 34 ((u 33), .inr (2, ([.ref (u 0), .ref (u 12), .ref (u 19), .int 0, .ref (u 34), .ref (u 35), .ref (u 36), .ref (u 37), .int 0].set 3 (.int 1))))).set 35 ((u 34), .inl (cI, 120, .inl (upd (fun _ => 0) (0 : Int32).toNatClampNeg 10)))).set 36 ((u 35), .inl (cI, 120, .inl (upd (fun _ => 0) (0 : Int32).toNatClampNeg 0)))).set 37 ((u 36), .inl (cI, 120, .inl (upd (fun _ => 0) (0 : Int32).toNatClampNeg (-1))))) ++ [(ao, .inl (cJ, 1, .inr (.inl (vp_updL (fun _ => 0) (0 : Int32).toNatClampNeg 20))))]) (va_A ((xW o u cI cZ cJ) ++ [(ao, .inl (cJ, 1, .inr (.inl (fun _ => 0))))]) sz)) (xN (va_A ((xW o u cI cZ cJ) ++ [(ao, .inl (cJ, 1, .inr (.inl (fun _ => 0))))]) sz)) 0 0 (va_A ((xW o u cI cZ cJ) ++ [(ao, .inl (cJ, 1, .inr (.inl (fun _ => 0))))]) sz) := by
  refine hStart (l := l) (y := yL_many) (b := cL_many) (n := 4) (r := (some .int)) (hh := [(0, 9, 12, 15)]) (rm := ({ frames := 5, cells := 0, slots := 0, locals := 106 })) (mc := 0) (ms := 0) (ra := ra) (ga := ga) (D := D) (tys := tyL cI cZ cJ) (ws := ((xW o u cI cZ cJ) ++ [(ao, .inl (cJ, 1, .inr (.inl (fun _ => 0))))])) (av := [.ref o, .int 9, .ref ao]) (sz := sz) (lv := [(0, .ref o), (1, .int 9), (2, .ref ao)]) (Qc := fun A => wQi (0) D ((((((((xW o u cI cZ cJ).set 0 (o, .inr (8, ((xF u).set 9 (.int 0))))).set 32 ((u 31), .inl (cZ, 10, .inl (upd (upd (upd (upd (upd (upd (upd (upd (upd (upd (fun _ => 0) (0 : Int32).toNatClampNeg 0) (1 : Int32).toNatClampNeg 0) (2 : Int32).toNatClampNeg 0) (3 : Int32).toNatClampNeg 0) (4 : Int32).toNatClampNeg 0) (5 : Int32).toNatClampNeg 0) (6 : Int32).toNatClampNeg 0) (7 : Int32).toNatClampNeg 0) (8 : Int32).toNatClampNeg 0) (9 : Int32).toNatClampNeg 0)))).set 34 ((u 33), .inr (2, ([.ref (u 0), .ref (u 12), .ref (u 19), .int 0, .ref (u 34), .ref (u 35), .ref (u 36), .ref (u 37), .int 0].set 3 (.int 1))))).set 35 ((u 34), .inl (cI, 120, .inl (upd (fun _ => 0) (0 : Int32).toNatClampNeg 10)))).set 36 ((u 35), .inl (cI, 120, .inl (upd (fun _ => 0) (0 : Int32).toNatClampNeg 0)))).set 37 ((u 36), .inl (cI, 120, .inl (upd (fun _ => 0) (0 : Int32).toNatClampNeg (-1))))) ++ [(ao, .inl (cJ, 1, .inr (.inl (vp_updL (fun _ => 0) (0 : Int32).toNatClampNeg 20))))]) A) (by decide) (Nat.le_of_ble_eq_true rfl) rfl ?_
  intro p e s m args below meth c ls A H S hr hlocks htab hl hK hP hD hS hA hB hC
  have hx := S.1
  have hb := S.2.1
  refine lv_aload_n hx hb dL_many_0 rfl (lv_at hl 2 rfl) ?_
  refine lv_iconst (v := 0) hx hb dL_many_1 (by decide) ?_
  refine lv_aload_n hx hb dL_many_2 rfl (lv_at hl 0 rfl) ?_
  refine lv_iload_n hx hb dL_many_3 rfl (lv_at hl 1 rfl) ?_
  refine faVi [] [(ao, .inl (cJ, 1, .inr (.inl (fun _ => 0))))] (As := [.int 9]) (ci := 8) S (c_X8_many_12 l D cI cZ cJ o u ra ga H.size) mi_X8_many kw_6_123 rfl rfl ⟨Nat.le_of_ble_eq_true rfl, Nat.le_of_ble_eq_true rfl⟩ hP hD hK hS hA hB xW_0 rfl rfl hl.1 (Nat.le_of_ble_eq_true rfl) ⟨Nat.le_of_ble_eq_true rfl, Nat.le_of_ble_eq_true rfl⟩ dL_many_4 (fun H locs hz hP hD hS => ?_)
  have hP : va_P D vwCl ((((((((xW o u cI cZ cJ).set 0 (o, .inr (8, ((xF u).set 9 (.int 0))))).set 32 ((u 31), .inl (cZ, 10, .inl (upd (upd (upd (upd (upd (upd (upd (upd (upd (upd (fun _ => 0) (0 : Int32).toNatClampNeg 0) (1 : Int32).toNatClampNeg 0) (2 : Int32).toNatClampNeg 0) (3 : Int32).toNatClampNeg 0) (4 : Int32).toNatClampNeg 0) (5 : Int32).toNatClampNeg 0) (6 : Int32).toNatClampNeg 0) (7 : Int32).toNatClampNeg 0) (8 : Int32).toNatClampNeg 0) (9 : Int32).toNatClampNeg 0)))).set 34 ((u 33), .inr (2, ([.ref (u 0), .ref (u 12), .ref (u 19), .int 0, .ref (u 34), .ref (u 35), .ref (u 36), .ref (u 37), .int 0].set 3 (.int 1))))).set 35 ((u 34), .inl (cI, 120, .inl (upd (fun _ => 0) (0 : Int32).toNatClampNeg 10)))).set 36 ((u 35), .inl (cI, 120, .inl (upd (fun _ => 0) (0 : Int32).toNatClampNeg 0)))).set 37 ((u 36), .inl (cI, 120, .inl (upd (fun _ => 0) (0 : Int32).toNatClampNeg (-1))))) ++ [(ao, .inl (cJ, 1, .inr (.inl (fun _ => 0))))]) H := hP
  have hD : va_D A ((((((((xW o u cI cZ cJ).set 0 (o, .inr (8, ((xF u).set 9 (.int 0))))).set 32 ((u 31), .inl (cZ, 10, .inl (upd (upd (upd (upd (upd (upd (upd (upd (upd (upd (fun _ => 0) (0 : Int32).toNatClampNeg 0) (1 : Int32).toNatClampNeg 0) (2 : Int32).toNatClampNeg 0) (3 : Int32).toNatClampNeg 0) (4 : Int32).toNatClampNeg 0) (5 : Int32).toNatClampNeg 0) (6 : Int32).toNatClampNeg 0) (7 : Int32).toNatClampNeg 0) (8 : Int32).toNatClampNeg 0) (9 : Int32).toNatClampNeg 0)))).set 34 ((u 33), .inr (2, ([.ref (u 0), .ref (u 12), .ref (u 19), .int 0, .ref (u 34), .ref (u 35), .ref (u 36), .ref (u 37), .int 0].set 3 (.int 1))))).set 35 ((u 34), .inl (cI, 120, .inl (upd (fun _ => 0) (0 : Int32).toNatClampNeg 10)))).set 36 ((u 35), .inl (cI, 120, .inl (upd (fun _ => 0) (0 : Int32).toNatClampNeg 0)))).set 37 ((u 36), .inl (cI, 120, .inl (upd (fun _ => 0) (0 : Int32).toNatClampNeg (-1))))) ++ [(ao, .inl (cJ, 1, .inr (.inl (fun _ => 0))))]) := hD
  refine lv_i2l (v := 20) hx hb dL_many_7 (by decide) ?_
  refine xlast (t0 := 2) S hK hP hD hS (q0 := 88) rfl rfl (vin rfl) dL_many_8 (fun H locs hP hD hS => ?_)
  have hP : va_P D vwCl ((((((((xW o u cI cZ cJ).set 0 (o, .inr (8, ((xF u).set 9 (.int 0))))).set 32 ((u 31), .inl (cZ, 10, .inl (upd (upd (upd (upd (upd (upd (upd (upd (upd (upd (fun _ => 0) (0 : Int32).toNatClampNeg 0) (1 : Int32).toNatClampNeg 0) (2 : Int32).toNatClampNeg 0) (3 : Int32).toNatClampNeg 0) (4 : Int32).toNatClampNeg 0) (5 : Int32).toNatClampNeg 0) (6 : Int32).toNatClampNeg 0) (7 : Int32).toNatClampNeg 0) (8 : Int32).toNatClampNeg 0) (9 : Int32).toNatClampNeg 0)))).set 34 ((u 33), .inr (2, ([.ref (u 0), .ref (u 12), .ref (u 19), .int 0, .ref (u 34), .ref (u 35), .ref (u 36), .ref (u 37), .int 0].set 3 (.int 1))))).set 35 ((u 34), .inl (cI, 120, .inl (upd (fun _ => 0) (0 : Int32).toNatClampNeg 10)))).set 36 ((u 35), .inl (cI, 120, .inl (upd (fun _ => 0) (0 : Int32).toNatClampNeg 0)))).set 37 ((u 36), .inl (cI, 120, .inl (upd (fun _ => 0) (0 : Int32).toNatClampNeg (-1))))) ++ [(ao, .inl (cJ, 1, .inr (.inl (vp_updL (fun _ => 0) (0 : Int32).toNatClampNeg 20))))]) H := hP
  have hD : va_D A ((((((((xW o u cI cZ cJ).set 0 (o, .inr (8, ((xF u).set 9 (.int 0))))).set 32 ((u 31), .inl (cZ, 10, .inl (upd (upd (upd (upd (upd (upd (upd (upd (upd (upd (fun _ => 0) (0 : Int32).toNatClampNeg 0) (1 : Int32).toNatClampNeg 0) (2 : Int32).toNatClampNeg 0) (3 : Int32).toNatClampNeg 0) (4 : Int32).toNatClampNeg 0) (5 : Int32).toNatClampNeg 0) (6 : Int32).toNatClampNeg 0) (7 : Int32).toNatClampNeg 0) (8 : Int32).toNatClampNeg 0) (9 : Int32).toNatClampNeg 0)))).set 34 ((u 33), .inr (2, ([.ref (u 0), .ref (u 12), .ref (u 19), .int 0, .ref (u 34), .ref (u 35), .ref (u 36), .ref (u 37), .int 0].set 3 (.int 1))))).set 35 ((u 34), .inl (cI, 120, .inl (upd (fun _ => 0) (0 : Int32).toNatClampNeg 10)))).set 36 ((u 35), .inl (cI, 120, .inl (upd (fun _ => 0) (0 : Int32).toNatClampNeg 0)))).set 37 ((u 36), .inl (cI, 120, .inl (upd (fun _ => 0) (0 : Int32).toNatClampNeg (-1))))) ++ [(ao, .inl (cJ, 1, .inr (.inl (vp_updL (fun _ => 0) (0 : Int32).toNatClampNeg 20))))]) := hD
  refine lv_goto (tgt := 15) hx hb dL_many_9 (by decide) ?_
  refine lv_iconst (v := 0) hx hb dL_many_15 (by decide) ?_
  exact vx_ret (wEnd S hr hlocks hP hD hS (Nat.le_of_ble_eq_true rfl) (Nat.le_of_ble_eq_true rfl) dL_many_16 rfl)

set_option maxHeartbeats 8000000 in
set_option maxRecDepth 100000 in
theorem c_X9_isIn_93 (l : Launch) (D : va_G) (cI cZ cJ : ClassId) (o : Nat) (q : Nat → Nat) : Met l yX9_isIn (uW yX9_isIn cX9_isIn 3 (some .boolean)) ({ frames := 0, cells := 0, slots := 0, locals := 0 }) (va_Pc [.int 9, .int 0, .int 10] (pS D (tyL cI cZ cJ) (mW o 0 q cI cZ))) (QcRead (1)) 0 0 (fun _ => False) := by
  refine rdStart (lv := [(0, .int 9), (1, .int 0), (2, .int 10)]) (by decide) (Nat.le_of_ble_eq_true rfl) rfl ?_
  intro p e s m args below meth c ls S hr hlocks hl hP hK
  have hx := S.1
  have hb := S.2.1
  refine lv_iload_n hx hb dX9_isIn_0 rfl (lv_at hl 0 rfl) ?_
  refine lv_iload_n hx hb dX9_isIn_1 rfl (lv_at hl 1 rfl) ?_
  refine lv_icmp_lt (tgt := 14) hx hb dX9_isIn_2 (by decide) (fun c => absurd c (by decide)) (fun _ => ?_)
  refine lv_iload_n hx hb dX9_isIn_5 rfl (lv_at hl 0 rfl) ?_
  refine lv_iload_n hx hb dX9_isIn_6 rfl (lv_at hl 2 rfl) ?_
  refine lv_icmp_gt (tgt := 14) hx hb dX9_isIn_7 (by decide) (fun c => absurd c (by decide)) (fun _ => ?_)
  refine lv_iconst (v := 1) hx hb dX9_isIn_10 (by decide) ?_
  refine lv_goto (tgt := 15) hx hb dX9_isIn_11 (by decide) ?_
  exact rdEndZ S hr hlocks dX9_isIn_15 rfl rfl

set_option maxHeartbeats 8000000 in
set_option maxRecDepth 100000 in
theorem c_X9_manyNow_10 (l : Launch) (D : va_G) (cI cZ cJ : ClassId) (o : Nat) (q : Nat → Nat) : Met l yX9_manyNow (uW yX9_manyNow cX9_manyNow 4 (some .int)) ({ frames := 0, cells := 0, slots := 0, locals := 0 }) (va_Pc [.ref o, .int 9] (pS D (tyL cI cZ cJ) (mW o 0 q cI cZ))) (QcRead (20)) 0 0 (fun _ => False) := by
  refine rdStart (lv := [(0, .ref o), (1, .int 9)]) (by decide) (Nat.le_of_ble_eq_true rfl) rfl ?_
  intro p e s m args below meth c ls S hr hlocks hl hP hK
  have hx := S.1
  have hb := S.2.1
  refine lv_iconst (v := 0) hx hb dX9_manyNow_0 (by decide) ?_
  refine lv_istore_n (lv' := [(2, .int 0), (0, .ref o), (1, .int 9)]) hx hb dX9_manyNow_1 rfl hl (by decide) rfl (fun ls hl => ?_)
  refine lv_iload_n hx hb dX9_manyNow_2 rfl (lv_at hl 2 rfl) ?_
  refine lv_tableIn (off := 175) (tgt := 178) hx hb dX9_manyNow_3 (by decide) (by decide) (by decide) (by decide) ?_
  refine lv_aload_n hx hb dX9_manyNow_178 rfl (lv_at hl 1 rfl) ?_
  refine xg (ci := 9) S inX9 rfl hK hP mW_0 22 (by decide) mF_22 kw_6_170 rfl dX9_manyNow_179 ?_
  exact rdEnd S hr hlocks dX9_manyNow_182 rfl

set_option maxHeartbeats 8000000 in
set_option maxRecDepth 100000 in
theorem c_X9_many_12 (l : Launch) (D : va_G) (cI cZ cJ : ClassId) (o : Nat) (q : Nat → Nat) (sz : Nat) : Met l yX9_many (uW yX9_many cX9_many 2 (some .int)) ({ frames := 1, cells := 0, slots := 0, locals := 23 }) (va_Pc [.ref o, .int 9] (wS D (tyL cI cZ cJ) (mW o 0 q cI cZ) sz)) (wQi (20) D (mW o 0 q cI cZ) (va_A (mW o 0 q cI cZ) sz)) 0 0 (va_A (mW o 0 q cI cZ) sz) := by
  refine wStart (lv := [(0, .ref o), (1, .int 9)]) (Qc := fun A => wQi (20) D (mW o 0 q cI cZ) A) (by decide) (Nat.le_of_ble_eq_true rfl) rfl ?_
  intro p e s m args below meth c ls A H S hr hlocks hnm hl hK hP hD hS hA
  have hx := S.1
  have hb := S.2.1
  refine lv_aload_n hx hb dX9_many_0 rfl (lv_at hl 0 rfl) ?_
  refine lv_iconst (v := 0) hx hb dX9_many_1 (by decide) ?_
  refine xp (ci := 9) (v := .int 0) S inX9 tyX9 tyX9_ok nmX9 rfl hK hP hD hS mW_0 0 (by decide) kw_6_148 rfl rfl rfl rfl (Nat.le_of_ble_eq_true rfl) dX9_many_2 (fun H locs hP hD hS => ?_)
  have hP : va_P D vwCl (mW o 0 q cI cZ) H := hP
  have hD : va_D A (mW o 0 q cI cZ) := hD
  refine lv_iload_n hx hb dX9_many_5 rfl (lv_at hl 1 rfl) ?_
  refine lv_iconst (v := 0) hx hb dX9_many_6 (by decide) ?_
  refine lv_bipush (v := 10) hx hb dX9_many_7 (by decide) ?_
  refine rdS (As := [.int 9, .int 0, .int 10]) S (c_X9_isIn_93 l D cI cZ cJ o q) ms_X9_isIn kw_7_101 ⟨rfl, rfl⟩ ⟨Nat.le_of_ble_eq_true rfl, Nat.le_of_ble_eq_true rfl⟩ hP hK hl.1 (Nat.le_of_ble_eq_true rfl) ⟨Nat.le_of_ble_eq_true rfl, Nat.le_of_ble_eq_true rfl⟩ dX9_many_9 ?_
  refine lv_if_eq (tgt := 23) hx hb dX9_many_12 (by decide) (fun c => absurd c (by decide)) (fun _ => ?_)
  refine lv_aload_n hx hb dX9_many_15 rfl (lv_at hl 0 rfl) ?_
  refine lv_iload_n hx hb dX9_many_16 rfl (lv_at hl 1 rfl) ?_
  refine rdV (As := [.int 9]) (ci := 9) S (c_X9_manyNow_10 l D cI cZ cJ o q) mi_X9_manyNow kw_9_28 ⟨rfl, rfl⟩ ⟨Nat.le_of_ble_eq_true rfl, Nat.le_of_ble_eq_true rfl⟩ hP hK mW_0 rfl rfl hl.1 (Nat.le_of_ble_eq_true rfl) ⟨Nat.le_of_ble_eq_true rfl, Nat.le_of_ble_eq_true rfl⟩ dX9_many_17 ?_
  refine lv_goto (tgt := 28) hx hb dX9_many_20 (by decide) ?_
  exact wEnd S hr hlocks hP hD hS (Nat.le_of_ble_eq_true rfl) (Nat.le_of_ble_eq_true rfl) dX9_many_28 rfl

set_option maxHeartbeats 8000000 in
set_option maxRecDepth 100000 in
theorem c_X8_wouldRun_0 (l : Launch) (D : va_G) (cI cZ cJ : ClassId) (o : Nat) (u : Nat → Nat) (hst : l.stackTraces = false) (ra ga : Nat → Nat) (sz : Nat) (x1 : Int32) (x2 : Int32) (x3 : Int32) (hi_x1 : x1 ≤ 0) : vx_Met l yX8_wouldRun (uW yX8_wouldRun cX8_wouldRun 4 (some .int)) ({ frames := 7, cells := 1, slots := 6, locals := 102 }) (va_Pc [.ref o, .int x1, .int x2, .int x3] (aS ra ga D (tyL cI cZ cJ) (xW o u cI cZ cJ) sz)) (nQi (va_A (xW o u cI cZ cJ) sz)) (wX "java/lang/IllegalArgumentException" D (xW o u cI cZ cJ) (va_A (xW o u cI cZ cJ) sz)) 1 6 (va_A (xW o u cI cZ cJ) sz) := by
  refine xStart (lv := [(0, .ref o), (1, .int x1), (2, .int x2), (3, .int x3)]) (Qc := fun A => nQi A) (XC := fun A => wX "java/lang/IllegalArgumentException" D (xW o u cI cZ cJ) A) (by decide) (Nat.le_of_ble_eq_true rfl) rfl ?_
  intro p e s m args below meth c ls A H S hr hlocks hnm hl hK hP hD hS hA hB hnt
  have hx := S.1
  have hb := S.2.1
  refine lv_iload_n hx hb dX8_wouldRun_0 rfl (lv_at hl 1 rfl) ?_
  refine lv_iload_n hx hb dX8_wouldRun_1 rfl (lv_at hl 2 rfl) ?_
  refine rdS (As := [.int x1, .int x2]) S (c_X8_areLimits_0 l D cI cZ cJ o u x1 x2 hi_x1) ms_X8_areLimits kw_6_102 ⟨rfl, rfl⟩ ⟨Nat.le_of_ble_eq_true rfl, Nat.le_of_ble_eq_true rfl⟩ hP hK hl.1 (Nat.le_of_ble_eq_true rfl) ⟨Nat.le_of_ble_eq_true rfl, Nat.le_of_ble_eq_true rfl⟩ dX8_wouldRun_2 ?_
  refine lv_if_eq (tgt := 22) hx hb dX8_wouldRun_5 (by decide) (fun _ => ?_) (fun c => absurd c (by decide))
  refine lv_iconst (v := 0) hx hb dX8_wouldRun_22 (by decide) ?_
  exact tSv (As := [.int 0]) S (c_X8_needArgument_0 l D cI cZ cJ o u hst ra ga H.size) ms_X8_needArgument kw_4_4 rfl rfl ⟨Nat.le_of_ble_eq_true rfl, Nat.le_of_ble_eq_true rfl⟩ hP hD hK hS hA hB hl.1 (Nat.le_of_ble_eq_true rfl) ⟨Nat.le_of_ble_eq_true rfl, Nat.le_of_ble_eq_true rfl⟩ dX8_wouldRun_23 hnt hlocks (Nat.le_of_ble_eq_true rfl) (Nat.le_of_ble_eq_true rfl)

set_option maxHeartbeats 8000000 in
set_option maxRecDepth 100000 in
theorem c_X8_wouldRun_1 (l : Launch) (D : va_G) (cI cZ cJ : ClassId) (o : Nat) (u : Nat → Nat) (hst : l.stackTraces = false) (ra ga : Nat → Nat) (sz : Nat) (x1 : Int32) (x2 : Int32) (x3 : Int32) (lo_x1 : 3001 ≤ x1) : vx_Met l yX8_wouldRun (uW yX8_wouldRun cX8_wouldRun 4 (some .int)) ({ frames := 7, cells := 1, slots := 6, locals := 102 }) (va_Pc [.ref o, .int x1, .int x2, .int x3] (aS ra ga D (tyL cI cZ cJ) (xW o u cI cZ cJ) sz)) (nQi (va_A (xW o u cI cZ cJ) sz)) (wX "java/lang/IllegalArgumentException" D (xW o u cI cZ cJ) (va_A (xW o u cI cZ cJ) sz)) 1 6 (va_A (xW o u cI cZ cJ) sz) := by
  refine xStart (lv := [(0, .ref o), (1, .int x1), (2, .int x2), (3, .int x3)]) (Qc := fun A => nQi A) (XC := fun A => wX "java/lang/IllegalArgumentException" D (xW o u cI cZ cJ) A) (by decide) (Nat.le_of_ble_eq_true rfl) rfl ?_
  intro p e s m args below meth c ls A H S hr hlocks hnm hl hK hP hD hS hA hB hnt
  have hx := S.1
  have hb := S.2.1
  refine lv_iload_n hx hb dX8_wouldRun_0 rfl (lv_at hl 1 rfl) ?_
  refine lv_iload_n hx hb dX8_wouldRun_1 rfl (lv_at hl 2 rfl) ?_
  refine rdS (As := [.int x1, .int x2]) S (c_X8_areLimits_1 l D cI cZ cJ o u x1 x2 lo_x1) ms_X8_areLimits kw_6_102 ⟨rfl, rfl⟩ ⟨Nat.le_of_ble_eq_true rfl, Nat.le_of_ble_eq_true rfl⟩ hP hK hl.1 (Nat.le_of_ble_eq_true rfl) ⟨Nat.le_of_ble_eq_true rfl, Nat.le_of_ble_eq_true rfl⟩ dX8_wouldRun_2 ?_
  refine lv_if_eq (tgt := 22) hx hb dX8_wouldRun_5 (by decide) (fun _ => ?_) (fun c => absurd c (by decide))
  refine lv_iconst (v := 0) hx hb dX8_wouldRun_22 (by decide) ?_
  exact tSv (As := [.int 0]) S (c_X8_needArgument_0 l D cI cZ cJ o u hst ra ga H.size) ms_X8_needArgument kw_4_4 rfl rfl ⟨Nat.le_of_ble_eq_true rfl, Nat.le_of_ble_eq_true rfl⟩ hP hD hK hS hA hB hl.1 (Nat.le_of_ble_eq_true rfl) ⟨Nat.le_of_ble_eq_true rfl, Nat.le_of_ble_eq_true rfl⟩ dX8_wouldRun_23 hnt hlocks (Nat.le_of_ble_eq_true rfl) (Nat.le_of_ble_eq_true rfl)

set_option maxHeartbeats 8000000 in
set_option maxRecDepth 100000 in
theorem c_X8_wouldRun_2 (l : Launch) (D : va_G) (cI cZ cJ : ClassId) (o : Nat) (u : Nat → Nat) (hst : l.stackTraces = false) (ra ga : Nat → Nat) (sz : Nat) (x1 : Int32) (x2 : Int32) (x3 : Int32) (lo_x1 : 1 ≤ x1) (hi_x1 : x1 ≤ 3000) (hi_x2 : x2 ≤ 0) : vx_Met l yX8_wouldRun (uW yX8_wouldRun cX8_wouldRun 4 (some .int)) ({ frames := 7, cells := 1, slots := 6, locals := 102 }) (va_Pc [.ref o, .int x1, .int x2, .int x3] (aS ra ga D (tyL cI cZ cJ) (xW o u cI cZ cJ) sz)) (nQi (va_A (xW o u cI cZ cJ) sz)) (wX "java/lang/IllegalArgumentException" D (xW o u cI cZ cJ) (va_A (xW o u cI cZ cJ) sz)) 1 6 (va_A (xW o u cI cZ cJ) sz) := by
  refine xStart (lv := [(0, .ref o), (1, .int x1), (2, .int x2), (3, .int x3)]) (Qc := fun A => nQi A) (XC := fun A => wX "java/lang/IllegalArgumentException" D (xW o u cI cZ cJ) A) (by decide) (Nat.le_of_ble_eq_true rfl) rfl ?_
  intro p e s m args below meth c ls A H S hr hlocks hnm hl hK hP hD hS hA hB hnt
  have hx := S.1
  have hb := S.2.1
  refine lv_iload_n hx hb dX8_wouldRun_0 rfl (lv_at hl 1 rfl) ?_
  refine lv_iload_n hx hb dX8_wouldRun_1 rfl (lv_at hl 2 rfl) ?_
  refine rdS (As := [.int x1, .int x2]) S (c_X8_areLimits_2 l D cI cZ cJ o u x1 x2 lo_x1 hi_x1 hi_x2) ms_X8_areLimits kw_6_102 ⟨rfl, rfl⟩ ⟨Nat.le_of_ble_eq_true rfl, Nat.le_of_ble_eq_true rfl⟩ hP hK hl.1 (Nat.le_of_ble_eq_true rfl) ⟨Nat.le_of_ble_eq_true rfl, Nat.le_of_ble_eq_true rfl⟩ dX8_wouldRun_2 ?_
  refine lv_if_eq (tgt := 22) hx hb dX8_wouldRun_5 (by decide) (fun _ => ?_) (fun c => absurd c (by decide))
  refine lv_iconst (v := 0) hx hb dX8_wouldRun_22 (by decide) ?_
  exact tSv (As := [.int 0]) S (c_X8_needArgument_0 l D cI cZ cJ o u hst ra ga H.size) ms_X8_needArgument kw_4_4 rfl rfl ⟨Nat.le_of_ble_eq_true rfl, Nat.le_of_ble_eq_true rfl⟩ hP hD hK hS hA hB hl.1 (Nat.le_of_ble_eq_true rfl) ⟨Nat.le_of_ble_eq_true rfl, Nat.le_of_ble_eq_true rfl⟩ dX8_wouldRun_23 hnt hlocks (Nat.le_of_ble_eq_true rfl) (Nat.le_of_ble_eq_true rfl)

set_option maxHeartbeats 8000000 in
set_option maxRecDepth 100000 in
theorem c_X8_wouldRun_3 (l : Launch) (D : va_G) (cI cZ cJ : ClassId) (o : Nat) (u : Nat → Nat) (hst : l.stackTraces = false) (ra ga : Nat → Nat) (sz : Nat) (x1 : Int32) (x2 : Int32) (x3 : Int32) (lo_x1 : 1 ≤ x1) (hi_x1 : x1 ≤ 3000) (lo_x2 : 41 ≤ x2) : vx_Met l yX8_wouldRun (uW yX8_wouldRun cX8_wouldRun 4 (some .int)) ({ frames := 7, cells := 1, slots := 6, locals := 102 }) (va_Pc [.ref o, .int x1, .int x2, .int x3] (aS ra ga D (tyL cI cZ cJ) (xW o u cI cZ cJ) sz)) (nQi (va_A (xW o u cI cZ cJ) sz)) (wX "java/lang/IllegalArgumentException" D (xW o u cI cZ cJ) (va_A (xW o u cI cZ cJ) sz)) 1 6 (va_A (xW o u cI cZ cJ) sz) := by
  refine xStart (lv := [(0, .ref o), (1, .int x1), (2, .int x2), (3, .int x3)]) (Qc := fun A => nQi A) (XC := fun A => wX "java/lang/IllegalArgumentException" D (xW o u cI cZ cJ) A) (by decide) (Nat.le_of_ble_eq_true rfl) rfl ?_
  intro p e s m args below meth c ls A H S hr hlocks hnm hl hK hP hD hS hA hB hnt
  have hx := S.1
  have hb := S.2.1
  refine lv_iload_n hx hb dX8_wouldRun_0 rfl (lv_at hl 1 rfl) ?_
  refine lv_iload_n hx hb dX8_wouldRun_1 rfl (lv_at hl 2 rfl) ?_
  refine rdS (As := [.int x1, .int x2]) S (c_X8_areLimits_3 l D cI cZ cJ o u x1 x2 lo_x1 hi_x1 lo_x2) ms_X8_areLimits kw_6_102 ⟨rfl, rfl⟩ ⟨Nat.le_of_ble_eq_true rfl, Nat.le_of_ble_eq_true rfl⟩ hP hK hl.1 (Nat.le_of_ble_eq_true rfl) ⟨Nat.le_of_ble_eq_true rfl, Nat.le_of_ble_eq_true rfl⟩ dX8_wouldRun_2 ?_
  refine lv_if_eq (tgt := 22) hx hb dX8_wouldRun_5 (by decide) (fun _ => ?_) (fun c => absurd c (by decide))
  refine lv_iconst (v := 0) hx hb dX8_wouldRun_22 (by decide) ?_
  exact tSv (As := [.int 0]) S (c_X8_needArgument_0 l D cI cZ cJ o u hst ra ga H.size) ms_X8_needArgument kw_4_4 rfl rfl ⟨Nat.le_of_ble_eq_true rfl, Nat.le_of_ble_eq_true rfl⟩ hP hD hK hS hA hB hl.1 (Nat.le_of_ble_eq_true rfl) ⟨Nat.le_of_ble_eq_true rfl, Nat.le_of_ble_eq_true rfl⟩ dX8_wouldRun_23 hnt hlocks (Nat.le_of_ble_eq_true rfl) (Nat.le_of_ble_eq_true rfl)

set_option maxHeartbeats 8000000 in
set_option maxRecDepth 100000 in
theorem c_X8_wouldRun_4 (l : Launch) (D : va_G) (cI cZ cJ : ClassId) (o : Nat) (u : Nat → Nat) (hst : l.stackTraces = false) (ra ga : Nat → Nat) (sz : Nat) (x1 : Int32) (x2 : Int32) (x3 : Int32) (lo_x1 : 1 ≤ x1) (hi_x1 : x1 ≤ 3000) (lo_x2 : 1 ≤ x2) (hi_x2 : x2 ≤ 40) (hi_x3 : x3 ≤ (-1)) : vx_Met l yX8_wouldRun (uW yX8_wouldRun cX8_wouldRun 4 (some .int)) ({ frames := 7, cells := 1, slots := 6, locals := 102 }) (va_Pc [.ref o, .int x1, .int x2, .int x3] (aS ra ga D (tyL cI cZ cJ) (xW o u cI cZ cJ) sz)) (nQi (va_A (xW o u cI cZ cJ) sz)) (wX "java/lang/IllegalArgumentException" D (xW o u cI cZ cJ) (va_A (xW o u cI cZ cJ) sz)) 1 6 (va_A (xW o u cI cZ cJ) sz) := by
  refine xStart (lv := [(0, .ref o), (1, .int x1), (2, .int x2), (3, .int x3)]) (Qc := fun A => nQi A) (XC := fun A => wX "java/lang/IllegalArgumentException" D (xW o u cI cZ cJ) A) (by decide) (Nat.le_of_ble_eq_true rfl) rfl ?_
  intro p e s m args below meth c ls A H S hr hlocks hnm hl hK hP hD hS hA hB hnt
  have hx := S.1
  have hb := S.2.1
  refine lv_iload_n hx hb dX8_wouldRun_0 rfl (lv_at hl 1 rfl) ?_
  refine lv_iload_n hx hb dX8_wouldRun_1 rfl (lv_at hl 2 rfl) ?_
  refine rdS (As := [.int x1, .int x2]) S (c_X8_areLimits_4 l D cI cZ cJ o u x1 x2 lo_x1 hi_x1 lo_x2 hi_x2) ms_X8_areLimits kw_6_102 ⟨rfl, rfl⟩ ⟨Nat.le_of_ble_eq_true rfl, Nat.le_of_ble_eq_true rfl⟩ hP hK hl.1 (Nat.le_of_ble_eq_true rfl) ⟨Nat.le_of_ble_eq_true rfl, Nat.le_of_ble_eq_true rfl⟩ dX8_wouldRun_2 ?_
  refine lv_if_eq (tgt := 22) hx hb dX8_wouldRun_5 (by decide) (fun c => absurd c (by decide)) (fun _ => ?_)
  refine lv_iload_n hx hb dX8_wouldRun_8 rfl (lv_at hl 3 rfl) ?_
  refine lv_if_lt (tgt := 22) hx hb dX8_wouldRun_9 (by decide) (fun _ => ?_) (fun c => absurd (b_lt hi_x3 (by decide)) c)
  refine lv_iconst (v := 0) hx hb dX8_wouldRun_22 (by decide) ?_
  exact tSv (As := [.int 0]) S (c_X8_needArgument_0 l D cI cZ cJ o u hst ra ga H.size) ms_X8_needArgument kw_4_4 rfl rfl ⟨Nat.le_of_ble_eq_true rfl, Nat.le_of_ble_eq_true rfl⟩ hP hD hK hS hA hB hl.1 (Nat.le_of_ble_eq_true rfl) ⟨Nat.le_of_ble_eq_true rfl, Nat.le_of_ble_eq_true rfl⟩ dX8_wouldRun_23 hnt hlocks (Nat.le_of_ble_eq_true rfl) (Nat.le_of_ble_eq_true rfl)

set_option maxHeartbeats 8000000 in
set_option maxRecDepth 100000 in
theorem c_X8_wouldRun_5 (l : Launch) (D : va_G) (cI cZ cJ : ClassId) (o : Nat) (u : Nat → Nat) (hst : l.stackTraces = false) (ra ga : Nat → Nat) (sz : Nat) (x1 : Int32) (x2 : Int32) (x3 : Int32) (lo_x1 : 1 ≤ x1) (hi_x1 : x1 ≤ 3000) (lo_x2 : 1 ≤ x2) (hi_x2 : x2 ≤ 40) (lo_x3 : 10 ≤ x3) : vx_Met l yX8_wouldRun (uW yX8_wouldRun cX8_wouldRun 4 (some .int)) ({ frames := 7, cells := 1, slots := 6, locals := 102 }) (va_Pc [.ref o, .int x1, .int x2, .int x3] (aS ra ga D (tyL cI cZ cJ) (xW o u cI cZ cJ) sz)) (nQi (va_A (xW o u cI cZ cJ) sz)) (wX "java/lang/IllegalArgumentException" D (xW o u cI cZ cJ) (va_A (xW o u cI cZ cJ) sz)) 1 6 (va_A (xW o u cI cZ cJ) sz) := by
  refine xStart (lv := [(0, .ref o), (1, .int x1), (2, .int x2), (3, .int x3)]) (Qc := fun A => nQi A) (XC := fun A => wX "java/lang/IllegalArgumentException" D (xW o u cI cZ cJ) A) (by decide) (Nat.le_of_ble_eq_true rfl) rfl ?_
  intro p e s m args below meth c ls A H S hr hlocks hnm hl hK hP hD hS hA hB hnt
  have hx := S.1
  have hb := S.2.1
  refine lv_iload_n hx hb dX8_wouldRun_0 rfl (lv_at hl 1 rfl) ?_
  refine lv_iload_n hx hb dX8_wouldRun_1 rfl (lv_at hl 2 rfl) ?_
  refine rdS (As := [.int x1, .int x2]) S (c_X8_areLimits_4 l D cI cZ cJ o u x1 x2 lo_x1 hi_x1 lo_x2 hi_x2) ms_X8_areLimits kw_6_102 ⟨rfl, rfl⟩ ⟨Nat.le_of_ble_eq_true rfl, Nat.le_of_ble_eq_true rfl⟩ hP hK hl.1 (Nat.le_of_ble_eq_true rfl) ⟨Nat.le_of_ble_eq_true rfl, Nat.le_of_ble_eq_true rfl⟩ dX8_wouldRun_2 ?_
  refine lv_if_eq (tgt := 22) hx hb dX8_wouldRun_5 (by decide) (fun c => absurd c (by decide)) (fun _ => ?_)
  refine lv_iload_n hx hb dX8_wouldRun_8 rfl (lv_at hl 3 rfl) ?_
  refine lv_if_lt (tgt := 22) hx hb dX8_wouldRun_9 (by decide) (fun c => absurd c (b_nlt lo_x3 (by decide))) (fun _ => ?_)
  refine lv_iload_n hx hb dX8_wouldRun_12 rfl (lv_at hl 3 rfl) ?_
  refine lv_bipush (v := 9) hx hb dX8_wouldRun_13 (by decide) ?_
  refine lv_icmp_gt (tgt := 22) hx hb dX8_wouldRun_15 (by decide) (fun _ => ?_) (fun c => absurd (b_gt lo_x3 (by decide)) c)
  refine lv_iconst (v := 0) hx hb dX8_wouldRun_22 (by decide) ?_
  exact tSv (As := [.int 0]) S (c_X8_needArgument_0 l D cI cZ cJ o u hst ra ga H.size) ms_X8_needArgument kw_4_4 rfl rfl ⟨Nat.le_of_ble_eq_true rfl, Nat.le_of_ble_eq_true rfl⟩ hP hD hK hS hA hB hl.1 (Nat.le_of_ble_eq_true rfl) ⟨Nat.le_of_ble_eq_true rfl, Nat.le_of_ble_eq_true rfl⟩ dX8_wouldRun_23 hnt hlocks (Nat.le_of_ble_eq_true rfl) (Nat.le_of_ble_eq_true rfl)

set_option maxHeartbeats 8000000 in
set_option maxRecDepth 100000 in
theorem c_X8_wouldRun_6 (l : Launch) (D : va_G) (cI cZ cJ : ClassId) (o : Nat) (u : Nat → Nat) (hst : l.stackTraces = false) (ra ga : Nat → Nat) (sz : Nat) (x1 : Int32) (x2 : Int32) (x3 : Int32) (lo_x1 : 1 ≤ x1) (hi_x1 : x1 ≤ 3000) (lo_x2 : 1 ≤ x2) (hi_x2 : x2 ≤ 40) (lo_x3 : 0 ≤ x3) (hi_x3 : x3 ≤ 9) : vx_Met l yX8_wouldRun (uW yX8_wouldRun cX8_wouldRun 4 (some .int)) ({ frames := 7, cells := 1, slots := 6, locals := 102 }) (va_Pc [.ref o, .int x1, .int x2, .int x3] (aS ra ga D (tyL cI cZ cJ) (xW o u cI cZ cJ) sz)) (nQi (va_A (xW o u cI cZ cJ) sz)) (wX "java/lang/IllegalStateException" D (((((((xW o u cI cZ cJ).set 0 (o, .inr (8, ((xF u).set 9 (.int 0))))).set 32 ((u 31), .inl (cZ, 10, .inl (upd (upd (upd (upd (upd (upd (upd (upd (upd (upd (fun _ => 0) (0 : Int32).toNatClampNeg 0) (1 : Int32).toNatClampNeg 0) (2 : Int32).toNatClampNeg 0) (3 : Int32).toNatClampNeg 0) (4 : Int32).toNatClampNeg 0) (5 : Int32).toNatClampNeg 0) (6 : Int32).toNatClampNeg 0) (7 : Int32).toNatClampNeg 0) (8 : Int32).toNatClampNeg 0) (9 : Int32).toNatClampNeg 0)))).set 34 ((u 33), .inr (2, ([.ref (u 0), .ref (u 12), .ref (u 19), .int 0, .ref (u 34), .ref (u 35), .ref (u 36), .ref (u 37), .int 0].set 3 (.int 1))))).set 35 ((u 34), .inl (cI, 120, .inl (upd (fun _ => 0) (0 : Int32).toNatClampNeg 10)))).set 36 ((u 35), .inl (cI, 120, .inl (upd (fun _ => 0) (0 : Int32).toNatClampNeg 0)))).set 37 ((u 36), .inl (cI, 120, .inl (upd (fun _ => 0) (0 : Int32).toNatClampNeg (-1))))) (va_A (xW o u cI cZ cJ) sz)) 1 6 (va_A (xW o u cI cZ cJ) sz) := by
  refine xStart (lv := [(0, .ref o), (1, .int x1), (2, .int x2), (3, .int x3)]) (Qc := fun A => nQi A) (XC := fun A => wX "java/lang/IllegalStateException" D (((((((xW o u cI cZ cJ).set 0 (o, .inr (8, ((xF u).set 9 (.int 0))))).set 32 ((u 31), .inl (cZ, 10, .inl (upd (upd (upd (upd (upd (upd (upd (upd (upd (upd (fun _ => 0) (0 : Int32).toNatClampNeg 0) (1 : Int32).toNatClampNeg 0) (2 : Int32).toNatClampNeg 0) (3 : Int32).toNatClampNeg 0) (4 : Int32).toNatClampNeg 0) (5 : Int32).toNatClampNeg 0) (6 : Int32).toNatClampNeg 0) (7 : Int32).toNatClampNeg 0) (8 : Int32).toNatClampNeg 0) (9 : Int32).toNatClampNeg 0)))).set 34 ((u 33), .inr (2, ([.ref (u 0), .ref (u 12), .ref (u 19), .int 0, .ref (u 34), .ref (u 35), .ref (u 36), .ref (u 37), .int 0].set 3 (.int 1))))).set 35 ((u 34), .inl (cI, 120, .inl (upd (fun _ => 0) (0 : Int32).toNatClampNeg 10)))).set 36 ((u 35), .inl (cI, 120, .inl (upd (fun _ => 0) (0 : Int32).toNatClampNeg 0)))).set 37 ((u 36), .inl (cI, 120, .inl (upd (fun _ => 0) (0 : Int32).toNatClampNeg (-1))))) A) (by decide) (Nat.le_of_ble_eq_true rfl) rfl ?_
  intro p e s m args below meth c ls A H S hr hlocks hnm hl hK hP hD hS hA hB hnt
  have hx := S.1
  have hb := S.2.1
  refine lv_iload_n hx hb dX8_wouldRun_0 rfl (lv_at hl 1 rfl) ?_
  refine lv_iload_n hx hb dX8_wouldRun_1 rfl (lv_at hl 2 rfl) ?_
  refine rdS (As := [.int x1, .int x2]) S (c_X8_areLimits_4 l D cI cZ cJ o u x1 x2 lo_x1 hi_x1 lo_x2 hi_x2) ms_X8_areLimits kw_6_102 ⟨rfl, rfl⟩ ⟨Nat.le_of_ble_eq_true rfl, Nat.le_of_ble_eq_true rfl⟩ hP hK hl.1 (Nat.le_of_ble_eq_true rfl) ⟨Nat.le_of_ble_eq_true rfl, Nat.le_of_ble_eq_true rfl⟩ dX8_wouldRun_2 ?_
  refine lv_if_eq (tgt := 22) hx hb dX8_wouldRun_5 (by decide) (fun c => absurd c (by decide)) (fun _ => ?_)
  refine lv_iload_n hx hb dX8_wouldRun_8 rfl (lv_at hl 3 rfl) ?_
  refine lv_if_lt (tgt := 22) hx hb dX8_wouldRun_9 (by decide) (fun c => absurd c (b_nlt lo_x3 (by decide))) (fun _ => ?_)
  refine lv_iload_n hx hb dX8_wouldRun_12 rfl (lv_at hl 3 rfl) ?_
  refine lv_bipush (v := 9) hx hb dX8_wouldRun_13 (by decide) ?_
  refine lv_icmp_gt (tgt := 22) hx hb dX8_wouldRun_15 (by decide) (fun c => absurd c (b_ngt hi_x3 (by decide))) (fun _ => ?_)
  refine lv_iconst (v := 1) hx hb dX8_wouldRun_18 (by decide) ?_
  refine lv_goto (tgt := 23) hx hb dX8_wouldRun_19 (by decide) ?_
  refine aSv (As := [.int 1]) S (c_X8_needArgument_1 l D cI cZ cJ o u ra ga H.size) ms_X8_needArgument kw_4_4 rfl rfl ⟨Nat.le_of_ble_eq_true rfl, Nat.le_of_ble_eq_true rfl⟩ hP hD hK hS hA hB hl.1 (Nat.le_of_ble_eq_true rfl) ⟨Nat.le_of_ble_eq_true rfl, Nat.le_of_ble_eq_true rfl⟩ dX8_wouldRun_23 (fun H locs hz hP hD hS => ?_)
  refine lv_aload_n hx hb dX8_wouldRun_26 rfl (lv_at hl 0 rfl) ?_
  refine aVv (As := []) (ci := 8) S (c_X8_refresh_0 l D cI cZ cJ o u ra ga H.size) mi_X8_refresh kw_3_71 rfl rfl ⟨Nat.le_of_ble_eq_true rfl, Nat.le_of_ble_eq_true rfl⟩ hP hD hK hS hA hB xW_0 rfl rfl hl.1 (Nat.le_of_ble_eq_true rfl) ⟨Nat.le_of_ble_eq_true rfl, Nat.le_of_ble_eq_true rfl⟩ dX8_wouldRun_27 (fun H locs hz hP hD hS => ?_)
  refine lv_aload_n hx hb dX8_wouldRun_30 rfl (lv_at hl 0 rfl) ?_
  refine xg (ci := 8) S inX8 rfl hK hP (q0 := 0) rfl 3 (by decide) rfl kw_3_23 rfl dX8_wouldRun_31 ?_
  refine xg (ci := 2) S inX2 rfl hK hP (q0 := 34) rfl 3 (by decide) rfl kw_2_14 rfl dX8_wouldRun_34 ?_
  refine lv_if_ne (tgt := 44) hx hb dX8_wouldRun_37 (by decide) (fun _ => ?_) (fun c => absurd c (by decide))
  refine lv_iconst (v := 0) hx hb dX8_wouldRun_44 (by decide) ?_
  exact tSv (As := [.int 0]) S (c_X8_needState_2 l D cI cZ cJ o u hst ra ga H.size) ms_X8_needState kw_5_183 rfl rfl ⟨Nat.le_of_ble_eq_true rfl, Nat.le_of_ble_eq_true rfl⟩ hP hD hK hS hA hB hl.1 (Nat.le_of_ble_eq_true rfl) ⟨Nat.le_of_ble_eq_true rfl, Nat.le_of_ble_eq_true rfl⟩ dX8_wouldRun_45 hnt hlocks (Nat.le_of_ble_eq_true rfl) (Nat.le_of_ble_eq_true rfl)

set_option maxHeartbeats 8000000 in
set_option maxRecDepth 100000 in
theorem h_wouldRun_0 (l : Launch) (D : va_G) (cI cZ cJ : ClassId) (o : Nat) (u : Nat → Nat) (ao : Nat) (hst : l.stackTraces = false) (ra ga : Nat → Nat) (sz : Nat) (x1 : Int32) (x2 : Int32) (x3 : Int32) (hi_x1 : x1 ≤ 0) : vx_Met l yL_wouldRun (uWh yL_wouldRun cL_wouldRun 6 (some .int) [(0, 12, 15, 15), (0, 12, 19, 17)]) ({ frames := 8, cells := 1, slots := 6, locals := 125 }) (va_Pc [.ref o, .int x1, .int x2, .int x3, .ref ao] (lS ra ga D (tyL cI cZ cJ) ((xW o u cI cZ cJ) ++ [(ao, .inl (cJ, 1, .inr (.inl (fun _ => 0))))]) sz)) (wQi (1) D ((xW o u cI cZ cJ) ++ [(ao, .inl (cJ, 1, .inr (.inl (fun _ => 0))))]) (va_A ((xW o u cI cZ cJ) ++ [(ao, .inl (cJ, 1, .inr (.inl (fun _ => 0))))]) sz)) (xN (va_A ((xW o u cI cZ cJ) ++ [(ao, .inl (cJ, 1, .inr (.inl (fun _ => 0))))]) sz)) 1 6 (va_A ((xW o u cI cZ cJ) ++ [(ao, .inl (cJ, 1, .inr (.inl (fun _ => 0))))]) sz) := by
  refine hStart (l := l) (y := yL_wouldRun) (b := cL_wouldRun) (n := 6) (r := (some .int)) (hh := [(0, 12, 15, 15), (0, 12, 19, 17)]) (rm := ({ frames := 8, cells := 1, slots := 6, locals := 125 })) (mc := 1) (ms := 6) (ra := ra) (ga := ga) (D := D) (tys := tyL cI cZ cJ) (ws := ((xW o u cI cZ cJ) ++ [(ao, .inl (cJ, 1, .inr (.inl (fun _ => 0))))])) (av := [.ref o, .int x1, .int x2, .int x3, .ref ao]) (sz := sz) (lv := [(0, .ref o), (1, .int x1), (2, .int x2), (3, .int x3), (4, .ref ao)]) (Qc := fun A => wQi (1) D ((xW o u cI cZ cJ) ++ [(ao, .inl (cJ, 1, .inr (.inl (fun _ => 0))))]) A) (by decide) (Nat.le_of_ble_eq_true rfl) rfl ?_
  intro p e s m args below meth c ls A H S hr hlocks htab hl hK hP hD hS hA hB hC
  have hx := S.1
  have hb := S.2.1
  refine lv_aload hx hb dL_wouldRun_0 (lv_at hl 4 rfl) ?_
  refine lv_iconst (v := 0) hx hb dL_wouldRun_2 (by decide) ?_
  refine lv_aload_n hx hb dL_wouldRun_3 rfl (lv_at hl 0 rfl) ?_
  refine lv_iload_n hx hb dL_wouldRun_4 rfl (lv_at hl 1 rfl) ?_
  refine lv_iload_n hx hb dL_wouldRun_5 rfl (lv_at hl 2 rfl) ?_
  refine lv_iload_n hx hb dL_wouldRun_6 rfl (lv_at hl 3 rfl) ?_
  refine cVi [] [(ao, .inl (cJ, 1, .inr (.inl (fun _ => 0))))] (As := [.int x1, .int x2, .int x3]) (ci := 8) S (c_X8_wouldRun_0 l D cI cZ cJ o u hst ra ga H.size x1 x2 x3 hi_x1) mi_X8_wouldRun kw_6_127 rfl rfl ⟨Nat.le_of_ble_eq_true rfl, Nat.le_of_ble_eq_true rfl⟩ hP hD hK hS hA hB xW_0 rfl rfl hl.1 (Nat.le_of_ble_eq_true rfl) ⟨Nat.le_of_ble_eq_true rfl, Nat.le_of_ble_eq_true rfl⟩ dL_wouldRun_7 (fun ce q9 H locs hz hP hD hS hce hcv hcl => ?_)
  refine vx_catch (name := "java/lang/IllegalArgumentException") S.2.2.2.1 [] (⟨0, 12, 15, 15⟩ : ExceptionTableEntry) [(⟨0, 12, 19, 17⟩ : ExceptionTableEntry)] (htab.trans rfl) (fun _ h => absurd h List.not_mem_nil) (by decide) (by decide) (S.2.2.2.2 _ kw_5_177) (va_Nw.use rfl hB.c1) hce hcv hcl ?_
  have hP : va_P D vwCl ((xW o u cI cZ cJ) ++ [(ao, .inl (cJ, 1, .inr (.inl (fun _ => 0))))]) H := hP
  have hD : va_D A ((xW o u cI cZ cJ) ++ [(ao, .inl (cJ, 1, .inr (.inl (fun _ => 0))))]) := hD
  refine lv_astore (lv' := [(5, .ref q9), (0, .ref o), (1, .int x1), (2, .int x2), (3, .int x3), (4, .ref ao)]) hx hb dL_wouldRun_15 hl (by decide) rfl (fun ls hl => ?_)
  refine lv_iconst (v := 1) hx hb dL_wouldRun_17 (by decide) ?_
  exact vx_ret (wEnd S hr hlocks hP hD hS (Nat.le_of_ble_eq_true rfl) (Nat.le_of_ble_eq_true rfl) dL_wouldRun_18 rfl)

set_option maxHeartbeats 8000000 in
set_option maxRecDepth 100000 in
theorem c_X9_wouldRun_0 (l : Launch) (D : va_G) (cI cZ cJ : ClassId) (o : Nat) (q : Nat → Nat) (sz : Nat) (x1 : Int32) (x2 : Int32) (x3 : Int32) (hi_x1 : x1 ≤ 0) : Met l yX9_wouldRun (uW yX9_wouldRun cX9_wouldRun 4 (some .int)) ({ frames := 1, cells := 0, slots := 0, locals := 22 }) (va_Pc [.ref o, .int x1, .int x2, .int x3] (wS D (tyL cI cZ cJ) (mW o 0 q cI cZ) sz)) (wQi (0) D (mW o 1 q cI cZ) (va_A (mW o 0 q cI cZ) sz)) 0 0 (va_A (mW o 0 q cI cZ) sz) := by
  refine wStart (lv := [(0, .ref o), (1, .int x1), (2, .int x2), (3, .int x3)]) (Qc := fun A => wQi (0) D (mW o 1 q cI cZ) A) (by decide) (Nat.le_of_ble_eq_true rfl) rfl ?_
  intro p e s m args below meth c ls A H S hr hlocks hnm hl hK hP hD hS hA
  have hx := S.1
  have hb := S.2.1
  refine lv_aload_n hx hb dX9_wouldRun_0 rfl (lv_at hl 0 rfl) ?_
  refine lv_iconst (v := 0) hx hb dX9_wouldRun_1 (by decide) ?_
  refine xp (ci := 9) (v := .int 0) S inX9 tyX9 tyX9_ok nmX9 rfl hK hP hD hS mW_0 0 (by decide) kw_6_148 rfl rfl rfl rfl (Nat.le_of_ble_eq_true rfl) dX9_wouldRun_2 (fun H locs hP hD hS => ?_)
  have hP : va_P D vwCl (mW o 0 q cI cZ) H := hP
  have hD : va_D A (mW o 0 q cI cZ) := hD
  refine lv_iload_n hx hb dX9_wouldRun_5 rfl (lv_at hl 1 rfl) ?_
  refine lv_iconst (v := 1) hx hb dX9_wouldRun_6 (by decide) ?_
  refine lv_sipush (v := 3000) hx hb dX9_wouldRun_7 (by decide) ?_
  refine rdS (As := [.int x1, .int 1, .int 3000]) S (c_X9_isIn_73 l D cI cZ cJ o q x1 hi_x1) ms_X9_isIn kw_7_101 ⟨rfl, rfl⟩ ⟨Nat.le_of_ble_eq_true rfl, Nat.le_of_ble_eq_true rfl⟩ hP hK hl.1 (Nat.le_of_ble_eq_true rfl) ⟨Nat.le_of_ble_eq_true rfl, Nat.le_of_ble_eq_true rfl⟩ dX9_wouldRun_10 ?_
  refine lv_if_eq (tgt := 36) hx hb dX9_wouldRun_13 (by decide) (fun _ => ?_) (fun c => absurd c (by decide))
  refine lv_aload_n hx hb dX9_wouldRun_36 rfl (lv_at hl 0 rfl) ?_
  refine lv_iconst (v := 1) hx hb dX9_wouldRun_37 (by decide) ?_
  refine wrV (As := [.int 1]) (ci := 9) S (c_X9_no_0 l D cI cZ cJ o q H.size) mi_X9_no kw_7_104 rfl rfl ⟨Nat.le_of_ble_eq_true rfl, Nat.le_of_ble_eq_true rfl⟩ hP hD hK hS hA mW_0 rfl rfl hl.1 (Nat.le_of_ble_eq_true rfl) ⟨Nat.le_of_ble_eq_true rfl, Nat.le_of_ble_eq_true rfl⟩ dX9_wouldRun_38 (fun H locs hz hP hD hS => ?_)
  exact wEnd S hr hlocks hP hD hS (Nat.le_of_ble_eq_true rfl) (Nat.le_of_ble_eq_true rfl) dX9_wouldRun_41 rfl

set_option maxHeartbeats 8000000 in
set_option maxRecDepth 100000 in
theorem h_wouldRun_1 (l : Launch) (D : va_G) (cI cZ cJ : ClassId) (o : Nat) (u : Nat → Nat) (ao : Nat) (hst : l.stackTraces = false) (ra ga : Nat → Nat) (sz : Nat) (x1 : Int32) (x2 : Int32) (x3 : Int32) (lo_x1 : 3001 ≤ x1) : vx_Met l yL_wouldRun (uWh yL_wouldRun cL_wouldRun 6 (some .int) [(0, 12, 15, 15), (0, 12, 19, 17)]) ({ frames := 8, cells := 1, slots := 6, locals := 125 }) (va_Pc [.ref o, .int x1, .int x2, .int x3, .ref ao] (lS ra ga D (tyL cI cZ cJ) ((xW o u cI cZ cJ) ++ [(ao, .inl (cJ, 1, .inr (.inl (fun _ => 0))))]) sz)) (wQi (1) D ((xW o u cI cZ cJ) ++ [(ao, .inl (cJ, 1, .inr (.inl (fun _ => 0))))]) (va_A ((xW o u cI cZ cJ) ++ [(ao, .inl (cJ, 1, .inr (.inl (fun _ => 0))))]) sz)) (xN (va_A ((xW o u cI cZ cJ) ++ [(ao, .inl (cJ, 1, .inr (.inl (fun _ => 0))))]) sz)) 1 6 (va_A ((xW o u cI cZ cJ) ++ [(ao, .inl (cJ, 1, .inr (.inl (fun _ => 0))))]) sz) := by
  refine hStart (l := l) (y := yL_wouldRun) (b := cL_wouldRun) (n := 6) (r := (some .int)) (hh := [(0, 12, 15, 15), (0, 12, 19, 17)]) (rm := ({ frames := 8, cells := 1, slots := 6, locals := 125 })) (mc := 1) (ms := 6) (ra := ra) (ga := ga) (D := D) (tys := tyL cI cZ cJ) (ws := ((xW o u cI cZ cJ) ++ [(ao, .inl (cJ, 1, .inr (.inl (fun _ => 0))))])) (av := [.ref o, .int x1, .int x2, .int x3, .ref ao]) (sz := sz) (lv := [(0, .ref o), (1, .int x1), (2, .int x2), (3, .int x3), (4, .ref ao)]) (Qc := fun A => wQi (1) D ((xW o u cI cZ cJ) ++ [(ao, .inl (cJ, 1, .inr (.inl (fun _ => 0))))]) A) (by decide) (Nat.le_of_ble_eq_true rfl) rfl ?_
  intro p e s m args below meth c ls A H S hr hlocks htab hl hK hP hD hS hA hB hC
  have hx := S.1
  have hb := S.2.1
  refine lv_aload hx hb dL_wouldRun_0 (lv_at hl 4 rfl) ?_
  refine lv_iconst (v := 0) hx hb dL_wouldRun_2 (by decide) ?_
  refine lv_aload_n hx hb dL_wouldRun_3 rfl (lv_at hl 0 rfl) ?_
  refine lv_iload_n hx hb dL_wouldRun_4 rfl (lv_at hl 1 rfl) ?_
  refine lv_iload_n hx hb dL_wouldRun_5 rfl (lv_at hl 2 rfl) ?_
  refine lv_iload_n hx hb dL_wouldRun_6 rfl (lv_at hl 3 rfl) ?_
  refine cVi [] [(ao, .inl (cJ, 1, .inr (.inl (fun _ => 0))))] (As := [.int x1, .int x2, .int x3]) (ci := 8) S (c_X8_wouldRun_1 l D cI cZ cJ o u hst ra ga H.size x1 x2 x3 lo_x1) mi_X8_wouldRun kw_6_127 rfl rfl ⟨Nat.le_of_ble_eq_true rfl, Nat.le_of_ble_eq_true rfl⟩ hP hD hK hS hA hB xW_0 rfl rfl hl.1 (Nat.le_of_ble_eq_true rfl) ⟨Nat.le_of_ble_eq_true rfl, Nat.le_of_ble_eq_true rfl⟩ dL_wouldRun_7 (fun ce q9 H locs hz hP hD hS hce hcv hcl => ?_)
  refine vx_catch (name := "java/lang/IllegalArgumentException") S.2.2.2.1 [] (⟨0, 12, 15, 15⟩ : ExceptionTableEntry) [(⟨0, 12, 19, 17⟩ : ExceptionTableEntry)] (htab.trans rfl) (fun _ h => absurd h List.not_mem_nil) (by decide) (by decide) (S.2.2.2.2 _ kw_5_177) (va_Nw.use rfl hB.c1) hce hcv hcl ?_
  have hP : va_P D vwCl ((xW o u cI cZ cJ) ++ [(ao, .inl (cJ, 1, .inr (.inl (fun _ => 0))))]) H := hP
  have hD : va_D A ((xW o u cI cZ cJ) ++ [(ao, .inl (cJ, 1, .inr (.inl (fun _ => 0))))]) := hD
  refine lv_astore (lv' := [(5, .ref q9), (0, .ref o), (1, .int x1), (2, .int x2), (3, .int x3), (4, .ref ao)]) hx hb dL_wouldRun_15 hl (by decide) rfl (fun ls hl => ?_)
  refine lv_iconst (v := 1) hx hb dL_wouldRun_17 (by decide) ?_
  exact vx_ret (wEnd S hr hlocks hP hD hS (Nat.le_of_ble_eq_true rfl) (Nat.le_of_ble_eq_true rfl) dL_wouldRun_18 rfl)

set_option maxHeartbeats 8000000 in
set_option maxRecDepth 100000 in
theorem c_X9_wouldRun_1 (l : Launch) (D : va_G) (cI cZ cJ : ClassId) (o : Nat) (q : Nat → Nat) (sz : Nat) (x1 : Int32) (x2 : Int32) (x3 : Int32) (lo_x1 : 3001 ≤ x1) : Met l yX9_wouldRun (uW yX9_wouldRun cX9_wouldRun 4 (some .int)) ({ frames := 1, cells := 0, slots := 0, locals := 22 }) (va_Pc [.ref o, .int x1, .int x2, .int x3] (wS D (tyL cI cZ cJ) (mW o 0 q cI cZ) sz)) (wQi (0) D (mW o 1 q cI cZ) (va_A (mW o 0 q cI cZ) sz)) 0 0 (va_A (mW o 0 q cI cZ) sz) := by
  refine wStart (lv := [(0, .ref o), (1, .int x1), (2, .int x2), (3, .int x3)]) (Qc := fun A => wQi (0) D (mW o 1 q cI cZ) A) (by decide) (Nat.le_of_ble_eq_true rfl) rfl ?_
  intro p e s m args below meth c ls A H S hr hlocks hnm hl hK hP hD hS hA
  have hx := S.1
  have hb := S.2.1
  refine lv_aload_n hx hb dX9_wouldRun_0 rfl (lv_at hl 0 rfl) ?_
  refine lv_iconst (v := 0) hx hb dX9_wouldRun_1 (by decide) ?_
  refine xp (ci := 9) (v := .int 0) S inX9 tyX9 tyX9_ok nmX9 rfl hK hP hD hS mW_0 0 (by decide) kw_6_148 rfl rfl rfl rfl (Nat.le_of_ble_eq_true rfl) dX9_wouldRun_2 (fun H locs hP hD hS => ?_)
  have hP : va_P D vwCl (mW o 0 q cI cZ) H := hP
  have hD : va_D A (mW o 0 q cI cZ) := hD
  refine lv_iload_n hx hb dX9_wouldRun_5 rfl (lv_at hl 1 rfl) ?_
  refine lv_iconst (v := 1) hx hb dX9_wouldRun_6 (by decide) ?_
  refine lv_sipush (v := 3000) hx hb dX9_wouldRun_7 (by decide) ?_
  refine rdS (As := [.int x1, .int 1, .int 3000]) S (c_X9_isIn_74 l D cI cZ cJ o q x1 lo_x1) ms_X9_isIn kw_7_101 ⟨rfl, rfl⟩ ⟨Nat.le_of_ble_eq_true rfl, Nat.le_of_ble_eq_true rfl⟩ hP hK hl.1 (Nat.le_of_ble_eq_true rfl) ⟨Nat.le_of_ble_eq_true rfl, Nat.le_of_ble_eq_true rfl⟩ dX9_wouldRun_10 ?_
  refine lv_if_eq (tgt := 36) hx hb dX9_wouldRun_13 (by decide) (fun _ => ?_) (fun c => absurd c (by decide))
  refine lv_aload_n hx hb dX9_wouldRun_36 rfl (lv_at hl 0 rfl) ?_
  refine lv_iconst (v := 1) hx hb dX9_wouldRun_37 (by decide) ?_
  refine wrV (As := [.int 1]) (ci := 9) S (c_X9_no_0 l D cI cZ cJ o q H.size) mi_X9_no kw_7_104 rfl rfl ⟨Nat.le_of_ble_eq_true rfl, Nat.le_of_ble_eq_true rfl⟩ hP hD hK hS hA mW_0 rfl rfl hl.1 (Nat.le_of_ble_eq_true rfl) ⟨Nat.le_of_ble_eq_true rfl, Nat.le_of_ble_eq_true rfl⟩ dX9_wouldRun_38 (fun H locs hz hP hD hS => ?_)
  exact wEnd S hr hlocks hP hD hS (Nat.le_of_ble_eq_true rfl) (Nat.le_of_ble_eq_true rfl) dX9_wouldRun_41 rfl

set_option maxHeartbeats 8000000 in
set_option maxRecDepth 100000 in
theorem h_wouldRun_2 (l : Launch) (D : va_G) (cI cZ cJ : ClassId) (o : Nat) (u : Nat → Nat) (ao : Nat) (hst : l.stackTraces = false) (ra ga : Nat → Nat) (sz : Nat) (x1 : Int32) (x2 : Int32) (x3 : Int32) (lo_x1 : 1 ≤ x1) (hi_x1 : x1 ≤ 3000) (hi_x2 : x2 ≤ 0) : vx_Met l yL_wouldRun (uWh yL_wouldRun cL_wouldRun 6 (some .int) [(0, 12, 15, 15), (0, 12, 19, 17)]) ({ frames := 8, cells := 1, slots := 6, locals := 125 }) (va_Pc [.ref o, .int x1, .int x2, .int x3, .ref ao] (lS ra ga D (tyL cI cZ cJ) ((xW o u cI cZ cJ) ++ [(ao, .inl (cJ, 1, .inr (.inl (fun _ => 0))))]) sz)) (wQi (1) D ((xW o u cI cZ cJ) ++ [(ao, .inl (cJ, 1, .inr (.inl (fun _ => 0))))]) (va_A ((xW o u cI cZ cJ) ++ [(ao, .inl (cJ, 1, .inr (.inl (fun _ => 0))))]) sz)) (xN (va_A ((xW o u cI cZ cJ) ++ [(ao, .inl (cJ, 1, .inr (.inl (fun _ => 0))))]) sz)) 1 6 (va_A ((xW o u cI cZ cJ) ++ [(ao, .inl (cJ, 1, .inr (.inl (fun _ => 0))))]) sz) := by
  refine hStart (l := l) (y := yL_wouldRun) (b := cL_wouldRun) (n := 6) (r := (some .int)) (hh := [(0, 12, 15, 15), (0, 12, 19, 17)]) (rm := ({ frames := 8, cells := 1, slots := 6, locals := 125 })) (mc := 1) (ms := 6) (ra := ra) (ga := ga) (D := D) (tys := tyL cI cZ cJ) (ws := ((xW o u cI cZ cJ) ++ [(ao, .inl (cJ, 1, .inr (.inl (fun _ => 0))))])) (av := [.ref o, .int x1, .int x2, .int x3, .ref ao]) (sz := sz) (lv := [(0, .ref o), (1, .int x1), (2, .int x2), (3, .int x3), (4, .ref ao)]) (Qc := fun A => wQi (1) D ((xW o u cI cZ cJ) ++ [(ao, .inl (cJ, 1, .inr (.inl (fun _ => 0))))]) A) (by decide) (Nat.le_of_ble_eq_true rfl) rfl ?_
  intro p e s m args below meth c ls A H S hr hlocks htab hl hK hP hD hS hA hB hC
  have hx := S.1
  have hb := S.2.1
  refine lv_aload hx hb dL_wouldRun_0 (lv_at hl 4 rfl) ?_
  refine lv_iconst (v := 0) hx hb dL_wouldRun_2 (by decide) ?_
  refine lv_aload_n hx hb dL_wouldRun_3 rfl (lv_at hl 0 rfl) ?_
  refine lv_iload_n hx hb dL_wouldRun_4 rfl (lv_at hl 1 rfl) ?_
  refine lv_iload_n hx hb dL_wouldRun_5 rfl (lv_at hl 2 rfl) ?_
  refine lv_iload_n hx hb dL_wouldRun_6 rfl (lv_at hl 3 rfl) ?_
  refine cVi [] [(ao, .inl (cJ, 1, .inr (.inl (fun _ => 0))))] (As := [.int x1, .int x2, .int x3]) (ci := 8) S (c_X8_wouldRun_2 l D cI cZ cJ o u hst ra ga H.size x1 x2 x3 lo_x1 hi_x1 hi_x2) mi_X8_wouldRun kw_6_127 rfl rfl ⟨Nat.le_of_ble_eq_true rfl, Nat.le_of_ble_eq_true rfl⟩ hP hD hK hS hA hB xW_0 rfl rfl hl.1 (Nat.le_of_ble_eq_true rfl) ⟨Nat.le_of_ble_eq_true rfl, Nat.le_of_ble_eq_true rfl⟩ dL_wouldRun_7 (fun ce q9 H locs hz hP hD hS hce hcv hcl => ?_)
  refine vx_catch (name := "java/lang/IllegalArgumentException") S.2.2.2.1 [] (⟨0, 12, 15, 15⟩ : ExceptionTableEntry) [(⟨0, 12, 19, 17⟩ : ExceptionTableEntry)] (htab.trans rfl) (fun _ h => absurd h List.not_mem_nil) (by decide) (by decide) (S.2.2.2.2 _ kw_5_177) (va_Nw.use rfl hB.c1) hce hcv hcl ?_
  have hP : va_P D vwCl ((xW o u cI cZ cJ) ++ [(ao, .inl (cJ, 1, .inr (.inl (fun _ => 0))))]) H := hP
  have hD : va_D A ((xW o u cI cZ cJ) ++ [(ao, .inl (cJ, 1, .inr (.inl (fun _ => 0))))]) := hD
  refine lv_astore (lv' := [(5, .ref q9), (0, .ref o), (1, .int x1), (2, .int x2), (3, .int x3), (4, .ref ao)]) hx hb dL_wouldRun_15 hl (by decide) rfl (fun ls hl => ?_)
  refine lv_iconst (v := 1) hx hb dL_wouldRun_17 (by decide) ?_
  exact vx_ret (wEnd S hr hlocks hP hD hS (Nat.le_of_ble_eq_true rfl) (Nat.le_of_ble_eq_true rfl) dL_wouldRun_18 rfl)

set_option maxHeartbeats 8000000 in
set_option maxRecDepth 100000 in
theorem c_X9_wouldRun_2 (l : Launch) (D : va_G) (cI cZ cJ : ClassId) (o : Nat) (q : Nat → Nat) (sz : Nat) (x1 : Int32) (x2 : Int32) (x3 : Int32) (lo_x1 : 1 ≤ x1) (hi_x1 : x1 ≤ 3000) (hi_x2 : x2 ≤ 0) : Met l yX9_wouldRun (uW yX9_wouldRun cX9_wouldRun 4 (some .int)) ({ frames := 1, cells := 0, slots := 0, locals := 22 }) (va_Pc [.ref o, .int x1, .int x2, .int x3] (wS D (tyL cI cZ cJ) (mW o 0 q cI cZ) sz)) (wQi (0) D (mW o 1 q cI cZ) (va_A (mW o 0 q cI cZ) sz)) 0 0 (va_A (mW o 0 q cI cZ) sz) := by
  refine wStart (lv := [(0, .ref o), (1, .int x1), (2, .int x2), (3, .int x3)]) (Qc := fun A => wQi (0) D (mW o 1 q cI cZ) A) (by decide) (Nat.le_of_ble_eq_true rfl) rfl ?_
  intro p e s m args below meth c ls A H S hr hlocks hnm hl hK hP hD hS hA
  have hx := S.1
  have hb := S.2.1
  refine lv_aload_n hx hb dX9_wouldRun_0 rfl (lv_at hl 0 rfl) ?_
  refine lv_iconst (v := 0) hx hb dX9_wouldRun_1 (by decide) ?_
  refine xp (ci := 9) (v := .int 0) S inX9 tyX9 tyX9_ok nmX9 rfl hK hP hD hS mW_0 0 (by decide) kw_6_148 rfl rfl rfl rfl (Nat.le_of_ble_eq_true rfl) dX9_wouldRun_2 (fun H locs hP hD hS => ?_)
  have hP : va_P D vwCl (mW o 0 q cI cZ) H := hP
  have hD : va_D A (mW o 0 q cI cZ) := hD
  refine lv_iload_n hx hb dX9_wouldRun_5 rfl (lv_at hl 1 rfl) ?_
  refine lv_iconst (v := 1) hx hb dX9_wouldRun_6 (by decide) ?_
  refine lv_sipush (v := 3000) hx hb dX9_wouldRun_7 (by decide) ?_
  refine rdS (As := [.int x1, .int 1, .int 3000]) S (c_X9_isIn_75 l D cI cZ cJ o q x1 lo_x1 hi_x1) ms_X9_isIn kw_7_101 ⟨rfl, rfl⟩ ⟨Nat.le_of_ble_eq_true rfl, Nat.le_of_ble_eq_true rfl⟩ hP hK hl.1 (Nat.le_of_ble_eq_true rfl) ⟨Nat.le_of_ble_eq_true rfl, Nat.le_of_ble_eq_true rfl⟩ dX9_wouldRun_10 ?_
  refine lv_if_eq (tgt := 36) hx hb dX9_wouldRun_13 (by decide) (fun c => absurd c (by decide)) (fun _ => ?_)
  refine lv_iload_n hx hb dX9_wouldRun_16 rfl (lv_at hl 2 rfl) ?_
  refine lv_iconst (v := 1) hx hb dX9_wouldRun_17 (by decide) ?_
  refine lv_bipush (v := 40) hx hb dX9_wouldRun_18 (by decide) ?_
  refine rdS (As := [.int x2, .int 1, .int 40]) S (c_X9_isIn_76 l D cI cZ cJ o q x2 hi_x2) ms_X9_isIn kw_7_101 ⟨rfl, rfl⟩ ⟨Nat.le_of_ble_eq_true rfl, Nat.le_of_ble_eq_true rfl⟩ hP hK hl.1 (Nat.le_of_ble_eq_true rfl) ⟨Nat.le_of_ble_eq_true rfl, Nat.le_of_ble_eq_true rfl⟩ dX9_wouldRun_20 ?_
  refine lv_if_eq (tgt := 36) hx hb dX9_wouldRun_23 (by decide) (fun _ => ?_) (fun c => absurd c (by decide))
  refine lv_aload_n hx hb dX9_wouldRun_36 rfl (lv_at hl 0 rfl) ?_
  refine lv_iconst (v := 1) hx hb dX9_wouldRun_37 (by decide) ?_
  refine wrV (As := [.int 1]) (ci := 9) S (c_X9_no_0 l D cI cZ cJ o q H.size) mi_X9_no kw_7_104 rfl rfl ⟨Nat.le_of_ble_eq_true rfl, Nat.le_of_ble_eq_true rfl⟩ hP hD hK hS hA mW_0 rfl rfl hl.1 (Nat.le_of_ble_eq_true rfl) ⟨Nat.le_of_ble_eq_true rfl, Nat.le_of_ble_eq_true rfl⟩ dX9_wouldRun_38 (fun H locs hz hP hD hS => ?_)
  exact wEnd S hr hlocks hP hD hS (Nat.le_of_ble_eq_true rfl) (Nat.le_of_ble_eq_true rfl) dX9_wouldRun_41 rfl

set_option maxHeartbeats 8000000 in
set_option maxRecDepth 100000 in
theorem h_wouldRun_3 (l : Launch) (D : va_G) (cI cZ cJ : ClassId) (o : Nat) (u : Nat → Nat) (ao : Nat) (hst : l.stackTraces = false) (ra ga : Nat → Nat) (sz : Nat) (x1 : Int32) (x2 : Int32) (x3 : Int32) (lo_x1 : 1 ≤ x1) (hi_x1 : x1 ≤ 3000) (lo_x2 : 41 ≤ x2) : vx_Met l yL_wouldRun (uWh yL_wouldRun cL_wouldRun 6 (some .int) [(0, 12, 15, 15), (0, 12, 19, 17)]) ({ frames := 8, cells := 1, slots := 6, locals := 125 }) (va_Pc [.ref o, .int x1, .int x2, .int x3, .ref ao] (lS ra ga D (tyL cI cZ cJ) ((xW o u cI cZ cJ) ++ [(ao, .inl (cJ, 1, .inr (.inl (fun _ => 0))))]) sz)) (wQi (1) D ((xW o u cI cZ cJ) ++ [(ao, .inl (cJ, 1, .inr (.inl (fun _ => 0))))]) (va_A ((xW o u cI cZ cJ) ++ [(ao, .inl (cJ, 1, .inr (.inl (fun _ => 0))))]) sz)) (xN (va_A ((xW o u cI cZ cJ) ++ [(ao, .inl (cJ, 1, .inr (.inl (fun _ => 0))))]) sz)) 1 6 (va_A ((xW o u cI cZ cJ) ++ [(ao, .inl (cJ, 1, .inr (.inl (fun _ => 0))))]) sz) := by
  refine hStart (l := l) (y := yL_wouldRun) (b := cL_wouldRun) (n := 6) (r := (some .int)) (hh := [(0, 12, 15, 15), (0, 12, 19, 17)]) (rm := ({ frames := 8, cells := 1, slots := 6, locals := 125 })) (mc := 1) (ms := 6) (ra := ra) (ga := ga) (D := D) (tys := tyL cI cZ cJ) (ws := ((xW o u cI cZ cJ) ++ [(ao, .inl (cJ, 1, .inr (.inl (fun _ => 0))))])) (av := [.ref o, .int x1, .int x2, .int x3, .ref ao]) (sz := sz) (lv := [(0, .ref o), (1, .int x1), (2, .int x2), (3, .int x3), (4, .ref ao)]) (Qc := fun A => wQi (1) D ((xW o u cI cZ cJ) ++ [(ao, .inl (cJ, 1, .inr (.inl (fun _ => 0))))]) A) (by decide) (Nat.le_of_ble_eq_true rfl) rfl ?_
  intro p e s m args below meth c ls A H S hr hlocks htab hl hK hP hD hS hA hB hC
  have hx := S.1
  have hb := S.2.1
  refine lv_aload hx hb dL_wouldRun_0 (lv_at hl 4 rfl) ?_
  refine lv_iconst (v := 0) hx hb dL_wouldRun_2 (by decide) ?_
  refine lv_aload_n hx hb dL_wouldRun_3 rfl (lv_at hl 0 rfl) ?_
  refine lv_iload_n hx hb dL_wouldRun_4 rfl (lv_at hl 1 rfl) ?_
  refine lv_iload_n hx hb dL_wouldRun_5 rfl (lv_at hl 2 rfl) ?_
  refine lv_iload_n hx hb dL_wouldRun_6 rfl (lv_at hl 3 rfl) ?_
  refine cVi [] [(ao, .inl (cJ, 1, .inr (.inl (fun _ => 0))))] (As := [.int x1, .int x2, .int x3]) (ci := 8) S (c_X8_wouldRun_3 l D cI cZ cJ o u hst ra ga H.size x1 x2 x3 lo_x1 hi_x1 lo_x2) mi_X8_wouldRun kw_6_127 rfl rfl ⟨Nat.le_of_ble_eq_true rfl, Nat.le_of_ble_eq_true rfl⟩ hP hD hK hS hA hB xW_0 rfl rfl hl.1 (Nat.le_of_ble_eq_true rfl) ⟨Nat.le_of_ble_eq_true rfl, Nat.le_of_ble_eq_true rfl⟩ dL_wouldRun_7 (fun ce q9 H locs hz hP hD hS hce hcv hcl => ?_)
  refine vx_catch (name := "java/lang/IllegalArgumentException") S.2.2.2.1 [] (⟨0, 12, 15, 15⟩ : ExceptionTableEntry) [(⟨0, 12, 19, 17⟩ : ExceptionTableEntry)] (htab.trans rfl) (fun _ h => absurd h List.not_mem_nil) (by decide) (by decide) (S.2.2.2.2 _ kw_5_177) (va_Nw.use rfl hB.c1) hce hcv hcl ?_
  have hP : va_P D vwCl ((xW o u cI cZ cJ) ++ [(ao, .inl (cJ, 1, .inr (.inl (fun _ => 0))))]) H := hP
  have hD : va_D A ((xW o u cI cZ cJ) ++ [(ao, .inl (cJ, 1, .inr (.inl (fun _ => 0))))]) := hD
  refine lv_astore (lv' := [(5, .ref q9), (0, .ref o), (1, .int x1), (2, .int x2), (3, .int x3), (4, .ref ao)]) hx hb dL_wouldRun_15 hl (by decide) rfl (fun ls hl => ?_)
  refine lv_iconst (v := 1) hx hb dL_wouldRun_17 (by decide) ?_
  exact vx_ret (wEnd S hr hlocks hP hD hS (Nat.le_of_ble_eq_true rfl) (Nat.le_of_ble_eq_true rfl) dL_wouldRun_18 rfl)

set_option maxHeartbeats 8000000 in
set_option maxRecDepth 100000 in
theorem c_X9_wouldRun_3 (l : Launch) (D : va_G) (cI cZ cJ : ClassId) (o : Nat) (q : Nat → Nat) (sz : Nat) (x1 : Int32) (x2 : Int32) (x3 : Int32) (lo_x1 : 1 ≤ x1) (hi_x1 : x1 ≤ 3000) (lo_x2 : 41 ≤ x2) : Met l yX9_wouldRun (uW yX9_wouldRun cX9_wouldRun 4 (some .int)) ({ frames := 1, cells := 0, slots := 0, locals := 22 }) (va_Pc [.ref o, .int x1, .int x2, .int x3] (wS D (tyL cI cZ cJ) (mW o 0 q cI cZ) sz)) (wQi (0) D (mW o 1 q cI cZ) (va_A (mW o 0 q cI cZ) sz)) 0 0 (va_A (mW o 0 q cI cZ) sz) := by
  refine wStart (lv := [(0, .ref o), (1, .int x1), (2, .int x2), (3, .int x3)]) (Qc := fun A => wQi (0) D (mW o 1 q cI cZ) A) (by decide) (Nat.le_of_ble_eq_true rfl) rfl ?_
  intro p e s m args below meth c ls A H S hr hlocks hnm hl hK hP hD hS hA
  have hx := S.1
  have hb := S.2.1
  refine lv_aload_n hx hb dX9_wouldRun_0 rfl (lv_at hl 0 rfl) ?_
  refine lv_iconst (v := 0) hx hb dX9_wouldRun_1 (by decide) ?_
  refine xp (ci := 9) (v := .int 0) S inX9 tyX9 tyX9_ok nmX9 rfl hK hP hD hS mW_0 0 (by decide) kw_6_148 rfl rfl rfl rfl (Nat.le_of_ble_eq_true rfl) dX9_wouldRun_2 (fun H locs hP hD hS => ?_)
  have hP : va_P D vwCl (mW o 0 q cI cZ) H := hP
  have hD : va_D A (mW o 0 q cI cZ) := hD
  refine lv_iload_n hx hb dX9_wouldRun_5 rfl (lv_at hl 1 rfl) ?_
  refine lv_iconst (v := 1) hx hb dX9_wouldRun_6 (by decide) ?_
  refine lv_sipush (v := 3000) hx hb dX9_wouldRun_7 (by decide) ?_
  refine rdS (As := [.int x1, .int 1, .int 3000]) S (c_X9_isIn_75 l D cI cZ cJ o q x1 lo_x1 hi_x1) ms_X9_isIn kw_7_101 ⟨rfl, rfl⟩ ⟨Nat.le_of_ble_eq_true rfl, Nat.le_of_ble_eq_true rfl⟩ hP hK hl.1 (Nat.le_of_ble_eq_true rfl) ⟨Nat.le_of_ble_eq_true rfl, Nat.le_of_ble_eq_true rfl⟩ dX9_wouldRun_10 ?_
  refine lv_if_eq (tgt := 36) hx hb dX9_wouldRun_13 (by decide) (fun c => absurd c (by decide)) (fun _ => ?_)
  refine lv_iload_n hx hb dX9_wouldRun_16 rfl (lv_at hl 2 rfl) ?_
  refine lv_iconst (v := 1) hx hb dX9_wouldRun_17 (by decide) ?_
  refine lv_bipush (v := 40) hx hb dX9_wouldRun_18 (by decide) ?_
  refine rdS (As := [.int x2, .int 1, .int 40]) S (c_X9_isIn_77 l D cI cZ cJ o q x2 lo_x2) ms_X9_isIn kw_7_101 ⟨rfl, rfl⟩ ⟨Nat.le_of_ble_eq_true rfl, Nat.le_of_ble_eq_true rfl⟩ hP hK hl.1 (Nat.le_of_ble_eq_true rfl) ⟨Nat.le_of_ble_eq_true rfl, Nat.le_of_ble_eq_true rfl⟩ dX9_wouldRun_20 ?_
  refine lv_if_eq (tgt := 36) hx hb dX9_wouldRun_23 (by decide) (fun _ => ?_) (fun c => absurd c (by decide))
  refine lv_aload_n hx hb dX9_wouldRun_36 rfl (lv_at hl 0 rfl) ?_
  refine lv_iconst (v := 1) hx hb dX9_wouldRun_37 (by decide) ?_
  refine wrV (As := [.int 1]) (ci := 9) S (c_X9_no_0 l D cI cZ cJ o q H.size) mi_X9_no kw_7_104 rfl rfl ⟨Nat.le_of_ble_eq_true rfl, Nat.le_of_ble_eq_true rfl⟩ hP hD hK hS hA mW_0 rfl rfl hl.1 (Nat.le_of_ble_eq_true rfl) ⟨Nat.le_of_ble_eq_true rfl, Nat.le_of_ble_eq_true rfl⟩ dX9_wouldRun_38 (fun H locs hz hP hD hS => ?_)
  exact wEnd S hr hlocks hP hD hS (Nat.le_of_ble_eq_true rfl) (Nat.le_of_ble_eq_true rfl) dX9_wouldRun_41 rfl

set_option maxHeartbeats 8000000 in
set_option maxRecDepth 100000 in
theorem h_wouldRun_4 (l : Launch) (D : va_G) (cI cZ cJ : ClassId) (o : Nat) (u : Nat → Nat) (ao : Nat) (hst : l.stackTraces = false) (ra ga : Nat → Nat) (sz : Nat) (x1 : Int32) (x2 : Int32) (x3 : Int32) (lo_x1 : 1 ≤ x1) (hi_x1 : x1 ≤ 3000) (lo_x2 : 1 ≤ x2) (hi_x2 : x2 ≤ 40) (hi_x3 : x3 ≤ (-1)) : vx_Met l yL_wouldRun (uWh yL_wouldRun cL_wouldRun 6 (some .int) [(0, 12, 15, 15), (0, 12, 19, 17)]) ({ frames := 8, cells := 1, slots := 6, locals := 125 }) (va_Pc [.ref o, .int x1, .int x2, .int x3, .ref ao] (lS ra ga D (tyL cI cZ cJ) ((xW o u cI cZ cJ) ++ [(ao, .inl (cJ, 1, .inr (.inl (fun _ => 0))))]) sz)) (wQi (1) D ((xW o u cI cZ cJ) ++ [(ao, .inl (cJ, 1, .inr (.inl (fun _ => 0))))]) (va_A ((xW o u cI cZ cJ) ++ [(ao, .inl (cJ, 1, .inr (.inl (fun _ => 0))))]) sz)) (xN (va_A ((xW o u cI cZ cJ) ++ [(ao, .inl (cJ, 1, .inr (.inl (fun _ => 0))))]) sz)) 1 6 (va_A ((xW o u cI cZ cJ) ++ [(ao, .inl (cJ, 1, .inr (.inl (fun _ => 0))))]) sz) := by
  refine hStart (l := l) (y := yL_wouldRun) (b := cL_wouldRun) (n := 6) (r := (some .int)) (hh := [(0, 12, 15, 15), (0, 12, 19, 17)]) (rm := ({ frames := 8, cells := 1, slots := 6, locals := 125 })) (mc := 1) (ms := 6) (ra := ra) (ga := ga) (D := D) (tys := tyL cI cZ cJ) (ws := ((xW o u cI cZ cJ) ++ [(ao, .inl (cJ, 1, .inr (.inl (fun _ => 0))))])) (av := [.ref o, .int x1, .int x2, .int x3, .ref ao]) (sz := sz) (lv := [(0, .ref o), (1, .int x1), (2, .int x2), (3, .int x3), (4, .ref ao)]) (Qc := fun A => wQi (1) D ((xW o u cI cZ cJ) ++ [(ao, .inl (cJ, 1, .inr (.inl (fun _ => 0))))]) A) (by decide) (Nat.le_of_ble_eq_true rfl) rfl ?_
  intro p e s m args below meth c ls A H S hr hlocks htab hl hK hP hD hS hA hB hC
  have hx := S.1
  have hb := S.2.1
  refine lv_aload hx hb dL_wouldRun_0 (lv_at hl 4 rfl) ?_
  refine lv_iconst (v := 0) hx hb dL_wouldRun_2 (by decide) ?_
  refine lv_aload_n hx hb dL_wouldRun_3 rfl (lv_at hl 0 rfl) ?_
  refine lv_iload_n hx hb dL_wouldRun_4 rfl (lv_at hl 1 rfl) ?_
  refine lv_iload_n hx hb dL_wouldRun_5 rfl (lv_at hl 2 rfl) ?_
  refine lv_iload_n hx hb dL_wouldRun_6 rfl (lv_at hl 3 rfl) ?_
  refine cVi [] [(ao, .inl (cJ, 1, .inr (.inl (fun _ => 0))))] (As := [.int x1, .int x2, .int x3]) (ci := 8) S (c_X8_wouldRun_4 l D cI cZ cJ o u hst ra ga H.size x1 x2 x3 lo_x1 hi_x1 lo_x2 hi_x2 hi_x3) mi_X8_wouldRun kw_6_127 rfl rfl ⟨Nat.le_of_ble_eq_true rfl, Nat.le_of_ble_eq_true rfl⟩ hP hD hK hS hA hB xW_0 rfl rfl hl.1 (Nat.le_of_ble_eq_true rfl) ⟨Nat.le_of_ble_eq_true rfl, Nat.le_of_ble_eq_true rfl⟩ dL_wouldRun_7 (fun ce q9 H locs hz hP hD hS hce hcv hcl => ?_)
  refine vx_catch (name := "java/lang/IllegalArgumentException") S.2.2.2.1 [] (⟨0, 12, 15, 15⟩ : ExceptionTableEntry) [(⟨0, 12, 19, 17⟩ : ExceptionTableEntry)] (htab.trans rfl) (fun _ h => absurd h List.not_mem_nil) (by decide) (by decide) (S.2.2.2.2 _ kw_5_177) (va_Nw.use rfl hB.c1) hce hcv hcl ?_
  have hP : va_P D vwCl ((xW o u cI cZ cJ) ++ [(ao, .inl (cJ, 1, .inr (.inl (fun _ => 0))))]) H := hP
  have hD : va_D A ((xW o u cI cZ cJ) ++ [(ao, .inl (cJ, 1, .inr (.inl (fun _ => 0))))]) := hD
  refine lv_astore (lv' := [(5, .ref q9), (0, .ref o), (1, .int x1), (2, .int x2), (3, .int x3), (4, .ref ao)]) hx hb dL_wouldRun_15 hl (by decide) rfl (fun ls hl => ?_)
  refine lv_iconst (v := 1) hx hb dL_wouldRun_17 (by decide) ?_
  exact vx_ret (wEnd S hr hlocks hP hD hS (Nat.le_of_ble_eq_true rfl) (Nat.le_of_ble_eq_true rfl) dL_wouldRun_18 rfl)

set_option maxHeartbeats 8000000 in
set_option maxRecDepth 100000 in
theorem c_X9_isIn_94 (l : Launch) (D : va_G) (cI cZ cJ : ClassId) (o : Nat) (q : Nat → Nat) (x3 : Int32) (hi_x3 : x3 ≤ (-1)) : Met l yX9_isIn (uW yX9_isIn cX9_isIn 3 (some .boolean)) ({ frames := 0, cells := 0, slots := 0, locals := 0 }) (va_Pc [.int x3, .int 0, .int 9] (pS D (tyL cI cZ cJ) (mW o 0 q cI cZ))) (QcRead (0)) 0 0 (fun _ => False) := by
  refine rdStart (lv := [(0, .int x3), (1, .int 0), (2, .int 9)]) (by decide) (Nat.le_of_ble_eq_true rfl) rfl ?_
  intro p e s m args below meth c ls S hr hlocks hl hP hK
  have hx := S.1
  have hb := S.2.1
  refine lv_iload_n hx hb dX9_isIn_0 rfl (lv_at hl 0 rfl) ?_
  refine lv_iload_n hx hb dX9_isIn_1 rfl (lv_at hl 1 rfl) ?_
  refine lv_icmp_lt (tgt := 14) hx hb dX9_isIn_2 (by decide) (fun _ => ?_) (fun c => absurd (b_lt hi_x3 (by decide)) c)
  refine lv_iconst (v := 0) hx hb dX9_isIn_14 (by decide) ?_
  exact rdEndZ S hr hlocks dX9_isIn_15 rfl rfl

set_option maxHeartbeats 8000000 in
set_option maxRecDepth 100000 in
theorem c_X9_wouldRun_4 (l : Launch) (D : va_G) (cI cZ cJ : ClassId) (o : Nat) (q : Nat → Nat) (sz : Nat) (x1 : Int32) (x2 : Int32) (x3 : Int32) (lo_x1 : 1 ≤ x1) (hi_x1 : x1 ≤ 3000) (lo_x2 : 1 ≤ x2) (hi_x2 : x2 ≤ 40) (hi_x3 : x3 ≤ (-1)) : Met l yX9_wouldRun (uW yX9_wouldRun cX9_wouldRun 4 (some .int)) ({ frames := 1, cells := 0, slots := 0, locals := 22 }) (va_Pc [.ref o, .int x1, .int x2, .int x3] (wS D (tyL cI cZ cJ) (mW o 0 q cI cZ) sz)) (wQi (0) D (mW o 1 q cI cZ) (va_A (mW o 0 q cI cZ) sz)) 0 0 (va_A (mW o 0 q cI cZ) sz) := by
  refine wStart (lv := [(0, .ref o), (1, .int x1), (2, .int x2), (3, .int x3)]) (Qc := fun A => wQi (0) D (mW o 1 q cI cZ) A) (by decide) (Nat.le_of_ble_eq_true rfl) rfl ?_
  intro p e s m args below meth c ls A H S hr hlocks hnm hl hK hP hD hS hA
  have hx := S.1
  have hb := S.2.1
  refine lv_aload_n hx hb dX9_wouldRun_0 rfl (lv_at hl 0 rfl) ?_
  refine lv_iconst (v := 0) hx hb dX9_wouldRun_1 (by decide) ?_
  refine xp (ci := 9) (v := .int 0) S inX9 tyX9 tyX9_ok nmX9 rfl hK hP hD hS mW_0 0 (by decide) kw_6_148 rfl rfl rfl rfl (Nat.le_of_ble_eq_true rfl) dX9_wouldRun_2 (fun H locs hP hD hS => ?_)
  have hP : va_P D vwCl (mW o 0 q cI cZ) H := hP
  have hD : va_D A (mW o 0 q cI cZ) := hD
  refine lv_iload_n hx hb dX9_wouldRun_5 rfl (lv_at hl 1 rfl) ?_
  refine lv_iconst (v := 1) hx hb dX9_wouldRun_6 (by decide) ?_
  refine lv_sipush (v := 3000) hx hb dX9_wouldRun_7 (by decide) ?_
  refine rdS (As := [.int x1, .int 1, .int 3000]) S (c_X9_isIn_75 l D cI cZ cJ o q x1 lo_x1 hi_x1) ms_X9_isIn kw_7_101 ⟨rfl, rfl⟩ ⟨Nat.le_of_ble_eq_true rfl, Nat.le_of_ble_eq_true rfl⟩ hP hK hl.1 (Nat.le_of_ble_eq_true rfl) ⟨Nat.le_of_ble_eq_true rfl, Nat.le_of_ble_eq_true rfl⟩ dX9_wouldRun_10 ?_
  refine lv_if_eq (tgt := 36) hx hb dX9_wouldRun_13 (by decide) (fun c => absurd c (by decide)) (fun _ => ?_)
  refine lv_iload_n hx hb dX9_wouldRun_16 rfl (lv_at hl 2 rfl) ?_
  refine lv_iconst (v := 1) hx hb dX9_wouldRun_17 (by decide) ?_
  refine lv_bipush (v := 40) hx hb dX9_wouldRun_18 (by decide) ?_
  refine rdS (As := [.int x2, .int 1, .int 40]) S (c_X9_isIn_78 l D cI cZ cJ o q x2 lo_x2 hi_x2) ms_X9_isIn kw_7_101 ⟨rfl, rfl⟩ ⟨Nat.le_of_ble_eq_true rfl, Nat.le_of_ble_eq_true rfl⟩ hP hK hl.1 (Nat.le_of_ble_eq_true rfl) ⟨Nat.le_of_ble_eq_true rfl, Nat.le_of_ble_eq_true rfl⟩ dX9_wouldRun_20 ?_
  refine lv_if_eq (tgt := 36) hx hb dX9_wouldRun_23 (by decide) (fun c => absurd c (by decide)) (fun _ => ?_)
  refine lv_iload_n hx hb dX9_wouldRun_26 rfl (lv_at hl 3 rfl) ?_
  refine lv_iconst (v := 0) hx hb dX9_wouldRun_27 (by decide) ?_
  refine lv_bipush (v := 9) hx hb dX9_wouldRun_28 (by decide) ?_
  refine rdS (As := [.int x3, .int 0, .int 9]) S (c_X9_isIn_94 l D cI cZ cJ o q x3 hi_x3) ms_X9_isIn kw_7_101 ⟨rfl, rfl⟩ ⟨Nat.le_of_ble_eq_true rfl, Nat.le_of_ble_eq_true rfl⟩ hP hK hl.1 (Nat.le_of_ble_eq_true rfl) ⟨Nat.le_of_ble_eq_true rfl, Nat.le_of_ble_eq_true rfl⟩ dX9_wouldRun_30 ?_
  refine lv_if_ne (tgt := 42) hx hb dX9_wouldRun_33 (by decide) (fun c => absurd c (by decide)) (fun _ => ?_)
  refine lv_aload_n hx hb dX9_wouldRun_36 rfl (lv_at hl 0 rfl) ?_
  refine lv_iconst (v := 1) hx hb dX9_wouldRun_37 (by decide) ?_
  refine wrV (As := [.int 1]) (ci := 9) S (c_X9_no_0 l D cI cZ cJ o q H.size) mi_X9_no kw_7_104 rfl rfl ⟨Nat.le_of_ble_eq_true rfl, Nat.le_of_ble_eq_true rfl⟩ hP hD hK hS hA mW_0 rfl rfl hl.1 (Nat.le_of_ble_eq_true rfl) ⟨Nat.le_of_ble_eq_true rfl, Nat.le_of_ble_eq_true rfl⟩ dX9_wouldRun_38 (fun H locs hz hP hD hS => ?_)
  exact wEnd S hr hlocks hP hD hS (Nat.le_of_ble_eq_true rfl) (Nat.le_of_ble_eq_true rfl) dX9_wouldRun_41 rfl

set_option maxHeartbeats 8000000 in
set_option maxRecDepth 100000 in
theorem h_wouldRun_5 (l : Launch) (D : va_G) (cI cZ cJ : ClassId) (o : Nat) (u : Nat → Nat) (ao : Nat) (hst : l.stackTraces = false) (ra ga : Nat → Nat) (sz : Nat) (x1 : Int32) (x2 : Int32) (x3 : Int32) (lo_x1 : 1 ≤ x1) (hi_x1 : x1 ≤ 3000) (lo_x2 : 1 ≤ x2) (hi_x2 : x2 ≤ 40) (lo_x3 : 10 ≤ x3) : vx_Met l yL_wouldRun (uWh yL_wouldRun cL_wouldRun 6 (some .int) [(0, 12, 15, 15), (0, 12, 19, 17)]) ({ frames := 8, cells := 1, slots := 6, locals := 125 }) (va_Pc [.ref o, .int x1, .int x2, .int x3, .ref ao] (lS ra ga D (tyL cI cZ cJ) ((xW o u cI cZ cJ) ++ [(ao, .inl (cJ, 1, .inr (.inl (fun _ => 0))))]) sz)) (wQi (1) D ((xW o u cI cZ cJ) ++ [(ao, .inl (cJ, 1, .inr (.inl (fun _ => 0))))]) (va_A ((xW o u cI cZ cJ) ++ [(ao, .inl (cJ, 1, .inr (.inl (fun _ => 0))))]) sz)) (xN (va_A ((xW o u cI cZ cJ) ++ [(ao, .inl (cJ, 1, .inr (.inl (fun _ => 0))))]) sz)) 1 6 (va_A ((xW o u cI cZ cJ) ++ [(ao, .inl (cJ, 1, .inr (.inl (fun _ => 0))))]) sz) := by
  refine hStart (l := l) (y := yL_wouldRun) (b := cL_wouldRun) (n := 6) (r := (some .int)) (hh := [(0, 12, 15, 15), (0, 12, 19, 17)]) (rm := ({ frames := 8, cells := 1, slots := 6, locals := 125 })) (mc := 1) (ms := 6) (ra := ra) (ga := ga) (D := D) (tys := tyL cI cZ cJ) (ws := ((xW o u cI cZ cJ) ++ [(ao, .inl (cJ, 1, .inr (.inl (fun _ => 0))))])) (av := [.ref o, .int x1, .int x2, .int x3, .ref ao]) (sz := sz) (lv := [(0, .ref o), (1, .int x1), (2, .int x2), (3, .int x3), (4, .ref ao)]) (Qc := fun A => wQi (1) D ((xW o u cI cZ cJ) ++ [(ao, .inl (cJ, 1, .inr (.inl (fun _ => 0))))]) A) (by decide) (Nat.le_of_ble_eq_true rfl) rfl ?_
  intro p e s m args below meth c ls A H S hr hlocks htab hl hK hP hD hS hA hB hC
  have hx := S.1
  have hb := S.2.1
  refine lv_aload hx hb dL_wouldRun_0 (lv_at hl 4 rfl) ?_
  refine lv_iconst (v := 0) hx hb dL_wouldRun_2 (by decide) ?_
  refine lv_aload_n hx hb dL_wouldRun_3 rfl (lv_at hl 0 rfl) ?_
  refine lv_iload_n hx hb dL_wouldRun_4 rfl (lv_at hl 1 rfl) ?_
  refine lv_iload_n hx hb dL_wouldRun_5 rfl (lv_at hl 2 rfl) ?_
  refine lv_iload_n hx hb dL_wouldRun_6 rfl (lv_at hl 3 rfl) ?_
  refine cVi [] [(ao, .inl (cJ, 1, .inr (.inl (fun _ => 0))))] (As := [.int x1, .int x2, .int x3]) (ci := 8) S (c_X8_wouldRun_5 l D cI cZ cJ o u hst ra ga H.size x1 x2 x3 lo_x1 hi_x1 lo_x2 hi_x2 lo_x3) mi_X8_wouldRun kw_6_127 rfl rfl ⟨Nat.le_of_ble_eq_true rfl, Nat.le_of_ble_eq_true rfl⟩ hP hD hK hS hA hB xW_0 rfl rfl hl.1 (Nat.le_of_ble_eq_true rfl) ⟨Nat.le_of_ble_eq_true rfl, Nat.le_of_ble_eq_true rfl⟩ dL_wouldRun_7 (fun ce q9 H locs hz hP hD hS hce hcv hcl => ?_)
  refine vx_catch (name := "java/lang/IllegalArgumentException") S.2.2.2.1 [] (⟨0, 12, 15, 15⟩ : ExceptionTableEntry) [(⟨0, 12, 19, 17⟩ : ExceptionTableEntry)] (htab.trans rfl) (fun _ h => absurd h List.not_mem_nil) (by decide) (by decide) (S.2.2.2.2 _ kw_5_177) (va_Nw.use rfl hB.c1) hce hcv hcl ?_
  have hP : va_P D vwCl ((xW o u cI cZ cJ) ++ [(ao, .inl (cJ, 1, .inr (.inl (fun _ => 0))))]) H := hP
  have hD : va_D A ((xW o u cI cZ cJ) ++ [(ao, .inl (cJ, 1, .inr (.inl (fun _ => 0))))]) := hD
  refine lv_astore (lv' := [(5, .ref q9), (0, .ref o), (1, .int x1), (2, .int x2), (3, .int x3), (4, .ref ao)]) hx hb dL_wouldRun_15 hl (by decide) rfl (fun ls hl => ?_)
  refine lv_iconst (v := 1) hx hb dL_wouldRun_17 (by decide) ?_
  exact vx_ret (wEnd S hr hlocks hP hD hS (Nat.le_of_ble_eq_true rfl) (Nat.le_of_ble_eq_true rfl) dL_wouldRun_18 rfl)

set_option maxHeartbeats 8000000 in
set_option maxRecDepth 100000 in
theorem c_X9_isIn_95 (l : Launch) (D : va_G) (cI cZ cJ : ClassId) (o : Nat) (q : Nat → Nat) (x3 : Int32) (lo_x3 : 10 ≤ x3) : Met l yX9_isIn (uW yX9_isIn cX9_isIn 3 (some .boolean)) ({ frames := 0, cells := 0, slots := 0, locals := 0 }) (va_Pc [.int x3, .int 0, .int 9] (pS D (tyL cI cZ cJ) (mW o 0 q cI cZ))) (QcRead (0)) 0 0 (fun _ => False) := by
  refine rdStart (lv := [(0, .int x3), (1, .int 0), (2, .int 9)]) (by decide) (Nat.le_of_ble_eq_true rfl) rfl ?_
  intro p e s m args below meth c ls S hr hlocks hl hP hK
  have hx := S.1
  have hb := S.2.1
  refine lv_iload_n hx hb dX9_isIn_0 rfl (lv_at hl 0 rfl) ?_
  refine lv_iload_n hx hb dX9_isIn_1 rfl (lv_at hl 1 rfl) ?_
  refine lv_icmp_lt (tgt := 14) hx hb dX9_isIn_2 (by decide) (fun c => absurd c (b_nlt lo_x3 (by decide))) (fun _ => ?_)
  refine lv_iload_n hx hb dX9_isIn_5 rfl (lv_at hl 0 rfl) ?_
  refine lv_iload_n hx hb dX9_isIn_6 rfl (lv_at hl 2 rfl) ?_
  refine lv_icmp_gt (tgt := 14) hx hb dX9_isIn_7 (by decide) (fun _ => ?_) (fun c => absurd (b_gt lo_x3 (by decide)) c)
  refine lv_iconst (v := 0) hx hb dX9_isIn_14 (by decide) ?_
  exact rdEndZ S hr hlocks dX9_isIn_15 rfl rfl

set_option maxHeartbeats 8000000 in
set_option maxRecDepth 100000 in
theorem c_X9_wouldRun_5 (l : Launch) (D : va_G) (cI cZ cJ : ClassId) (o : Nat) (q : Nat → Nat) (sz : Nat) (x1 : Int32) (x2 : Int32) (x3 : Int32) (lo_x1 : 1 ≤ x1) (hi_x1 : x1 ≤ 3000) (lo_x2 : 1 ≤ x2) (hi_x2 : x2 ≤ 40) (lo_x3 : 10 ≤ x3) : Met l yX9_wouldRun (uW yX9_wouldRun cX9_wouldRun 4 (some .int)) ({ frames := 1, cells := 0, slots := 0, locals := 22 }) (va_Pc [.ref o, .int x1, .int x2, .int x3] (wS D (tyL cI cZ cJ) (mW o 0 q cI cZ) sz)) (wQi (0) D (mW o 1 q cI cZ) (va_A (mW o 0 q cI cZ) sz)) 0 0 (va_A (mW o 0 q cI cZ) sz) := by
  refine wStart (lv := [(0, .ref o), (1, .int x1), (2, .int x2), (3, .int x3)]) (Qc := fun A => wQi (0) D (mW o 1 q cI cZ) A) (by decide) (Nat.le_of_ble_eq_true rfl) rfl ?_
  intro p e s m args below meth c ls A H S hr hlocks hnm hl hK hP hD hS hA
  have hx := S.1
  have hb := S.2.1
  refine lv_aload_n hx hb dX9_wouldRun_0 rfl (lv_at hl 0 rfl) ?_
  refine lv_iconst (v := 0) hx hb dX9_wouldRun_1 (by decide) ?_
  refine xp (ci := 9) (v := .int 0) S inX9 tyX9 tyX9_ok nmX9 rfl hK hP hD hS mW_0 0 (by decide) kw_6_148 rfl rfl rfl rfl (Nat.le_of_ble_eq_true rfl) dX9_wouldRun_2 (fun H locs hP hD hS => ?_)
  have hP : va_P D vwCl (mW o 0 q cI cZ) H := hP
  have hD : va_D A (mW o 0 q cI cZ) := hD
  refine lv_iload_n hx hb dX9_wouldRun_5 rfl (lv_at hl 1 rfl) ?_
  refine lv_iconst (v := 1) hx hb dX9_wouldRun_6 (by decide) ?_
  refine lv_sipush (v := 3000) hx hb dX9_wouldRun_7 (by decide) ?_
  refine rdS (As := [.int x1, .int 1, .int 3000]) S (c_X9_isIn_75 l D cI cZ cJ o q x1 lo_x1 hi_x1) ms_X9_isIn kw_7_101 ⟨rfl, rfl⟩ ⟨Nat.le_of_ble_eq_true rfl, Nat.le_of_ble_eq_true rfl⟩ hP hK hl.1 (Nat.le_of_ble_eq_true rfl) ⟨Nat.le_of_ble_eq_true rfl, Nat.le_of_ble_eq_true rfl⟩ dX9_wouldRun_10 ?_
  refine lv_if_eq (tgt := 36) hx hb dX9_wouldRun_13 (by decide) (fun c => absurd c (by decide)) (fun _ => ?_)
  refine lv_iload_n hx hb dX9_wouldRun_16 rfl (lv_at hl 2 rfl) ?_
  refine lv_iconst (v := 1) hx hb dX9_wouldRun_17 (by decide) ?_
  refine lv_bipush (v := 40) hx hb dX9_wouldRun_18 (by decide) ?_
  refine rdS (As := [.int x2, .int 1, .int 40]) S (c_X9_isIn_78 l D cI cZ cJ o q x2 lo_x2 hi_x2) ms_X9_isIn kw_7_101 ⟨rfl, rfl⟩ ⟨Nat.le_of_ble_eq_true rfl, Nat.le_of_ble_eq_true rfl⟩ hP hK hl.1 (Nat.le_of_ble_eq_true rfl) ⟨Nat.le_of_ble_eq_true rfl, Nat.le_of_ble_eq_true rfl⟩ dX9_wouldRun_20 ?_
  refine lv_if_eq (tgt := 36) hx hb dX9_wouldRun_23 (by decide) (fun c => absurd c (by decide)) (fun _ => ?_)
  refine lv_iload_n hx hb dX9_wouldRun_26 rfl (lv_at hl 3 rfl) ?_
  refine lv_iconst (v := 0) hx hb dX9_wouldRun_27 (by decide) ?_
  refine lv_bipush (v := 9) hx hb dX9_wouldRun_28 (by decide) ?_
  refine rdS (As := [.int x3, .int 0, .int 9]) S (c_X9_isIn_95 l D cI cZ cJ o q x3 lo_x3) ms_X9_isIn kw_7_101 ⟨rfl, rfl⟩ ⟨Nat.le_of_ble_eq_true rfl, Nat.le_of_ble_eq_true rfl⟩ hP hK hl.1 (Nat.le_of_ble_eq_true rfl) ⟨Nat.le_of_ble_eq_true rfl, Nat.le_of_ble_eq_true rfl⟩ dX9_wouldRun_30 ?_
  refine lv_if_ne (tgt := 42) hx hb dX9_wouldRun_33 (by decide) (fun c => absurd c (by decide)) (fun _ => ?_)
  refine lv_aload_n hx hb dX9_wouldRun_36 rfl (lv_at hl 0 rfl) ?_
  refine lv_iconst (v := 1) hx hb dX9_wouldRun_37 (by decide) ?_
  refine wrV (As := [.int 1]) (ci := 9) S (c_X9_no_0 l D cI cZ cJ o q H.size) mi_X9_no kw_7_104 rfl rfl ⟨Nat.le_of_ble_eq_true rfl, Nat.le_of_ble_eq_true rfl⟩ hP hD hK hS hA mW_0 rfl rfl hl.1 (Nat.le_of_ble_eq_true rfl) ⟨Nat.le_of_ble_eq_true rfl, Nat.le_of_ble_eq_true rfl⟩ dX9_wouldRun_38 (fun H locs hz hP hD hS => ?_)
  exact wEnd S hr hlocks hP hD hS (Nat.le_of_ble_eq_true rfl) (Nat.le_of_ble_eq_true rfl) dX9_wouldRun_41 rfl

set_option maxHeartbeats 8000000 in
set_option maxRecDepth 100000 in
theorem h_wouldRun_6 (l : Launch) (D : va_G) (cI cZ cJ : ClassId) (o : Nat) (u : Nat → Nat) (ao : Nat) (hst : l.stackTraces = false) (ra ga : Nat → Nat) (sz : Nat) (x1 : Int32) (x2 : Int32) (x3 : Int32) (lo_x1 : 1 ≤ x1) (hi_x1 : x1 ≤ 3000) (lo_x2 : 1 ≤ x2) (hi_x2 : x2 ≤ 40) (lo_x3 : 0 ≤ x3) (hi_x3 : x3 ≤ 9) : vx_Met l yL_wouldRun (uWh yL_wouldRun cL_wouldRun 6 (some .int) [(0, 12, 15, 15), (0, 12, 19, 17)]) ({ frames := 8, cells := 1, slots := 6, locals := 125 }) (va_Pc [.ref o, .int x1, .int x2, .int x3, .ref ao] (lS ra ga D (tyL cI cZ cJ) ((xW o u cI cZ cJ) ++ [(ao, .inl (cJ, 1, .inr (.inl (fun _ => 0))))]) sz)) (wQi (2) D ((((((((xW o u cI cZ cJ).set 0 (o, .inr (8, ((xF u).set 9 (.int 0))))).set 32 ((u 31), .inl (cZ, 10, .inl (upd (upd (upd (upd (upd (upd (upd (upd (upd (upd (fun _ => 0) (0 : Int32).toNatClampNeg 0) (1 : Int32).toNatClampNeg 0) (2 : Int32).toNatClampNeg 0) (3 : Int32).toNatClampNeg 0) (4 : Int32).toNatClampNeg 0) (5 : Int32).toNatClampNeg 0) (6 : Int32).toNatClampNeg 0) (7 : Int32).toNatClampNeg 0) (8 : Int32).toNatClampNeg 0) (9 : Int32).toNatClampNeg 0)))).set 34 ((u 33), .inr (2, ([.ref (u 0), .ref (u 12), .ref (u 19), .int 0, .ref (u 34), .ref (u 35), .ref (u 36), .ref (u 37), .int 0].set 3 (.int 1))))).set 35 ((u 34), .inl (cI, 120, .inl (upd (fun _ => 0) (0 : Int32).toNatClampNeg 10)))).set 36 ((u 35), .inl (cI, 120, .inl (upd (fun _ => 0) (0 : Int32).toNatClampNeg 0)))).set 37 ((u 36), .inl (cI, 120, .inl (upd (fun _ => 0) (0 : Int32).toNatClampNeg (-1))))) ++ [(ao, .inl (cJ, 1, .inr (.inl (fun _ => 0))))]) (va_A ((xW o u cI cZ cJ) ++ [(ao, .inl (cJ, 1, .inr (.inl (fun _ => 0))))]) sz)) (xN (va_A ((xW o u cI cZ cJ) ++ [(ao, .inl (cJ, 1, .inr (.inl (fun _ => 0))))]) sz)) 1 6 (va_A ((xW o u cI cZ cJ) ++ [(ao, .inl (cJ, 1, .inr (.inl (fun _ => 0))))]) sz) := by
  refine hStart (l := l) (y := yL_wouldRun) (b := cL_wouldRun) (n := 6) (r := (some .int)) (hh := [(0, 12, 15, 15), (0, 12, 19, 17)]) (rm := ({ frames := 8, cells := 1, slots := 6, locals := 125 })) (mc := 1) (ms := 6) (ra := ra) (ga := ga) (D := D) (tys := tyL cI cZ cJ) (ws := ((xW o u cI cZ cJ) ++ [(ao, .inl (cJ, 1, .inr (.inl (fun _ => 0))))])) (av := [.ref o, .int x1, .int x2, .int x3, .ref ao]) (sz := sz) (lv := [(0, .ref o), (1, .int x1), (2, .int x2), (3, .int x3), (4, .ref ao)]) (Qc := fun A => wQi (2) D ((((((((xW o u cI cZ cJ).set 0 (o, .inr (8, ((xF u).set 9 (.int 0))))).set 32 ((u 31), .inl (cZ, 10, .inl (upd (upd (upd (upd (upd (upd (upd (upd (upd (upd (fun _ => 0) (0 : Int32).toNatClampNeg 0) (1 : Int32).toNatClampNeg 0) (2 : Int32).toNatClampNeg 0) (3 : Int32).toNatClampNeg 0) (4 : Int32).toNatClampNeg 0) (5 : Int32).toNatClampNeg 0) (6 : Int32).toNatClampNeg 0) (7 : Int32).toNatClampNeg 0) (8 : Int32).toNatClampNeg 0) (9 : Int32).toNatClampNeg 0)))).set 34 ((u 33), .inr (2, ([.ref (u 0), .ref (u 12), .ref (u 19), .int 0, .ref (u 34), .ref (u 35), .ref (u 36), .ref (u 37), .int 0].set 3 (.int 1))))).set 35 ((u 34), .inl (cI, 120, .inl (upd (fun _ => 0) (0 : Int32).toNatClampNeg 10)))).set 36 ((u 35), .inl (cI, 120, .inl (upd (fun _ => 0) (0 : Int32).toNatClampNeg 0)))).set 37 ((u 36), .inl (cI, 120, .inl (upd (fun _ => 0) (0 : Int32).toNatClampNeg (-1))))) ++ [(ao, .inl (cJ, 1, .inr (.inl (fun _ => 0))))]) A) (by decide) (Nat.le_of_ble_eq_true rfl) rfl ?_
  intro p e s m args below meth c ls A H S hr hlocks htab hl hK hP hD hS hA hB hC
  have hx := S.1
  have hb := S.2.1
  refine lv_aload hx hb dL_wouldRun_0 (lv_at hl 4 rfl) ?_
  refine lv_iconst (v := 0) hx hb dL_wouldRun_2 (by decide) ?_
  refine lv_aload_n hx hb dL_wouldRun_3 rfl (lv_at hl 0 rfl) ?_
  refine lv_iload_n hx hb dL_wouldRun_4 rfl (lv_at hl 1 rfl) ?_
  refine lv_iload_n hx hb dL_wouldRun_5 rfl (lv_at hl 2 rfl) ?_
  refine lv_iload_n hx hb dL_wouldRun_6 rfl (lv_at hl 3 rfl) ?_
  refine cVi [] [(ao, .inl (cJ, 1, .inr (.inl (fun _ => 0))))] (As := [.int x1, .int x2, .int x3]) (ci := 8) S (c_X8_wouldRun_6 l D cI cZ cJ o u hst ra ga H.size x1 x2 x3 lo_x1 hi_x1 lo_x2 hi_x2 lo_x3 hi_x3) mi_X8_wouldRun kw_6_127 rfl rfl ⟨Nat.le_of_ble_eq_true rfl, Nat.le_of_ble_eq_true rfl⟩ hP hD hK hS hA hB xW_0 rfl rfl hl.1 (Nat.le_of_ble_eq_true rfl) ⟨Nat.le_of_ble_eq_true rfl, Nat.le_of_ble_eq_true rfl⟩ dL_wouldRun_7 (fun ce q9 H locs hz hP hD hS hce hcv hcl => ?_)
  refine vx_catch (name := "java/lang/IllegalStateException") S.2.2.2.1 [(⟨0, 12, 15, 15⟩ : ExceptionTableEntry)] (⟨0, 12, 19, 17⟩ : ExceptionTableEntry) [] (htab.trans rfl) (List.forall_mem_cons.mpr ⟨Or.inr ⟨by decide, "java/lang/IllegalArgumentException", S.2.2.2.2 _ kw_5_177, hC.2.2⟩, (fun _ h => absurd h List.not_mem_nil)⟩) (by decide) (by decide) (S.2.2.2.2 _ kw_5_178) (va_Nw.use rfl hB.c2) hce hcv hcl ?_
  have hP : va_P D vwCl ((((((((xW o u cI cZ cJ).set 0 (o, .inr (8, ((xF u).set 9 (.int 0))))).set 32 ((u 31), .inl (cZ, 10, .inl (upd (upd (upd (upd (upd (upd (upd (upd (upd (upd (fun _ => 0) (0 : Int32).toNatClampNeg 0) (1 : Int32).toNatClampNeg 0) (2 : Int32).toNatClampNeg 0) (3 : Int32).toNatClampNeg 0) (4 : Int32).toNatClampNeg 0) (5 : Int32).toNatClampNeg 0) (6 : Int32).toNatClampNeg 0) (7 : Int32).toNatClampNeg 0) (8 : Int32).toNatClampNeg 0) (9 : Int32).toNatClampNeg 0)))).set 34 ((u 33), .inr (2, ([.ref (u 0), .ref (u 12), .ref (u 19), .int 0, .ref (u 34), .ref (u 35), .ref (u 36), .ref (u 37), .int 0].set 3 (.int 1))))).set 35 ((u 34), .inl (cI, 120, .inl (upd (fun _ => 0) (0 : Int32).toNatClampNeg 10)))).set 36 ((u 35), .inl (cI, 120, .inl (upd (fun _ => 0) (0 : Int32).toNatClampNeg 0)))).set 37 ((u 36), .inl (cI, 120, .inl (upd (fun _ => 0) (0 : Int32).toNatClampNeg (-1))))) ++ [(ao, .inl (cJ, 1, .inr (.inl (fun _ => 0))))]) H := hP
  have hD : va_D A ((((((((xW o u cI cZ cJ).set 0 (o, .inr (8, ((xF u).set 9 (.int 0))))).set 32 ((u 31), .inl (cZ, 10, .inl (upd (upd (upd (upd (upd (upd (upd (upd (upd (upd (fun _ => 0) (0 : Int32).toNatClampNeg 0) (1 : Int32).toNatClampNeg 0) (2 : Int32).toNatClampNeg 0) (3 : Int32).toNatClampNeg 0) (4 : Int32).toNatClampNeg 0) (5 : Int32).toNatClampNeg 0) (6 : Int32).toNatClampNeg 0) (7 : Int32).toNatClampNeg 0) (8 : Int32).toNatClampNeg 0) (9 : Int32).toNatClampNeg 0)))).set 34 ((u 33), .inr (2, ([.ref (u 0), .ref (u 12), .ref (u 19), .int 0, .ref (u 34), .ref (u 35), .ref (u 36), .ref (u 37), .int 0].set 3 (.int 1))))).set 35 ((u 34), .inl (cI, 120, .inl (upd (fun _ => 0) (0 : Int32).toNatClampNeg 10)))).set 36 ((u 35), .inl (cI, 120, .inl (upd (fun _ => 0) (0 : Int32).toNatClampNeg 0)))).set 37 ((u 36), .inl (cI, 120, .inl (upd (fun _ => 0) (0 : Int32).toNatClampNeg (-1))))) ++ [(ao, .inl (cJ, 1, .inr (.inl (fun _ => 0))))]) := hD
  refine lv_astore (lv' := [(5, .ref q9), (0, .ref o), (1, .int x1), (2, .int x2), (3, .int x3), (4, .ref ao)]) hx hb dL_wouldRun_19 hl (by decide) rfl (fun ls hl => ?_)
  refine lv_iconst (v := 2) hx hb dL_wouldRun_21 (by decide) ?_
  exact vx_ret (wEnd S hr hlocks hP hD hS (Nat.le_of_ble_eq_true rfl) (Nat.le_of_ble_eq_true rfl) dL_wouldRun_22 rfl)

set_option maxHeartbeats 8000000 in
set_option maxRecDepth 100000 in
theorem c_X9_isIn_96 (l : Launch) (D : va_G) (cI cZ cJ : ClassId) (o : Nat) (q : Nat → Nat) (x3 : Int32) (lo_x3 : 0 ≤ x3) (hi_x3 : x3 ≤ 9) : Met l yX9_isIn (uW yX9_isIn cX9_isIn 3 (some .boolean)) ({ frames := 0, cells := 0, slots := 0, locals := 0 }) (va_Pc [.int x3, .int 0, .int 9] (pS D (tyL cI cZ cJ) (mW o 0 q cI cZ))) (QcRead (1)) 0 0 (fun _ => False) := by
  refine rdStart (lv := [(0, .int x3), (1, .int 0), (2, .int 9)]) (by decide) (Nat.le_of_ble_eq_true rfl) rfl ?_
  intro p e s m args below meth c ls S hr hlocks hl hP hK
  have hx := S.1
  have hb := S.2.1
  refine lv_iload_n hx hb dX9_isIn_0 rfl (lv_at hl 0 rfl) ?_
  refine lv_iload_n hx hb dX9_isIn_1 rfl (lv_at hl 1 rfl) ?_
  refine lv_icmp_lt (tgt := 14) hx hb dX9_isIn_2 (by decide) (fun c => absurd c (b_nlt lo_x3 (by decide))) (fun _ => ?_)
  refine lv_iload_n hx hb dX9_isIn_5 rfl (lv_at hl 0 rfl) ?_
  refine lv_iload_n hx hb dX9_isIn_6 rfl (lv_at hl 2 rfl) ?_
  refine lv_icmp_gt (tgt := 14) hx hb dX9_isIn_7 (by decide) (fun c => absurd c (b_ngt hi_x3 (by decide))) (fun _ => ?_)
  refine lv_iconst (v := 1) hx hb dX9_isIn_10 (by decide) ?_
  refine lv_goto (tgt := 15) hx hb dX9_isIn_11 (by decide) ?_
  exact rdEndZ S hr hlocks dX9_isIn_15 rfl rfl

set_option maxHeartbeats 8000000 in
set_option maxRecDepth 100000 in
theorem c_X9_wouldRun_6 (l : Launch) (D : va_G) (cI cZ cJ : ClassId) (o : Nat) (q : Nat → Nat) (sz : Nat) (x1 : Int32) (x2 : Int32) (x3 : Int32) (lo_x1 : 1 ≤ x1) (hi_x1 : x1 ≤ 3000) (lo_x2 : 1 ≤ x2) (hi_x2 : x2 ≤ 40) (lo_x3 : 0 ≤ x3) (hi_x3 : x3 ≤ 9) : Met l yX9_wouldRun (uW yX9_wouldRun cX9_wouldRun 4 (some .int)) ({ frames := 2, cells := 1, slots := 111, locals := 49 }) (va_Pc [.ref o, .int x1, .int x2, .int x3] (wS D (tyL cI cZ cJ) (mW o 0 q cI cZ) sz)) (wQi (0) D (mW o 2 q cI cZ) (va_A (mW o 0 q cI cZ) sz)) 1 111 (va_A (mW o 0 q cI cZ) sz) := by
  refine wStart (lv := [(0, .ref o), (1, .int x1), (2, .int x2), (3, .int x3)]) (Qc := fun A => wQi (0) D (mW o 2 q cI cZ) A) (by decide) (Nat.le_of_ble_eq_true rfl) rfl ?_
  intro p e s m args below meth c ls A H S hr hlocks hnm hl hK hP hD hS hA
  have hx := S.1
  have hb := S.2.1
  refine lv_aload_n hx hb dX9_wouldRun_0 rfl (lv_at hl 0 rfl) ?_
  refine lv_iconst (v := 0) hx hb dX9_wouldRun_1 (by decide) ?_
  refine xp (ci := 9) (v := .int 0) S inX9 tyX9 tyX9_ok nmX9 rfl hK hP hD hS mW_0 0 (by decide) kw_6_148 rfl rfl rfl rfl (Nat.le_of_ble_eq_true rfl) dX9_wouldRun_2 (fun H locs hP hD hS => ?_)
  have hP : va_P D vwCl (mW o 0 q cI cZ) H := hP
  have hD : va_D A (mW o 0 q cI cZ) := hD
  refine lv_iload_n hx hb dX9_wouldRun_5 rfl (lv_at hl 1 rfl) ?_
  refine lv_iconst (v := 1) hx hb dX9_wouldRun_6 (by decide) ?_
  refine lv_sipush (v := 3000) hx hb dX9_wouldRun_7 (by decide) ?_
  refine rdS (As := [.int x1, .int 1, .int 3000]) S (c_X9_isIn_75 l D cI cZ cJ o q x1 lo_x1 hi_x1) ms_X9_isIn kw_7_101 ⟨rfl, rfl⟩ ⟨Nat.le_of_ble_eq_true rfl, Nat.le_of_ble_eq_true rfl⟩ hP hK hl.1 (Nat.le_of_ble_eq_true rfl) ⟨Nat.le_of_ble_eq_true rfl, Nat.le_of_ble_eq_true rfl⟩ dX9_wouldRun_10 ?_
  refine lv_if_eq (tgt := 36) hx hb dX9_wouldRun_13 (by decide) (fun c => absurd c (by decide)) (fun _ => ?_)
  refine lv_iload_n hx hb dX9_wouldRun_16 rfl (lv_at hl 2 rfl) ?_
  refine lv_iconst (v := 1) hx hb dX9_wouldRun_17 (by decide) ?_
  refine lv_bipush (v := 40) hx hb dX9_wouldRun_18 (by decide) ?_
  refine rdS (As := [.int x2, .int 1, .int 40]) S (c_X9_isIn_78 l D cI cZ cJ o q x2 lo_x2 hi_x2) ms_X9_isIn kw_7_101 ⟨rfl, rfl⟩ ⟨Nat.le_of_ble_eq_true rfl, Nat.le_of_ble_eq_true rfl⟩ hP hK hl.1 (Nat.le_of_ble_eq_true rfl) ⟨Nat.le_of_ble_eq_true rfl, Nat.le_of_ble_eq_true rfl⟩ dX9_wouldRun_20 ?_
  refine lv_if_eq (tgt := 36) hx hb dX9_wouldRun_23 (by decide) (fun c => absurd c (by decide)) (fun _ => ?_)
  refine lv_iload_n hx hb dX9_wouldRun_26 rfl (lv_at hl 3 rfl) ?_
  refine lv_iconst (v := 0) hx hb dX9_wouldRun_27 (by decide) ?_
  refine lv_bipush (v := 9) hx hb dX9_wouldRun_28 (by decide) ?_
  refine rdS (As := [.int x3, .int 0, .int 9]) S (c_X9_isIn_96 l D cI cZ cJ o q x3 lo_x3 hi_x3) ms_X9_isIn kw_7_101 ⟨rfl, rfl⟩ ⟨Nat.le_of_ble_eq_true rfl, Nat.le_of_ble_eq_true rfl⟩ hP hK hl.1 (Nat.le_of_ble_eq_true rfl) ⟨Nat.le_of_ble_eq_true rfl, Nat.le_of_ble_eq_true rfl⟩ dX9_wouldRun_30 ?_
  refine lv_if_ne (tgt := 42) hx hb dX9_wouldRun_33 (by decide) (fun _ => ?_) (fun c => absurd c (by decide))
  refine lv_aload_n hx hb dX9_wouldRun_42 rfl (lv_at hl 0 rfl) ?_
  refine wrV (As := []) (ci := 9) S (c_X9_faults_0 l D cI cZ cJ o q H.size) mi_X9_faults kw_7_230 rfl rfl ⟨Nat.le_of_ble_eq_true rfl, Nat.le_of_ble_eq_true rfl⟩ hP hD hK hS hA mW_0 rfl rfl hl.1 (Nat.le_of_ble_eq_true rfl) ⟨Nat.le_of_ble_eq_true rfl, Nat.le_of_ble_eq_true rfl⟩ dX9_wouldRun_43 (fun H locs hz hP hD hS => ?_)
  refine lv_if_le (tgt := 57) hx hb dX9_wouldRun_46 (by decide) (fun c => absurd c (by decide)) (fun _ => ?_)
  refine lv_aload_n hx hb dX9_wouldRun_49 rfl (lv_at hl 0 rfl) ?_
  refine lv_iconst (v := 2) hx hb dX9_wouldRun_50 (by decide) ?_
  refine wrV (As := [.int 2]) (ci := 9) S (c_X9_no_1 l D cI cZ cJ o q H.size) mi_X9_no kw_7_104 rfl rfl ⟨Nat.le_of_ble_eq_true rfl, Nat.le_of_ble_eq_true rfl⟩ hP hD hK hS hA mW_0 rfl rfl hl.1 (Nat.le_of_ble_eq_true rfl) ⟨Nat.le_of_ble_eq_true rfl, Nat.le_of_ble_eq_true rfl⟩ dX9_wouldRun_51 (fun H locs hz hP hD hS => ?_)
  refine lv_goto (tgt := 69) hx hb dX9_wouldRun_54 (by decide) ?_
  exact wEnd S hr hlocks hP hD hS (Nat.le_of_ble_eq_true rfl) (Nat.le_of_ble_eq_true rfl) dX9_wouldRun_69 rfl

set_option maxHeartbeats 8000000 in
set_option maxRecDepth 100000 in
theorem c_X8_with_0 (l : Launch) (D : va_G) (cI cZ cJ : ClassId) (o : Nat) (u : Nat → Nat) (hst : l.stackTraces = false) (ra ga : Nat → Nat) (sz : Nat) (x1 : Int32) (x2 : Int32) (hi_x1 : x1 ≤ (-1)) : vx_Met l yX8_with (uW yX8_with cX8_with 3 (some .int)) ({ frames := 7, cells := 1, slots := 6, locals := 102 }) (va_Pc [.ref o, .int x1, .int x2] (aS ra ga D (tyL cI cZ cJ) (xW o u cI cZ cJ) sz)) (nQi (va_A (xW o u cI cZ cJ) sz)) (wX "java/lang/IllegalArgumentException" D (xW o u cI cZ cJ) (va_A (xW o u cI cZ cJ) sz)) 1 6 (va_A (xW o u cI cZ cJ) sz) := by
  refine xStart (lv := [(0, .ref o), (1, .int x1), (2, .int x2)]) (Qc := fun A => nQi A) (XC := fun A => wX "java/lang/IllegalArgumentException" D (xW o u cI cZ cJ) A) (by decide) (Nat.le_of_ble_eq_true rfl) rfl ?_
  intro p e s m args below meth c ls A H S hr hlocks hnm hl hK hP hD hS hA hB hnt
  have hx := S.1
  have hb := S.2.1
  refine lv_iload_n hx hb dX8_with_0 rfl (lv_at hl 1 rfl) ?_
  refine rdS (As := [.int x1]) S (c_X8_isPasses_0 l D cI cZ cJ o u x1 hi_x1) ms_X8_isPasses kw_6_88 ⟨rfl, rfl⟩ ⟨Nat.le_of_ble_eq_true rfl, Nat.le_of_ble_eq_true rfl⟩ hP hK hl.1 (Nat.le_of_ble_eq_true rfl) ⟨Nat.le_of_ble_eq_true rfl, Nat.le_of_ble_eq_true rfl⟩ dX8_with_1 ?_
  refine lv_if_eq (tgt := 20) hx hb dX8_with_4 (by decide) (fun _ => ?_) (fun c => absurd c (by decide))
  refine lv_iconst (v := 0) hx hb dX8_with_20 (by decide) ?_
  exact tSv (As := [.int 0]) S (c_X8_needArgument_0 l D cI cZ cJ o u hst ra ga H.size) ms_X8_needArgument kw_4_4 rfl rfl ⟨Nat.le_of_ble_eq_true rfl, Nat.le_of_ble_eq_true rfl⟩ hP hD hK hS hA hB hl.1 (Nat.le_of_ble_eq_true rfl) ⟨Nat.le_of_ble_eq_true rfl, Nat.le_of_ble_eq_true rfl⟩ dX8_with_21 hnt hlocks (Nat.le_of_ble_eq_true rfl) (Nat.le_of_ble_eq_true rfl)

set_option maxHeartbeats 8000000 in
set_option maxRecDepth 100000 in
theorem c_X8_with_1 (l : Launch) (D : va_G) (cI cZ cJ : ClassId) (o : Nat) (u : Nat → Nat) (hst : l.stackTraces = false) (ra ga : Nat → Nat) (sz : Nat) (x1 : Int32) (x2 : Int32) (lo_x1 : 8 ≤ x1) : vx_Met l yX8_with (uW yX8_with cX8_with 3 (some .int)) ({ frames := 7, cells := 1, slots := 6, locals := 102 }) (va_Pc [.ref o, .int x1, .int x2] (aS ra ga D (tyL cI cZ cJ) (xW o u cI cZ cJ) sz)) (nQi (va_A (xW o u cI cZ cJ) sz)) (wX "java/lang/IllegalArgumentException" D (xW o u cI cZ cJ) (va_A (xW o u cI cZ cJ) sz)) 1 6 (va_A (xW o u cI cZ cJ) sz) := by
  refine xStart (lv := [(0, .ref o), (1, .int x1), (2, .int x2)]) (Qc := fun A => nQi A) (XC := fun A => wX "java/lang/IllegalArgumentException" D (xW o u cI cZ cJ) A) (by decide) (Nat.le_of_ble_eq_true rfl) rfl ?_
  intro p e s m args below meth c ls A H S hr hlocks hnm hl hK hP hD hS hA hB hnt
  have hx := S.1
  have hb := S.2.1
  refine lv_iload_n hx hb dX8_with_0 rfl (lv_at hl 1 rfl) ?_
  refine rdS (As := [.int x1]) S (c_X8_isPasses_1 l D cI cZ cJ o u x1 lo_x1) ms_X8_isPasses kw_6_88 ⟨rfl, rfl⟩ ⟨Nat.le_of_ble_eq_true rfl, Nat.le_of_ble_eq_true rfl⟩ hP hK hl.1 (Nat.le_of_ble_eq_true rfl) ⟨Nat.le_of_ble_eq_true rfl, Nat.le_of_ble_eq_true rfl⟩ dX8_with_1 ?_
  refine lv_if_eq (tgt := 20) hx hb dX8_with_4 (by decide) (fun _ => ?_) (fun c => absurd c (by decide))
  refine lv_iconst (v := 0) hx hb dX8_with_20 (by decide) ?_
  exact tSv (As := [.int 0]) S (c_X8_needArgument_0 l D cI cZ cJ o u hst ra ga H.size) ms_X8_needArgument kw_4_4 rfl rfl ⟨Nat.le_of_ble_eq_true rfl, Nat.le_of_ble_eq_true rfl⟩ hP hD hK hS hA hB hl.1 (Nat.le_of_ble_eq_true rfl) ⟨Nat.le_of_ble_eq_true rfl, Nat.le_of_ble_eq_true rfl⟩ dX8_with_21 hnt hlocks (Nat.le_of_ble_eq_true rfl) (Nat.le_of_ble_eq_true rfl)

set_option maxHeartbeats 8000000 in
set_option maxRecDepth 100000 in
theorem c_X8_with_2 (l : Launch) (D : va_G) (cI cZ cJ : ClassId) (o : Nat) (u : Nat → Nat) (hst : l.stackTraces = false) (ra ga : Nat → Nat) (sz : Nat) (x1 : Int32) (x2 : Int32) (lo_x1 : 0 ≤ x1) (hi_x1 : x1 ≤ 7) (hi_x2 : x2 ≤ (-1)) : vx_Met l yX8_with (uW yX8_with cX8_with 3 (some .int)) ({ frames := 7, cells := 1, slots := 6, locals := 102 }) (va_Pc [.ref o, .int x1, .int x2] (aS ra ga D (tyL cI cZ cJ) (xW o u cI cZ cJ) sz)) (nQi (va_A (xW o u cI cZ cJ) sz)) (wX "java/lang/IllegalArgumentException" D (xW o u cI cZ cJ) (va_A (xW o u cI cZ cJ) sz)) 1 6 (va_A (xW o u cI cZ cJ) sz) := by
  refine xStart (lv := [(0, .ref o), (1, .int x1), (2, .int x2)]) (Qc := fun A => nQi A) (XC := fun A => wX "java/lang/IllegalArgumentException" D (xW o u cI cZ cJ) A) (by decide) (Nat.le_of_ble_eq_true rfl) rfl ?_
  intro p e s m args below meth c ls A H S hr hlocks hnm hl hK hP hD hS hA hB hnt
  have hx := S.1
  have hb := S.2.1
  refine lv_iload_n hx hb dX8_with_0 rfl (lv_at hl 1 rfl) ?_
  refine rdS (As := [.int x1]) S (c_X8_isPasses_2 l D cI cZ cJ o u x1 lo_x1 hi_x1) ms_X8_isPasses kw_6_88 ⟨rfl, rfl⟩ ⟨Nat.le_of_ble_eq_true rfl, Nat.le_of_ble_eq_true rfl⟩ hP hK hl.1 (Nat.le_of_ble_eq_true rfl) ⟨Nat.le_of_ble_eq_true rfl, Nat.le_of_ble_eq_true rfl⟩ dX8_with_1 ?_
  refine lv_if_eq (tgt := 20) hx hb dX8_with_4 (by decide) (fun c => absurd c (by decide)) (fun _ => ?_)
  refine lv_iload_n hx hb dX8_with_7 rfl (lv_at hl 2 rfl) ?_
  refine lv_if_lt (tgt := 20) hx hb dX8_with_8 (by decide) (fun _ => ?_) (fun c => absurd (b_lt hi_x2 (by decide)) c)
  refine lv_iconst (v := 0) hx hb dX8_with_20 (by decide) ?_
  exact tSv (As := [.int 0]) S (c_X8_needArgument_0 l D cI cZ cJ o u hst ra ga H.size) ms_X8_needArgument kw_4_4 rfl rfl ⟨Nat.le_of_ble_eq_true rfl, Nat.le_of_ble_eq_true rfl⟩ hP hD hK hS hA hB hl.1 (Nat.le_of_ble_eq_true rfl) ⟨Nat.le_of_ble_eq_true rfl, Nat.le_of_ble_eq_true rfl⟩ dX8_with_21 hnt hlocks (Nat.le_of_ble_eq_true rfl) (Nat.le_of_ble_eq_true rfl)

set_option maxHeartbeats 8000000 in
set_option maxRecDepth 100000 in
theorem c_X8_with_3 (l : Launch) (D : va_G) (cI cZ cJ : ClassId) (o : Nat) (u : Nat → Nat) (hst : l.stackTraces = false) (ra ga : Nat → Nat) (sz : Nat) (x1 : Int32) (x2 : Int32) (lo_x1 : 0 ≤ x1) (hi_x1 : x1 ≤ 7) (lo_x2 : 3 ≤ x2) : vx_Met l yX8_with (uW yX8_with cX8_with 3 (some .int)) ({ frames := 7, cells := 1, slots := 6, locals := 102 }) (va_Pc [.ref o, .int x1, .int x2] (aS ra ga D (tyL cI cZ cJ) (xW o u cI cZ cJ) sz)) (nQi (va_A (xW o u cI cZ cJ) sz)) (wX "java/lang/IllegalArgumentException" D (xW o u cI cZ cJ) (va_A (xW o u cI cZ cJ) sz)) 1 6 (va_A (xW o u cI cZ cJ) sz) := by
  refine xStart (lv := [(0, .ref o), (1, .int x1), (2, .int x2)]) (Qc := fun A => nQi A) (XC := fun A => wX "java/lang/IllegalArgumentException" D (xW o u cI cZ cJ) A) (by decide) (Nat.le_of_ble_eq_true rfl) rfl ?_
  intro p e s m args below meth c ls A H S hr hlocks hnm hl hK hP hD hS hA hB hnt
  have hx := S.1
  have hb := S.2.1
  refine lv_iload_n hx hb dX8_with_0 rfl (lv_at hl 1 rfl) ?_
  refine rdS (As := [.int x1]) S (c_X8_isPasses_2 l D cI cZ cJ o u x1 lo_x1 hi_x1) ms_X8_isPasses kw_6_88 ⟨rfl, rfl⟩ ⟨Nat.le_of_ble_eq_true rfl, Nat.le_of_ble_eq_true rfl⟩ hP hK hl.1 (Nat.le_of_ble_eq_true rfl) ⟨Nat.le_of_ble_eq_true rfl, Nat.le_of_ble_eq_true rfl⟩ dX8_with_1 ?_
  refine lv_if_eq (tgt := 20) hx hb dX8_with_4 (by decide) (fun c => absurd c (by decide)) (fun _ => ?_)
  refine lv_iload_n hx hb dX8_with_7 rfl (lv_at hl 2 rfl) ?_
  refine lv_if_lt (tgt := 20) hx hb dX8_with_8 (by decide) (fun c => absurd c (b_nlt lo_x2 (by decide))) (fun _ => ?_)
  refine lv_iload_n hx hb dX8_with_11 rfl (lv_at hl 2 rfl) ?_
  refine lv_iconst (v := 2) hx hb dX8_with_12 (by decide) ?_
  refine lv_icmp_gt (tgt := 20) hx hb dX8_with_13 (by decide) (fun _ => ?_) (fun c => absurd (b_gt lo_x2 (by decide)) c)
  refine lv_iconst (v := 0) hx hb dX8_with_20 (by decide) ?_
  exact tSv (As := [.int 0]) S (c_X8_needArgument_0 l D cI cZ cJ o u hst ra ga H.size) ms_X8_needArgument kw_4_4 rfl rfl ⟨Nat.le_of_ble_eq_true rfl, Nat.le_of_ble_eq_true rfl⟩ hP hD hK hS hA hB hl.1 (Nat.le_of_ble_eq_true rfl) ⟨Nat.le_of_ble_eq_true rfl, Nat.le_of_ble_eq_true rfl⟩ dX8_with_21 hnt hlocks (Nat.le_of_ble_eq_true rfl) (Nat.le_of_ble_eq_true rfl)

set_option maxHeartbeats 8000000 in
set_option maxRecDepth 100000 in
theorem c_X8_with_4 (l : Launch) (D : va_G) (cI cZ cJ : ClassId) (o : Nat) (u : Nat → Nat) (hst : l.stackTraces = false) (ra ga : Nat → Nat) (sz : Nat) (x1 : Int32) (x2 : Int32) (lo_x1 : 0 ≤ x1) (hi_x1 : x1 ≤ 7) (lo_x2 : 0 ≤ x2) (hi_x2 : x2 ≤ 2) : vx_Met l yX8_with (uW yX8_with cX8_with 3 (some .int)) ({ frames := 7, cells := 1, slots := 6, locals := 102 }) (va_Pc [.ref o, .int x1, .int x2] (aS ra ga D (tyL cI cZ cJ) (xW o u cI cZ cJ) sz)) (nQi (va_A (xW o u cI cZ cJ) sz)) (wX "java/lang/IllegalStateException" D (((((((xW o u cI cZ cJ).set 0 (o, .inr (8, ((xF u).set 9 (.int 0))))).set 32 ((u 31), .inl (cZ, 10, .inl (upd (upd (upd (upd (upd (upd (upd (upd (upd (upd (fun _ => 0) (0 : Int32).toNatClampNeg 0) (1 : Int32).toNatClampNeg 0) (2 : Int32).toNatClampNeg 0) (3 : Int32).toNatClampNeg 0) (4 : Int32).toNatClampNeg 0) (5 : Int32).toNatClampNeg 0) (6 : Int32).toNatClampNeg 0) (7 : Int32).toNatClampNeg 0) (8 : Int32).toNatClampNeg 0) (9 : Int32).toNatClampNeg 0)))).set 34 ((u 33), .inr (2, ([.ref (u 0), .ref (u 12), .ref (u 19), .int 0, .ref (u 34), .ref (u 35), .ref (u 36), .ref (u 37), .int 0].set 3 (.int 1))))).set 35 ((u 34), .inl (cI, 120, .inl (upd (fun _ => 0) (0 : Int32).toNatClampNeg 10)))).set 36 ((u 35), .inl (cI, 120, .inl (upd (fun _ => 0) (0 : Int32).toNatClampNeg 0)))).set 37 ((u 36), .inl (cI, 120, .inl (upd (fun _ => 0) (0 : Int32).toNatClampNeg (-1))))) (va_A (xW o u cI cZ cJ) sz)) 1 6 (va_A (xW o u cI cZ cJ) sz) := by
  refine xStart (lv := [(0, .ref o), (1, .int x1), (2, .int x2)]) (Qc := fun A => nQi A) (XC := fun A => wX "java/lang/IllegalStateException" D (((((((xW o u cI cZ cJ).set 0 (o, .inr (8, ((xF u).set 9 (.int 0))))).set 32 ((u 31), .inl (cZ, 10, .inl (upd (upd (upd (upd (upd (upd (upd (upd (upd (upd (fun _ => 0) (0 : Int32).toNatClampNeg 0) (1 : Int32).toNatClampNeg 0) (2 : Int32).toNatClampNeg 0) (3 : Int32).toNatClampNeg 0) (4 : Int32).toNatClampNeg 0) (5 : Int32).toNatClampNeg 0) (6 : Int32).toNatClampNeg 0) (7 : Int32).toNatClampNeg 0) (8 : Int32).toNatClampNeg 0) (9 : Int32).toNatClampNeg 0)))).set 34 ((u 33), .inr (2, ([.ref (u 0), .ref (u 12), .ref (u 19), .int 0, .ref (u 34), .ref (u 35), .ref (u 36), .ref (u 37), .int 0].set 3 (.int 1))))).set 35 ((u 34), .inl (cI, 120, .inl (upd (fun _ => 0) (0 : Int32).toNatClampNeg 10)))).set 36 ((u 35), .inl (cI, 120, .inl (upd (fun _ => 0) (0 : Int32).toNatClampNeg 0)))).set 37 ((u 36), .inl (cI, 120, .inl (upd (fun _ => 0) (0 : Int32).toNatClampNeg (-1))))) A) (by decide) (Nat.le_of_ble_eq_true rfl) rfl ?_
  intro p e s m args below meth c ls A H S hr hlocks hnm hl hK hP hD hS hA hB hnt
  have hx := S.1
  have hb := S.2.1
  refine lv_iload_n hx hb dX8_with_0 rfl (lv_at hl 1 rfl) ?_
  refine rdS (As := [.int x1]) S (c_X8_isPasses_2 l D cI cZ cJ o u x1 lo_x1 hi_x1) ms_X8_isPasses kw_6_88 ⟨rfl, rfl⟩ ⟨Nat.le_of_ble_eq_true rfl, Nat.le_of_ble_eq_true rfl⟩ hP hK hl.1 (Nat.le_of_ble_eq_true rfl) ⟨Nat.le_of_ble_eq_true rfl, Nat.le_of_ble_eq_true rfl⟩ dX8_with_1 ?_
  refine lv_if_eq (tgt := 20) hx hb dX8_with_4 (by decide) (fun c => absurd c (by decide)) (fun _ => ?_)
  refine lv_iload_n hx hb dX8_with_7 rfl (lv_at hl 2 rfl) ?_
  refine lv_if_lt (tgt := 20) hx hb dX8_with_8 (by decide) (fun c => absurd c (b_nlt lo_x2 (by decide))) (fun _ => ?_)
  refine lv_iload_n hx hb dX8_with_11 rfl (lv_at hl 2 rfl) ?_
  refine lv_iconst (v := 2) hx hb dX8_with_12 (by decide) ?_
  refine lv_icmp_gt (tgt := 20) hx hb dX8_with_13 (by decide) (fun c => absurd c (b_ngt hi_x2 (by decide))) (fun _ => ?_)
  refine lv_iconst (v := 1) hx hb dX8_with_16 (by decide) ?_
  refine lv_goto (tgt := 21) hx hb dX8_with_17 (by decide) ?_
  refine aSv (As := [.int 1]) S (c_X8_needArgument_1 l D cI cZ cJ o u ra ga H.size) ms_X8_needArgument kw_4_4 rfl rfl ⟨Nat.le_of_ble_eq_true rfl, Nat.le_of_ble_eq_true rfl⟩ hP hD hK hS hA hB hl.1 (Nat.le_of_ble_eq_true rfl) ⟨Nat.le_of_ble_eq_true rfl, Nat.le_of_ble_eq_true rfl⟩ dX8_with_21 (fun H locs hz hP hD hS => ?_)
  refine lv_aload_n hx hb dX8_with_24 rfl (lv_at hl 0 rfl) ?_
  refine aVv (As := []) (ci := 8) S (c_X8_refresh_0 l D cI cZ cJ o u ra ga H.size) mi_X8_refresh kw_3_71 rfl rfl ⟨Nat.le_of_ble_eq_true rfl, Nat.le_of_ble_eq_true rfl⟩ hP hD hK hS hA hB xW_0 rfl rfl hl.1 (Nat.le_of_ble_eq_true rfl) ⟨Nat.le_of_ble_eq_true rfl, Nat.le_of_ble_eq_true rfl⟩ dX8_with_25 (fun H locs hz hP hD hS => ?_)
  refine lv_aload_n hx hb dX8_with_28 rfl (lv_at hl 0 rfl) ?_
  refine xg (ci := 8) S inX8 rfl hK hP (q0 := 0) rfl 3 (by decide) rfl kw_3_23 rfl dX8_with_29 ?_
  refine xg (ci := 2) S inX2 rfl hK hP (q0 := 34) rfl 3 (by decide) rfl kw_2_14 rfl dX8_with_32 ?_
  refine lv_if_ne (tgt := 42) hx hb dX8_with_35 (by decide) (fun _ => ?_) (fun c => absurd c (by decide))
  refine lv_iconst (v := 0) hx hb dX8_with_42 (by decide) ?_
  exact tSv (As := [.int 0]) S (c_X8_needState_2 l D cI cZ cJ o u hst ra ga H.size) ms_X8_needState kw_5_183 rfl rfl ⟨Nat.le_of_ble_eq_true rfl, Nat.le_of_ble_eq_true rfl⟩ hP hD hK hS hA hB hl.1 (Nat.le_of_ble_eq_true rfl) ⟨Nat.le_of_ble_eq_true rfl, Nat.le_of_ble_eq_true rfl⟩ dX8_with_43 hnt hlocks (Nat.le_of_ble_eq_true rfl) (Nat.le_of_ble_eq_true rfl)

set_option maxHeartbeats 8000000 in
set_option maxRecDepth 100000 in
theorem h_with_0 (l : Launch) (D : va_G) (cI cZ cJ : ClassId) (o : Nat) (u : Nat → Nat) (ao : Nat) (hst : l.stackTraces = false) (ra ga : Nat → Nat) (sz : Nat) (x1 : Int32) (x2 : Int32) (hi_x1 : x1 ≤ (-1)) : vx_Met l yL_with (uWh yL_with cL_with 5 (some .int) [(0, 10, 13, 15), (0, 10, 17, 17)]) ({ frames := 8, cells := 1, slots := 6, locals := 124 }) (va_Pc [.ref o, .int x1, .int x2, .ref ao] (lS ra ga D (tyL cI cZ cJ) ((xW o u cI cZ cJ) ++ [(ao, .inl (cJ, 1, .inr (.inl (fun _ => 0))))]) sz)) (wQi (1) D ((xW o u cI cZ cJ) ++ [(ao, .inl (cJ, 1, .inr (.inl (fun _ => 0))))]) (va_A ((xW o u cI cZ cJ) ++ [(ao, .inl (cJ, 1, .inr (.inl (fun _ => 0))))]) sz)) (xN (va_A ((xW o u cI cZ cJ) ++ [(ao, .inl (cJ, 1, .inr (.inl (fun _ => 0))))]) sz)) 1 6 (va_A ((xW o u cI cZ cJ) ++ [(ao, .inl (cJ, 1, .inr (.inl (fun _ => 0))))]) sz) := by
  refine hStart (l := l) (y := yL_with) (b := cL_with) (n := 5) (r := (some .int)) (hh := [(0, 10, 13, 15), (0, 10, 17, 17)]) (rm := ({ frames := 8, cells := 1, slots := 6, locals := 124 })) (mc := 1) (ms := 6) (ra := ra) (ga := ga) (D := D) (tys := tyL cI cZ cJ) (ws := ((xW o u cI cZ cJ) ++ [(ao, .inl (cJ, 1, .inr (.inl (fun _ => 0))))])) (av := [.ref o, .int x1, .int x2, .ref ao]) (sz := sz) (lv := [(0, .ref o), (1, .int x1), (2, .int x2), (3, .ref ao)]) (Qc := fun A => wQi (1) D ((xW o u cI cZ cJ) ++ [(ao, .inl (cJ, 1, .inr (.inl (fun _ => 0))))]) A) (by decide) (Nat.le_of_ble_eq_true rfl) rfl ?_
  intro p e s m args below meth c ls A H S hr hlocks htab hl hK hP hD hS hA hB hC
  have hx := S.1
  have hb := S.2.1
  refine lv_aload_n hx hb dL_with_0 rfl (lv_at hl 3 rfl) ?_
  refine lv_iconst (v := 0) hx hb dL_with_1 (by decide) ?_
  refine lv_aload_n hx hb dL_with_2 rfl (lv_at hl 0 rfl) ?_
  refine lv_iload_n hx hb dL_with_3 rfl (lv_at hl 1 rfl) ?_
  refine lv_iload_n hx hb dL_with_4 rfl (lv_at hl 2 rfl) ?_
  refine cVi [] [(ao, .inl (cJ, 1, .inr (.inl (fun _ => 0))))] (As := [.int x1, .int x2]) (ci := 8) S (c_X8_with_0 l D cI cZ cJ o u hst ra ga H.size x1 x2 hi_x1) mi_X8_with kw_6_134 rfl rfl ⟨Nat.le_of_ble_eq_true rfl, Nat.le_of_ble_eq_true rfl⟩ hP hD hK hS hA hB xW_0 rfl rfl hl.1 (Nat.le_of_ble_eq_true rfl) ⟨Nat.le_of_ble_eq_true rfl, Nat.le_of_ble_eq_true rfl⟩ dL_with_5 (fun ce q9 H locs hz hP hD hS hce hcv hcl => ?_)
  refine vx_catch (name := "java/lang/IllegalArgumentException") S.2.2.2.1 [] (⟨0, 10, 13, 15⟩ : ExceptionTableEntry) [(⟨0, 10, 17, 17⟩ : ExceptionTableEntry)] (htab.trans rfl) (fun _ h => absurd h List.not_mem_nil) (by decide) (by decide) (S.2.2.2.2 _ kw_5_177) (va_Nw.use rfl hB.c1) hce hcv hcl ?_
  have hP : va_P D vwCl ((xW o u cI cZ cJ) ++ [(ao, .inl (cJ, 1, .inr (.inl (fun _ => 0))))]) H := hP
  have hD : va_D A ((xW o u cI cZ cJ) ++ [(ao, .inl (cJ, 1, .inr (.inl (fun _ => 0))))]) := hD
  refine lv_astore (lv' := [(4, .ref q9), (0, .ref o), (1, .int x1), (2, .int x2), (3, .ref ao)]) hx hb dL_with_13 hl (by decide) rfl (fun ls hl => ?_)
  refine lv_iconst (v := 1) hx hb dL_with_15 (by decide) ?_
  exact vx_ret (wEnd S hr hlocks hP hD hS (Nat.le_of_ble_eq_true rfl) (Nat.le_of_ble_eq_true rfl) dL_with_16 rfl)

set_option maxHeartbeats 8000000 in
set_option maxRecDepth 100000 in
theorem c_X9_with_0 (l : Launch) (D : va_G) (cI cZ cJ : ClassId) (o : Nat) (q : Nat → Nat) (sz : Nat) (x1 : Int32) (x2 : Int32) (hi_x1 : x1 ≤ (-1)) : Met l yX9_with (uW yX9_with cX9_with 3 (some .int)) ({ frames := 1, cells := 0, slots := 0, locals := 22 }) (va_Pc [.ref o, .int x1, .int x2] (wS D (tyL cI cZ cJ) (mW o 0 q cI cZ) sz)) (wQi (0) D (mW o 1 q cI cZ) (va_A (mW o 0 q cI cZ) sz)) 0 0 (va_A (mW o 0 q cI cZ) sz) := by
  refine wStart (lv := [(0, .ref o), (1, .int x1), (2, .int x2)]) (Qc := fun A => wQi (0) D (mW o 1 q cI cZ) A) (by decide) (Nat.le_of_ble_eq_true rfl) rfl ?_
  intro p e s m args below meth c ls A H S hr hlocks hnm hl hK hP hD hS hA
  have hx := S.1
  have hb := S.2.1
  refine lv_aload_n hx hb dX9_with_0 rfl (lv_at hl 0 rfl) ?_
  refine lv_iconst (v := 0) hx hb dX9_with_1 (by decide) ?_
  refine xp (ci := 9) (v := .int 0) S inX9 tyX9 tyX9_ok nmX9 rfl hK hP hD hS mW_0 0 (by decide) kw_6_148 rfl rfl rfl rfl (Nat.le_of_ble_eq_true rfl) dX9_with_2 (fun H locs hP hD hS => ?_)
  have hP : va_P D vwCl (mW o 0 q cI cZ) H := hP
  have hD : va_D A (mW o 0 q cI cZ) := hD
  refine lv_iload_n hx hb dX9_with_5 rfl (lv_at hl 1 rfl) ?_
  refine lv_iconst (v := 0) hx hb dX9_with_6 (by decide) ?_
  refine lv_bipush (v := 7) hx hb dX9_with_7 (by decide) ?_
  refine rdS (As := [.int x1, .int 0, .int 7]) S (c_X9_isIn_70 l D cI cZ cJ o q x1 hi_x1) ms_X9_isIn kw_7_101 ⟨rfl, rfl⟩ ⟨Nat.le_of_ble_eq_true rfl, Nat.le_of_ble_eq_true rfl⟩ hP hK hl.1 (Nat.le_of_ble_eq_true rfl) ⟨Nat.le_of_ble_eq_true rfl, Nat.le_of_ble_eq_true rfl⟩ dX9_with_9 ?_
  refine lv_if_eq (tgt := 24) hx hb dX9_with_12 (by decide) (fun _ => ?_) (fun c => absurd c (by decide))
  refine lv_aload_n hx hb dX9_with_24 rfl (lv_at hl 0 rfl) ?_
  refine lv_iconst (v := 1) hx hb dX9_with_25 (by decide) ?_
  refine wrV (As := [.int 1]) (ci := 9) S (c_X9_no_0 l D cI cZ cJ o q H.size) mi_X9_no kw_7_104 rfl rfl ⟨Nat.le_of_ble_eq_true rfl, Nat.le_of_ble_eq_true rfl⟩ hP hD hK hS hA mW_0 rfl rfl hl.1 (Nat.le_of_ble_eq_true rfl) ⟨Nat.le_of_ble_eq_true rfl, Nat.le_of_ble_eq_true rfl⟩ dX9_with_26 (fun H locs hz hP hD hS => ?_)
  exact wEnd S hr hlocks hP hD hS (Nat.le_of_ble_eq_true rfl) (Nat.le_of_ble_eq_true rfl) dX9_with_29 rfl

set_option maxHeartbeats 8000000 in
set_option maxRecDepth 100000 in
theorem h_with_1 (l : Launch) (D : va_G) (cI cZ cJ : ClassId) (o : Nat) (u : Nat → Nat) (ao : Nat) (hst : l.stackTraces = false) (ra ga : Nat → Nat) (sz : Nat) (x1 : Int32) (x2 : Int32) (lo_x1 : 8 ≤ x1) : vx_Met l yL_with (uWh yL_with cL_with 5 (some .int) [(0, 10, 13, 15), (0, 10, 17, 17)]) ({ frames := 8, cells := 1, slots := 6, locals := 124 }) (va_Pc [.ref o, .int x1, .int x2, .ref ao] (lS ra ga D (tyL cI cZ cJ) ((xW o u cI cZ cJ) ++ [(ao, .inl (cJ, 1, .inr (.inl (fun _ => 0))))]) sz)) (wQi (1) D ((xW o u cI cZ cJ) ++ [(ao, .inl (cJ, 1, .inr (.inl (fun _ => 0))))]) (va_A ((xW o u cI cZ cJ) ++ [(ao, .inl (cJ, 1, .inr (.inl (fun _ => 0))))]) sz)) (xN (va_A ((xW o u cI cZ cJ) ++ [(ao, .inl (cJ, 1, .inr (.inl (fun _ => 0))))]) sz)) 1 6 (va_A ((xW o u cI cZ cJ) ++ [(ao, .inl (cJ, 1, .inr (.inl (fun _ => 0))))]) sz) := by
  refine hStart (l := l) (y := yL_with) (b := cL_with) (n := 5) (r := (some .int)) (hh := [(0, 10, 13, 15), (0, 10, 17, 17)]) (rm := ({ frames := 8, cells := 1, slots := 6, locals := 124 })) (mc := 1) (ms := 6) (ra := ra) (ga := ga) (D := D) (tys := tyL cI cZ cJ) (ws := ((xW o u cI cZ cJ) ++ [(ao, .inl (cJ, 1, .inr (.inl (fun _ => 0))))])) (av := [.ref o, .int x1, .int x2, .ref ao]) (sz := sz) (lv := [(0, .ref o), (1, .int x1), (2, .int x2), (3, .ref ao)]) (Qc := fun A => wQi (1) D ((xW o u cI cZ cJ) ++ [(ao, .inl (cJ, 1, .inr (.inl (fun _ => 0))))]) A) (by decide) (Nat.le_of_ble_eq_true rfl) rfl ?_
  intro p e s m args below meth c ls A H S hr hlocks htab hl hK hP hD hS hA hB hC
  have hx := S.1
  have hb := S.2.1
  refine lv_aload_n hx hb dL_with_0 rfl (lv_at hl 3 rfl) ?_
  refine lv_iconst (v := 0) hx hb dL_with_1 (by decide) ?_
  refine lv_aload_n hx hb dL_with_2 rfl (lv_at hl 0 rfl) ?_
  refine lv_iload_n hx hb dL_with_3 rfl (lv_at hl 1 rfl) ?_
  refine lv_iload_n hx hb dL_with_4 rfl (lv_at hl 2 rfl) ?_
  refine cVi [] [(ao, .inl (cJ, 1, .inr (.inl (fun _ => 0))))] (As := [.int x1, .int x2]) (ci := 8) S (c_X8_with_1 l D cI cZ cJ o u hst ra ga H.size x1 x2 lo_x1) mi_X8_with kw_6_134 rfl rfl ⟨Nat.le_of_ble_eq_true rfl, Nat.le_of_ble_eq_true rfl⟩ hP hD hK hS hA hB xW_0 rfl rfl hl.1 (Nat.le_of_ble_eq_true rfl) ⟨Nat.le_of_ble_eq_true rfl, Nat.le_of_ble_eq_true rfl⟩ dL_with_5 (fun ce q9 H locs hz hP hD hS hce hcv hcl => ?_)
  refine vx_catch (name := "java/lang/IllegalArgumentException") S.2.2.2.1 [] (⟨0, 10, 13, 15⟩ : ExceptionTableEntry) [(⟨0, 10, 17, 17⟩ : ExceptionTableEntry)] (htab.trans rfl) (fun _ h => absurd h List.not_mem_nil) (by decide) (by decide) (S.2.2.2.2 _ kw_5_177) (va_Nw.use rfl hB.c1) hce hcv hcl ?_
  have hP : va_P D vwCl ((xW o u cI cZ cJ) ++ [(ao, .inl (cJ, 1, .inr (.inl (fun _ => 0))))]) H := hP
  have hD : va_D A ((xW o u cI cZ cJ) ++ [(ao, .inl (cJ, 1, .inr (.inl (fun _ => 0))))]) := hD
  refine lv_astore (lv' := [(4, .ref q9), (0, .ref o), (1, .int x1), (2, .int x2), (3, .ref ao)]) hx hb dL_with_13 hl (by decide) rfl (fun ls hl => ?_)
  refine lv_iconst (v := 1) hx hb dL_with_15 (by decide) ?_
  exact vx_ret (wEnd S hr hlocks hP hD hS (Nat.le_of_ble_eq_true rfl) (Nat.le_of_ble_eq_true rfl) dL_with_16 rfl)

set_option maxHeartbeats 8000000 in
set_option maxRecDepth 100000 in
theorem c_X9_with_1 (l : Launch) (D : va_G) (cI cZ cJ : ClassId) (o : Nat) (q : Nat → Nat) (sz : Nat) (x1 : Int32) (x2 : Int32) (lo_x1 : 8 ≤ x1) : Met l yX9_with (uW yX9_with cX9_with 3 (some .int)) ({ frames := 1, cells := 0, slots := 0, locals := 22 }) (va_Pc [.ref o, .int x1, .int x2] (wS D (tyL cI cZ cJ) (mW o 0 q cI cZ) sz)) (wQi (0) D (mW o 1 q cI cZ) (va_A (mW o 0 q cI cZ) sz)) 0 0 (va_A (mW o 0 q cI cZ) sz) := by
  refine wStart (lv := [(0, .ref o), (1, .int x1), (2, .int x2)]) (Qc := fun A => wQi (0) D (mW o 1 q cI cZ) A) (by decide) (Nat.le_of_ble_eq_true rfl) rfl ?_
  intro p e s m args below meth c ls A H S hr hlocks hnm hl hK hP hD hS hA
  have hx := S.1
  have hb := S.2.1
  refine lv_aload_n hx hb dX9_with_0 rfl (lv_at hl 0 rfl) ?_
  refine lv_iconst (v := 0) hx hb dX9_with_1 (by decide) ?_
  refine xp (ci := 9) (v := .int 0) S inX9 tyX9 tyX9_ok nmX9 rfl hK hP hD hS mW_0 0 (by decide) kw_6_148 rfl rfl rfl rfl (Nat.le_of_ble_eq_true rfl) dX9_with_2 (fun H locs hP hD hS => ?_)
  have hP : va_P D vwCl (mW o 0 q cI cZ) H := hP
  have hD : va_D A (mW o 0 q cI cZ) := hD
  refine lv_iload_n hx hb dX9_with_5 rfl (lv_at hl 1 rfl) ?_
  refine lv_iconst (v := 0) hx hb dX9_with_6 (by decide) ?_
  refine lv_bipush (v := 7) hx hb dX9_with_7 (by decide) ?_
  refine rdS (As := [.int x1, .int 0, .int 7]) S (c_X9_isIn_71 l D cI cZ cJ o q x1 lo_x1) ms_X9_isIn kw_7_101 ⟨rfl, rfl⟩ ⟨Nat.le_of_ble_eq_true rfl, Nat.le_of_ble_eq_true rfl⟩ hP hK hl.1 (Nat.le_of_ble_eq_true rfl) ⟨Nat.le_of_ble_eq_true rfl, Nat.le_of_ble_eq_true rfl⟩ dX9_with_9 ?_
  refine lv_if_eq (tgt := 24) hx hb dX9_with_12 (by decide) (fun _ => ?_) (fun c => absurd c (by decide))
  refine lv_aload_n hx hb dX9_with_24 rfl (lv_at hl 0 rfl) ?_
  refine lv_iconst (v := 1) hx hb dX9_with_25 (by decide) ?_
  refine wrV (As := [.int 1]) (ci := 9) S (c_X9_no_0 l D cI cZ cJ o q H.size) mi_X9_no kw_7_104 rfl rfl ⟨Nat.le_of_ble_eq_true rfl, Nat.le_of_ble_eq_true rfl⟩ hP hD hK hS hA mW_0 rfl rfl hl.1 (Nat.le_of_ble_eq_true rfl) ⟨Nat.le_of_ble_eq_true rfl, Nat.le_of_ble_eq_true rfl⟩ dX9_with_26 (fun H locs hz hP hD hS => ?_)
  exact wEnd S hr hlocks hP hD hS (Nat.le_of_ble_eq_true rfl) (Nat.le_of_ble_eq_true rfl) dX9_with_29 rfl

set_option maxHeartbeats 8000000 in
set_option maxRecDepth 100000 in
theorem h_with_2 (l : Launch) (D : va_G) (cI cZ cJ : ClassId) (o : Nat) (u : Nat → Nat) (ao : Nat) (hst : l.stackTraces = false) (ra ga : Nat → Nat) (sz : Nat) (x1 : Int32) (x2 : Int32) (lo_x1 : 0 ≤ x1) (hi_x1 : x1 ≤ 7) (hi_x2 : x2 ≤ (-1)) : vx_Met l yL_with (uWh yL_with cL_with 5 (some .int) [(0, 10, 13, 15), (0, 10, 17, 17)]) ({ frames := 8, cells := 1, slots := 6, locals := 124 }) (va_Pc [.ref o, .int x1, .int x2, .ref ao] (lS ra ga D (tyL cI cZ cJ) ((xW o u cI cZ cJ) ++ [(ao, .inl (cJ, 1, .inr (.inl (fun _ => 0))))]) sz)) (wQi (1) D ((xW o u cI cZ cJ) ++ [(ao, .inl (cJ, 1, .inr (.inl (fun _ => 0))))]) (va_A ((xW o u cI cZ cJ) ++ [(ao, .inl (cJ, 1, .inr (.inl (fun _ => 0))))]) sz)) (xN (va_A ((xW o u cI cZ cJ) ++ [(ao, .inl (cJ, 1, .inr (.inl (fun _ => 0))))]) sz)) 1 6 (va_A ((xW o u cI cZ cJ) ++ [(ao, .inl (cJ, 1, .inr (.inl (fun _ => 0))))]) sz) := by
  refine hStart (l := l) (y := yL_with) (b := cL_with) (n := 5) (r := (some .int)) (hh := [(0, 10, 13, 15), (0, 10, 17, 17)]) (rm := ({ frames := 8, cells := 1, slots := 6, locals := 124 })) (mc := 1) (ms := 6) (ra := ra) (ga := ga) (D := D) (tys := tyL cI cZ cJ) (ws := ((xW o u cI cZ cJ) ++ [(ao, .inl (cJ, 1, .inr (.inl (fun _ => 0))))])) (av := [.ref o, .int x1, .int x2, .ref ao]) (sz := sz) (lv := [(0, .ref o), (1, .int x1), (2, .int x2), (3, .ref ao)]) (Qc := fun A => wQi (1) D ((xW o u cI cZ cJ) ++ [(ao, .inl (cJ, 1, .inr (.inl (fun _ => 0))))]) A) (by decide) (Nat.le_of_ble_eq_true rfl) rfl ?_
  intro p e s m args below meth c ls A H S hr hlocks htab hl hK hP hD hS hA hB hC
  have hx := S.1
  have hb := S.2.1
  refine lv_aload_n hx hb dL_with_0 rfl (lv_at hl 3 rfl) ?_
  refine lv_iconst (v := 0) hx hb dL_with_1 (by decide) ?_
  refine lv_aload_n hx hb dL_with_2 rfl (lv_at hl 0 rfl) ?_
  refine lv_iload_n hx hb dL_with_3 rfl (lv_at hl 1 rfl) ?_
  refine lv_iload_n hx hb dL_with_4 rfl (lv_at hl 2 rfl) ?_
  refine cVi [] [(ao, .inl (cJ, 1, .inr (.inl (fun _ => 0))))] (As := [.int x1, .int x2]) (ci := 8) S (c_X8_with_2 l D cI cZ cJ o u hst ra ga H.size x1 x2 lo_x1 hi_x1 hi_x2) mi_X8_with kw_6_134 rfl rfl ⟨Nat.le_of_ble_eq_true rfl, Nat.le_of_ble_eq_true rfl⟩ hP hD hK hS hA hB xW_0 rfl rfl hl.1 (Nat.le_of_ble_eq_true rfl) ⟨Nat.le_of_ble_eq_true rfl, Nat.le_of_ble_eq_true rfl⟩ dL_with_5 (fun ce q9 H locs hz hP hD hS hce hcv hcl => ?_)
  refine vx_catch (name := "java/lang/IllegalArgumentException") S.2.2.2.1 [] (⟨0, 10, 13, 15⟩ : ExceptionTableEntry) [(⟨0, 10, 17, 17⟩ : ExceptionTableEntry)] (htab.trans rfl) (fun _ h => absurd h List.not_mem_nil) (by decide) (by decide) (S.2.2.2.2 _ kw_5_177) (va_Nw.use rfl hB.c1) hce hcv hcl ?_
  have hP : va_P D vwCl ((xW o u cI cZ cJ) ++ [(ao, .inl (cJ, 1, .inr (.inl (fun _ => 0))))]) H := hP
  have hD : va_D A ((xW o u cI cZ cJ) ++ [(ao, .inl (cJ, 1, .inr (.inl (fun _ => 0))))]) := hD
  refine lv_astore (lv' := [(4, .ref q9), (0, .ref o), (1, .int x1), (2, .int x2), (3, .ref ao)]) hx hb dL_with_13 hl (by decide) rfl (fun ls hl => ?_)
  refine lv_iconst (v := 1) hx hb dL_with_15 (by decide) ?_
  exact vx_ret (wEnd S hr hlocks hP hD hS (Nat.le_of_ble_eq_true rfl) (Nat.le_of_ble_eq_true rfl) dL_with_16 rfl)

set_option maxHeartbeats 8000000 in
set_option maxRecDepth 100000 in
theorem c_X9_isIn_97 (l : Launch) (D : va_G) (cI cZ cJ : ClassId) (o : Nat) (q : Nat → Nat) (x2 : Int32) (hi_x2 : x2 ≤ (-1)) : Met l yX9_isIn (uW yX9_isIn cX9_isIn 3 (some .boolean)) ({ frames := 0, cells := 0, slots := 0, locals := 0 }) (va_Pc [.int x2, .int 0, .int 2] (pS D (tyL cI cZ cJ) (mW o 0 q cI cZ))) (QcRead (0)) 0 0 (fun _ => False) := by
  refine rdStart (lv := [(0, .int x2), (1, .int 0), (2, .int 2)]) (by decide) (Nat.le_of_ble_eq_true rfl) rfl ?_
  intro p e s m args below meth c ls S hr hlocks hl hP hK
  have hx := S.1
  have hb := S.2.1
  refine lv_iload_n hx hb dX9_isIn_0 rfl (lv_at hl 0 rfl) ?_
  refine lv_iload_n hx hb dX9_isIn_1 rfl (lv_at hl 1 rfl) ?_
  refine lv_icmp_lt (tgt := 14) hx hb dX9_isIn_2 (by decide) (fun _ => ?_) (fun c => absurd (b_lt hi_x2 (by decide)) c)
  refine lv_iconst (v := 0) hx hb dX9_isIn_14 (by decide) ?_
  exact rdEndZ S hr hlocks dX9_isIn_15 rfl rfl

set_option maxHeartbeats 8000000 in
set_option maxRecDepth 100000 in
theorem c_X9_with_2 (l : Launch) (D : va_G) (cI cZ cJ : ClassId) (o : Nat) (q : Nat → Nat) (sz : Nat) (x1 : Int32) (x2 : Int32) (lo_x1 : 0 ≤ x1) (hi_x1 : x1 ≤ 7) (hi_x2 : x2 ≤ (-1)) : Met l yX9_with (uW yX9_with cX9_with 3 (some .int)) ({ frames := 1, cells := 0, slots := 0, locals := 22 }) (va_Pc [.ref o, .int x1, .int x2] (wS D (tyL cI cZ cJ) (mW o 0 q cI cZ) sz)) (wQi (0) D (mW o 1 q cI cZ) (va_A (mW o 0 q cI cZ) sz)) 0 0 (va_A (mW o 0 q cI cZ) sz) := by
  refine wStart (lv := [(0, .ref o), (1, .int x1), (2, .int x2)]) (Qc := fun A => wQi (0) D (mW o 1 q cI cZ) A) (by decide) (Nat.le_of_ble_eq_true rfl) rfl ?_
  intro p e s m args below meth c ls A H S hr hlocks hnm hl hK hP hD hS hA
  have hx := S.1
  have hb := S.2.1
  refine lv_aload_n hx hb dX9_with_0 rfl (lv_at hl 0 rfl) ?_
  refine lv_iconst (v := 0) hx hb dX9_with_1 (by decide) ?_
  refine xp (ci := 9) (v := .int 0) S inX9 tyX9 tyX9_ok nmX9 rfl hK hP hD hS mW_0 0 (by decide) kw_6_148 rfl rfl rfl rfl (Nat.le_of_ble_eq_true rfl) dX9_with_2 (fun H locs hP hD hS => ?_)
  have hP : va_P D vwCl (mW o 0 q cI cZ) H := hP
  have hD : va_D A (mW o 0 q cI cZ) := hD
  refine lv_iload_n hx hb dX9_with_5 rfl (lv_at hl 1 rfl) ?_
  refine lv_iconst (v := 0) hx hb dX9_with_6 (by decide) ?_
  refine lv_bipush (v := 7) hx hb dX9_with_7 (by decide) ?_
  refine rdS (As := [.int x1, .int 0, .int 7]) S (c_X9_isIn_72 l D cI cZ cJ o q x1 lo_x1 hi_x1) ms_X9_isIn kw_7_101 ⟨rfl, rfl⟩ ⟨Nat.le_of_ble_eq_true rfl, Nat.le_of_ble_eq_true rfl⟩ hP hK hl.1 (Nat.le_of_ble_eq_true rfl) ⟨Nat.le_of_ble_eq_true rfl, Nat.le_of_ble_eq_true rfl⟩ dX9_with_9 ?_
  refine lv_if_eq (tgt := 24) hx hb dX9_with_12 (by decide) (fun c => absurd c (by decide)) (fun _ => ?_)
  refine lv_iload_n hx hb dX9_with_15 rfl (lv_at hl 2 rfl) ?_
  refine lv_iconst (v := 0) hx hb dX9_with_16 (by decide) ?_
  refine lv_iconst (v := 2) hx hb dX9_with_17 (by decide) ?_
  refine rdS (As := [.int x2, .int 0, .int 2]) S (c_X9_isIn_97 l D cI cZ cJ o q x2 hi_x2) ms_X9_isIn kw_7_101 ⟨rfl, rfl⟩ ⟨Nat.le_of_ble_eq_true rfl, Nat.le_of_ble_eq_true rfl⟩ hP hK hl.1 (Nat.le_of_ble_eq_true rfl) ⟨Nat.le_of_ble_eq_true rfl, Nat.le_of_ble_eq_true rfl⟩ dX9_with_18 ?_
  refine lv_if_ne (tgt := 30) hx hb dX9_with_21 (by decide) (fun c => absurd c (by decide)) (fun _ => ?_)
  refine lv_aload_n hx hb dX9_with_24 rfl (lv_at hl 0 rfl) ?_
  refine lv_iconst (v := 1) hx hb dX9_with_25 (by decide) ?_
  refine wrV (As := [.int 1]) (ci := 9) S (c_X9_no_0 l D cI cZ cJ o q H.size) mi_X9_no kw_7_104 rfl rfl ⟨Nat.le_of_ble_eq_true rfl, Nat.le_of_ble_eq_true rfl⟩ hP hD hK hS hA mW_0 rfl rfl hl.1 (Nat.le_of_ble_eq_true rfl) ⟨Nat.le_of_ble_eq_true rfl, Nat.le_of_ble_eq_true rfl⟩ dX9_with_26 (fun H locs hz hP hD hS => ?_)
  exact wEnd S hr hlocks hP hD hS (Nat.le_of_ble_eq_true rfl) (Nat.le_of_ble_eq_true rfl) dX9_with_29 rfl

set_option maxHeartbeats 8000000 in
set_option maxRecDepth 100000 in
theorem h_with_3 (l : Launch) (D : va_G) (cI cZ cJ : ClassId) (o : Nat) (u : Nat → Nat) (ao : Nat) (hst : l.stackTraces = false) (ra ga : Nat → Nat) (sz : Nat) (x1 : Int32) (x2 : Int32) (lo_x1 : 0 ≤ x1) (hi_x1 : x1 ≤ 7) (lo_x2 : 3 ≤ x2) : vx_Met l yL_with (uWh yL_with cL_with 5 (some .int) [(0, 10, 13, 15), (0, 10, 17, 17)]) ({ frames := 8, cells := 1, slots := 6, locals := 124 }) (va_Pc [.ref o, .int x1, .int x2, .ref ao] (lS ra ga D (tyL cI cZ cJ) ((xW o u cI cZ cJ) ++ [(ao, .inl (cJ, 1, .inr (.inl (fun _ => 0))))]) sz)) (wQi (1) D ((xW o u cI cZ cJ) ++ [(ao, .inl (cJ, 1, .inr (.inl (fun _ => 0))))]) (va_A ((xW o u cI cZ cJ) ++ [(ao, .inl (cJ, 1, .inr (.inl (fun _ => 0))))]) sz)) (xN (va_A ((xW o u cI cZ cJ) ++ [(ao, .inl (cJ, 1, .inr (.inl (fun _ => 0))))]) sz)) 1 6 (va_A ((xW o u cI cZ cJ) ++ [(ao, .inl (cJ, 1, .inr (.inl (fun _ => 0))))]) sz) := by
  refine hStart (l := l) (y := yL_with) (b := cL_with) (n := 5) (r := (some .int)) (hh := [(0, 10, 13, 15), (0, 10, 17, 17)]) (rm := ({ frames := 8, cells := 1, slots := 6, locals := 124 })) (mc := 1) (ms := 6) (ra := ra) (ga := ga) (D := D) (tys := tyL cI cZ cJ) (ws := ((xW o u cI cZ cJ) ++ [(ao, .inl (cJ, 1, .inr (.inl (fun _ => 0))))])) (av := [.ref o, .int x1, .int x2, .ref ao]) (sz := sz) (lv := [(0, .ref o), (1, .int x1), (2, .int x2), (3, .ref ao)]) (Qc := fun A => wQi (1) D ((xW o u cI cZ cJ) ++ [(ao, .inl (cJ, 1, .inr (.inl (fun _ => 0))))]) A) (by decide) (Nat.le_of_ble_eq_true rfl) rfl ?_
  intro p e s m args below meth c ls A H S hr hlocks htab hl hK hP hD hS hA hB hC
  have hx := S.1
  have hb := S.2.1
  refine lv_aload_n hx hb dL_with_0 rfl (lv_at hl 3 rfl) ?_
  refine lv_iconst (v := 0) hx hb dL_with_1 (by decide) ?_
  refine lv_aload_n hx hb dL_with_2 rfl (lv_at hl 0 rfl) ?_
  refine lv_iload_n hx hb dL_with_3 rfl (lv_at hl 1 rfl) ?_
  refine lv_iload_n hx hb dL_with_4 rfl (lv_at hl 2 rfl) ?_
  refine cVi [] [(ao, .inl (cJ, 1, .inr (.inl (fun _ => 0))))] (As := [.int x1, .int x2]) (ci := 8) S (c_X8_with_3 l D cI cZ cJ o u hst ra ga H.size x1 x2 lo_x1 hi_x1 lo_x2) mi_X8_with kw_6_134 rfl rfl ⟨Nat.le_of_ble_eq_true rfl, Nat.le_of_ble_eq_true rfl⟩ hP hD hK hS hA hB xW_0 rfl rfl hl.1 (Nat.le_of_ble_eq_true rfl) ⟨Nat.le_of_ble_eq_true rfl, Nat.le_of_ble_eq_true rfl⟩ dL_with_5 (fun ce q9 H locs hz hP hD hS hce hcv hcl => ?_)
  refine vx_catch (name := "java/lang/IllegalArgumentException") S.2.2.2.1 [] (⟨0, 10, 13, 15⟩ : ExceptionTableEntry) [(⟨0, 10, 17, 17⟩ : ExceptionTableEntry)] (htab.trans rfl) (fun _ h => absurd h List.not_mem_nil) (by decide) (by decide) (S.2.2.2.2 _ kw_5_177) (va_Nw.use rfl hB.c1) hce hcv hcl ?_
  have hP : va_P D vwCl ((xW o u cI cZ cJ) ++ [(ao, .inl (cJ, 1, .inr (.inl (fun _ => 0))))]) H := hP
  have hD : va_D A ((xW o u cI cZ cJ) ++ [(ao, .inl (cJ, 1, .inr (.inl (fun _ => 0))))]) := hD
  refine lv_astore (lv' := [(4, .ref q9), (0, .ref o), (1, .int x1), (2, .int x2), (3, .ref ao)]) hx hb dL_with_13 hl (by decide) rfl (fun ls hl => ?_)
  refine lv_iconst (v := 1) hx hb dL_with_15 (by decide) ?_
  exact vx_ret (wEnd S hr hlocks hP hD hS (Nat.le_of_ble_eq_true rfl) (Nat.le_of_ble_eq_true rfl) dL_with_16 rfl)

set_option maxHeartbeats 8000000 in
set_option maxRecDepth 100000 in
theorem c_X9_isIn_98 (l : Launch) (D : va_G) (cI cZ cJ : ClassId) (o : Nat) (q : Nat → Nat) (x2 : Int32) (lo_x2 : 3 ≤ x2) : Met l yX9_isIn (uW yX9_isIn cX9_isIn 3 (some .boolean)) ({ frames := 0, cells := 0, slots := 0, locals := 0 }) (va_Pc [.int x2, .int 0, .int 2] (pS D (tyL cI cZ cJ) (mW o 0 q cI cZ))) (QcRead (0)) 0 0 (fun _ => False) := by
  refine rdStart (lv := [(0, .int x2), (1, .int 0), (2, .int 2)]) (by decide) (Nat.le_of_ble_eq_true rfl) rfl ?_
  intro p e s m args below meth c ls S hr hlocks hl hP hK
  have hx := S.1
  have hb := S.2.1
  refine lv_iload_n hx hb dX9_isIn_0 rfl (lv_at hl 0 rfl) ?_
  refine lv_iload_n hx hb dX9_isIn_1 rfl (lv_at hl 1 rfl) ?_
  refine lv_icmp_lt (tgt := 14) hx hb dX9_isIn_2 (by decide) (fun c => absurd c (b_nlt lo_x2 (by decide))) (fun _ => ?_)
  refine lv_iload_n hx hb dX9_isIn_5 rfl (lv_at hl 0 rfl) ?_
  refine lv_iload_n hx hb dX9_isIn_6 rfl (lv_at hl 2 rfl) ?_
  refine lv_icmp_gt (tgt := 14) hx hb dX9_isIn_7 (by decide) (fun _ => ?_) (fun c => absurd (b_gt lo_x2 (by decide)) c)
  refine lv_iconst (v := 0) hx hb dX9_isIn_14 (by decide) ?_
  exact rdEndZ S hr hlocks dX9_isIn_15 rfl rfl

set_option maxHeartbeats 8000000 in
set_option maxRecDepth 100000 in
theorem c_X9_with_3 (l : Launch) (D : va_G) (cI cZ cJ : ClassId) (o : Nat) (q : Nat → Nat) (sz : Nat) (x1 : Int32) (x2 : Int32) (lo_x1 : 0 ≤ x1) (hi_x1 : x1 ≤ 7) (lo_x2 : 3 ≤ x2) : Met l yX9_with (uW yX9_with cX9_with 3 (some .int)) ({ frames := 1, cells := 0, slots := 0, locals := 22 }) (va_Pc [.ref o, .int x1, .int x2] (wS D (tyL cI cZ cJ) (mW o 0 q cI cZ) sz)) (wQi (0) D (mW o 1 q cI cZ) (va_A (mW o 0 q cI cZ) sz)) 0 0 (va_A (mW o 0 q cI cZ) sz) := by
  refine wStart (lv := [(0, .ref o), (1, .int x1), (2, .int x2)]) (Qc := fun A => wQi (0) D (mW o 1 q cI cZ) A) (by decide) (Nat.le_of_ble_eq_true rfl) rfl ?_
  intro p e s m args below meth c ls A H S hr hlocks hnm hl hK hP hD hS hA
  have hx := S.1
  have hb := S.2.1
  refine lv_aload_n hx hb dX9_with_0 rfl (lv_at hl 0 rfl) ?_
  refine lv_iconst (v := 0) hx hb dX9_with_1 (by decide) ?_
  refine xp (ci := 9) (v := .int 0) S inX9 tyX9 tyX9_ok nmX9 rfl hK hP hD hS mW_0 0 (by decide) kw_6_148 rfl rfl rfl rfl (Nat.le_of_ble_eq_true rfl) dX9_with_2 (fun H locs hP hD hS => ?_)
  have hP : va_P D vwCl (mW o 0 q cI cZ) H := hP
  have hD : va_D A (mW o 0 q cI cZ) := hD
  refine lv_iload_n hx hb dX9_with_5 rfl (lv_at hl 1 rfl) ?_
  refine lv_iconst (v := 0) hx hb dX9_with_6 (by decide) ?_
  refine lv_bipush (v := 7) hx hb dX9_with_7 (by decide) ?_
  refine rdS (As := [.int x1, .int 0, .int 7]) S (c_X9_isIn_72 l D cI cZ cJ o q x1 lo_x1 hi_x1) ms_X9_isIn kw_7_101 ⟨rfl, rfl⟩ ⟨Nat.le_of_ble_eq_true rfl, Nat.le_of_ble_eq_true rfl⟩ hP hK hl.1 (Nat.le_of_ble_eq_true rfl) ⟨Nat.le_of_ble_eq_true rfl, Nat.le_of_ble_eq_true rfl⟩ dX9_with_9 ?_
  refine lv_if_eq (tgt := 24) hx hb dX9_with_12 (by decide) (fun c => absurd c (by decide)) (fun _ => ?_)
  refine lv_iload_n hx hb dX9_with_15 rfl (lv_at hl 2 rfl) ?_
  refine lv_iconst (v := 0) hx hb dX9_with_16 (by decide) ?_
  refine lv_iconst (v := 2) hx hb dX9_with_17 (by decide) ?_
  refine rdS (As := [.int x2, .int 0, .int 2]) S (c_X9_isIn_98 l D cI cZ cJ o q x2 lo_x2) ms_X9_isIn kw_7_101 ⟨rfl, rfl⟩ ⟨Nat.le_of_ble_eq_true rfl, Nat.le_of_ble_eq_true rfl⟩ hP hK hl.1 (Nat.le_of_ble_eq_true rfl) ⟨Nat.le_of_ble_eq_true rfl, Nat.le_of_ble_eq_true rfl⟩ dX9_with_18 ?_
  refine lv_if_ne (tgt := 30) hx hb dX9_with_21 (by decide) (fun c => absurd c (by decide)) (fun _ => ?_)
  refine lv_aload_n hx hb dX9_with_24 rfl (lv_at hl 0 rfl) ?_
  refine lv_iconst (v := 1) hx hb dX9_with_25 (by decide) ?_
  refine wrV (As := [.int 1]) (ci := 9) S (c_X9_no_0 l D cI cZ cJ o q H.size) mi_X9_no kw_7_104 rfl rfl ⟨Nat.le_of_ble_eq_true rfl, Nat.le_of_ble_eq_true rfl⟩ hP hD hK hS hA mW_0 rfl rfl hl.1 (Nat.le_of_ble_eq_true rfl) ⟨Nat.le_of_ble_eq_true rfl, Nat.le_of_ble_eq_true rfl⟩ dX9_with_26 (fun H locs hz hP hD hS => ?_)
  exact wEnd S hr hlocks hP hD hS (Nat.le_of_ble_eq_true rfl) (Nat.le_of_ble_eq_true rfl) dX9_with_29 rfl

set_option maxHeartbeats 8000000 in
set_option maxRecDepth 100000 in
theorem h_with_4 (l : Launch) (D : va_G) (cI cZ cJ : ClassId) (o : Nat) (u : Nat → Nat) (ao : Nat) (hst : l.stackTraces = false) (ra ga : Nat → Nat) (sz : Nat) (x1 : Int32) (x2 : Int32) (lo_x1 : 0 ≤ x1) (hi_x1 : x1 ≤ 7) (lo_x2 : 0 ≤ x2) (hi_x2 : x2 ≤ 2) : vx_Met l yL_with (uWh yL_with cL_with 5 (some .int) [(0, 10, 13, 15), (0, 10, 17, 17)]) ({ frames := 8, cells := 1, slots := 6, locals := 124 }) (va_Pc [.ref o, .int x1, .int x2, .ref ao] (lS ra ga D (tyL cI cZ cJ) ((xW o u cI cZ cJ) ++ [(ao, .inl (cJ, 1, .inr (.inl (fun _ => 0))))]) sz)) (wQi (2) D ((((((((xW o u cI cZ cJ).set 0 (o, .inr (8, ((xF u).set 9 (.int 0))))).set 32 ((u 31), .inl (cZ, 10, .inl (upd (upd (upd (upd (upd (upd (upd (upd (upd (upd (fun _ => 0) (0 : Int32).toNatClampNeg 0) (1 : Int32).toNatClampNeg 0) (2 : Int32).toNatClampNeg 0) (3 : Int32).toNatClampNeg 0) (4 : Int32).toNatClampNeg 0) (5 : Int32).toNatClampNeg 0) (6 : Int32).toNatClampNeg 0) (7 : Int32).toNatClampNeg 0) (8 : Int32).toNatClampNeg 0) (9 : Int32).toNatClampNeg 0)))).set 34 ((u 33), .inr (2, ([.ref (u 0), .ref (u 12), .ref (u 19), .int 0, .ref (u 34), .ref (u 35), .ref (u 36), .ref (u 37), .int 0].set 3 (.int 1))))).set 35 ((u 34), .inl (cI, 120, .inl (upd (fun _ => 0) (0 : Int32).toNatClampNeg 10)))).set 36 ((u 35), .inl (cI, 120, .inl (upd (fun _ => 0) (0 : Int32).toNatClampNeg 0)))).set 37 ((u 36), .inl (cI, 120, .inl (upd (fun _ => 0) (0 : Int32).toNatClampNeg (-1))))) ++ [(ao, .inl (cJ, 1, .inr (.inl (fun _ => 0))))]) (va_A ((xW o u cI cZ cJ) ++ [(ao, .inl (cJ, 1, .inr (.inl (fun _ => 0))))]) sz)) (xN (va_A ((xW o u cI cZ cJ) ++ [(ao, .inl (cJ, 1, .inr (.inl (fun _ => 0))))]) sz)) 1 6 (va_A ((xW o u cI cZ cJ) ++ [(ao, .inl (cJ, 1, .inr (.inl (fun _ => 0))))]) sz) := by
  refine hStart (l := l) (y := yL_with) (b := cL_with) (n := 5) (r := (some .int)) (hh := [(0, 10, 13, 15), (0, 10, 17, 17)]) (rm := ({ frames := 8, cells := 1, slots := 6, locals := 124 })) (mc := 1) (ms := 6) (ra := ra) (ga := ga) (D := D) (tys := tyL cI cZ cJ) (ws := ((xW o u cI cZ cJ) ++ [(ao, .inl (cJ, 1, .inr (.inl (fun _ => 0))))])) (av := [.ref o, .int x1, .int x2, .ref ao]) (sz := sz) (lv := [(0, .ref o), (1, .int x1), (2, .int x2), (3, .ref ao)]) (Qc := fun A => wQi (2) D ((((((((xW o u cI cZ cJ).set 0 (o, .inr (8, ((xF u).set 9 (.int 0))))).set 32 ((u 31), .inl (cZ, 10, .inl (upd (upd (upd (upd (upd (upd (upd (upd (upd (upd (fun _ => 0) (0 : Int32).toNatClampNeg 0) (1 : Int32).toNatClampNeg 0) (2 : Int32).toNatClampNeg 0) (3 : Int32).toNatClampNeg 0) (4 : Int32).toNatClampNeg 0) (5 : Int32).toNatClampNeg 0) (6 : Int32).toNatClampNeg 0) (7 : Int32).toNatClampNeg 0) (8 : Int32).toNatClampNeg 0) (9 : Int32).toNatClampNeg 0)))).set 34 ((u 33), .inr (2, ([.ref (u 0), .ref (u 12), .ref (u 19), .int 0, .ref (u 34), .ref (u 35), .ref (u 36), .ref (u 37), .int 0].set 3 (.int 1))))).set 35 ((u 34), .inl (cI, 120, .inl (upd (fun _ => 0) (0 : Int32).toNatClampNeg 10)))).set 36 ((u 35), .inl (cI, 120, .inl (upd (fun _ => 0) (0 : Int32).toNatClampNeg 0)))).set 37 ((u 36), .inl (cI, 120, .inl (upd (fun _ => 0) (0 : Int32).toNatClampNeg (-1))))) ++ [(ao, .inl (cJ, 1, .inr (.inl (fun _ => 0))))]) A) (by decide) (Nat.le_of_ble_eq_true rfl) rfl ?_
  intro p e s m args below meth c ls A H S hr hlocks htab hl hK hP hD hS hA hB hC
  have hx := S.1
  have hb := S.2.1
  refine lv_aload_n hx hb dL_with_0 rfl (lv_at hl 3 rfl) ?_
  refine lv_iconst (v := 0) hx hb dL_with_1 (by decide) ?_
  refine lv_aload_n hx hb dL_with_2 rfl (lv_at hl 0 rfl) ?_
  refine lv_iload_n hx hb dL_with_3 rfl (lv_at hl 1 rfl) ?_
  refine lv_iload_n hx hb dL_with_4 rfl (lv_at hl 2 rfl) ?_
  refine cVi [] [(ao, .inl (cJ, 1, .inr (.inl (fun _ => 0))))] (As := [.int x1, .int x2]) (ci := 8) S (c_X8_with_4 l D cI cZ cJ o u hst ra ga H.size x1 x2 lo_x1 hi_x1 lo_x2 hi_x2) mi_X8_with kw_6_134 rfl rfl ⟨Nat.le_of_ble_eq_true rfl, Nat.le_of_ble_eq_true rfl⟩ hP hD hK hS hA hB xW_0 rfl rfl hl.1 (Nat.le_of_ble_eq_true rfl) ⟨Nat.le_of_ble_eq_true rfl, Nat.le_of_ble_eq_true rfl⟩ dL_with_5 (fun ce q9 H locs hz hP hD hS hce hcv hcl => ?_)
  refine vx_catch (name := "java/lang/IllegalStateException") S.2.2.2.1 [(⟨0, 10, 13, 15⟩ : ExceptionTableEntry)] (⟨0, 10, 17, 17⟩ : ExceptionTableEntry) [] (htab.trans rfl) (List.forall_mem_cons.mpr ⟨Or.inr ⟨by decide, "java/lang/IllegalArgumentException", S.2.2.2.2 _ kw_5_177, hC.2.2⟩, (fun _ h => absurd h List.not_mem_nil)⟩) (by decide) (by decide) (S.2.2.2.2 _ kw_5_178) (va_Nw.use rfl hB.c2) hce hcv hcl ?_
  have hP : va_P D vwCl ((((((((xW o u cI cZ cJ).set 0 (o, .inr (8, ((xF u).set 9 (.int 0))))).set 32 ((u 31), .inl (cZ, 10, .inl (upd (upd (upd (upd (upd (upd (upd (upd (upd (upd (fun _ => 0) (0 : Int32).toNatClampNeg 0) (1 : Int32).toNatClampNeg 0) (2 : Int32).toNatClampNeg 0) (3 : Int32).toNatClampNeg 0) (4 : Int32).toNatClampNeg 0) (5 : Int32).toNatClampNeg 0) (6 : Int32).toNatClampNeg 0) (7 : Int32).toNatClampNeg 0) (8 : Int32).toNatClampNeg 0) (9 : Int32).toNatClampNeg 0)))).set 34 ((u 33), .inr (2, ([.ref (u 0), .ref (u 12), .ref (u 19), .int 0, .ref (u 34), .ref (u 35), .ref (u 36), .ref (u 37), .int 0].set 3 (.int 1))))).set 35 ((u 34), .inl (cI, 120, .inl (upd (fun _ => 0) (0 : Int32).toNatClampNeg 10)))).set 36 ((u 35), .inl (cI, 120, .inl (upd (fun _ => 0) (0 : Int32).toNatClampNeg 0)))).set 37 ((u 36), .inl (cI, 120, .inl (upd (fun _ => 0) (0 : Int32).toNatClampNeg (-1))))) ++ [(ao, .inl (cJ, 1, .inr (.inl (fun _ => 0))))]) H := hP
  have hD : va_D A ((((((((xW o u cI cZ cJ).set 0 (o, .inr (8, ((xF u).set 9 (.int 0))))).set 32 ((u 31), .inl (cZ, 10, .inl (upd (upd (upd (upd (upd (upd (upd (upd (upd (upd (fun _ => 0) (0 : Int32).toNatClampNeg 0) (1 : Int32).toNatClampNeg 0) (2 : Int32).toNatClampNeg 0) (3 : Int32).toNatClampNeg 0) (4 : Int32).toNatClampNeg 0) (5 : Int32).toNatClampNeg 0) (6 : Int32).toNatClampNeg 0) (7 : Int32).toNatClampNeg 0) (8 : Int32).toNatClampNeg 0) (9 : Int32).toNatClampNeg 0)))).set 34 ((u 33), .inr (2, ([.ref (u 0), .ref (u 12), .ref (u 19), .int 0, .ref (u 34), .ref (u 35), .ref (u 36), .ref (u 37), .int 0].set 3 (.int 1))))).set 35 ((u 34), .inl (cI, 120, .inl (upd (fun _ => 0) (0 : Int32).toNatClampNeg 10)))).set 36 ((u 35), .inl (cI, 120, .inl (upd (fun _ => 0) (0 : Int32).toNatClampNeg 0)))).set 37 ((u 36), .inl (cI, 120, .inl (upd (fun _ => 0) (0 : Int32).toNatClampNeg (-1))))) ++ [(ao, .inl (cJ, 1, .inr (.inl (fun _ => 0))))]) := hD
  refine lv_astore (lv' := [(4, .ref q9), (0, .ref o), (1, .int x1), (2, .int x2), (3, .ref ao)]) hx hb dL_with_17 hl (by decide) rfl (fun ls hl => ?_)
  refine lv_iconst (v := 2) hx hb dL_with_19 (by decide) ?_
  exact vx_ret (wEnd S hr hlocks hP hD hS (Nat.le_of_ble_eq_true rfl) (Nat.le_of_ble_eq_true rfl) dL_with_20 rfl)

set_option maxHeartbeats 8000000 in
set_option maxRecDepth 100000 in
theorem c_X9_isIn_99 (l : Launch) (D : va_G) (cI cZ cJ : ClassId) (o : Nat) (q : Nat → Nat) (x2 : Int32) (lo_x2 : 0 ≤ x2) (hi_x2 : x2 ≤ 2) : Met l yX9_isIn (uW yX9_isIn cX9_isIn 3 (some .boolean)) ({ frames := 0, cells := 0, slots := 0, locals := 0 }) (va_Pc [.int x2, .int 0, .int 2] (pS D (tyL cI cZ cJ) (mW o 0 q cI cZ))) (QcRead (1)) 0 0 (fun _ => False) := by
  refine rdStart (lv := [(0, .int x2), (1, .int 0), (2, .int 2)]) (by decide) (Nat.le_of_ble_eq_true rfl) rfl ?_
  intro p e s m args below meth c ls S hr hlocks hl hP hK
  have hx := S.1
  have hb := S.2.1
  refine lv_iload_n hx hb dX9_isIn_0 rfl (lv_at hl 0 rfl) ?_
  refine lv_iload_n hx hb dX9_isIn_1 rfl (lv_at hl 1 rfl) ?_
  refine lv_icmp_lt (tgt := 14) hx hb dX9_isIn_2 (by decide) (fun c => absurd c (b_nlt lo_x2 (by decide))) (fun _ => ?_)
  refine lv_iload_n hx hb dX9_isIn_5 rfl (lv_at hl 0 rfl) ?_
  refine lv_iload_n hx hb dX9_isIn_6 rfl (lv_at hl 2 rfl) ?_
  refine lv_icmp_gt (tgt := 14) hx hb dX9_isIn_7 (by decide) (fun c => absurd c (b_ngt hi_x2 (by decide))) (fun _ => ?_)
  refine lv_iconst (v := 1) hx hb dX9_isIn_10 (by decide) ?_
  refine lv_goto (tgt := 15) hx hb dX9_isIn_11 (by decide) ?_
  exact rdEndZ S hr hlocks dX9_isIn_15 rfl rfl

set_option maxHeartbeats 8000000 in
set_option maxRecDepth 100000 in
theorem c_X9_with_4 (l : Launch) (D : va_G) (cI cZ cJ : ClassId) (o : Nat) (q : Nat → Nat) (sz : Nat) (x1 : Int32) (x2 : Int32) (lo_x1 : 0 ≤ x1) (hi_x1 : x1 ≤ 7) (lo_x2 : 0 ≤ x2) (hi_x2 : x2 ≤ 2) : Met l yX9_with (uW yX9_with cX9_with 3 (some .int)) ({ frames := 2, cells := 1, slots := 111, locals := 49 }) (va_Pc [.ref o, .int x1, .int x2] (wS D (tyL cI cZ cJ) (mW o 0 q cI cZ) sz)) (wQi (0) D (mW o 2 q cI cZ) (va_A (mW o 0 q cI cZ) sz)) 1 111 (va_A (mW o 0 q cI cZ) sz) := by
  refine wStart (lv := [(0, .ref o), (1, .int x1), (2, .int x2)]) (Qc := fun A => wQi (0) D (mW o 2 q cI cZ) A) (by decide) (Nat.le_of_ble_eq_true rfl) rfl ?_
  intro p e s m args below meth c ls A H S hr hlocks hnm hl hK hP hD hS hA
  have hx := S.1
  have hb := S.2.1
  refine lv_aload_n hx hb dX9_with_0 rfl (lv_at hl 0 rfl) ?_
  refine lv_iconst (v := 0) hx hb dX9_with_1 (by decide) ?_
  refine xp (ci := 9) (v := .int 0) S inX9 tyX9 tyX9_ok nmX9 rfl hK hP hD hS mW_0 0 (by decide) kw_6_148 rfl rfl rfl rfl (Nat.le_of_ble_eq_true rfl) dX9_with_2 (fun H locs hP hD hS => ?_)
  have hP : va_P D vwCl (mW o 0 q cI cZ) H := hP
  have hD : va_D A (mW o 0 q cI cZ) := hD
  refine lv_iload_n hx hb dX9_with_5 rfl (lv_at hl 1 rfl) ?_
  refine lv_iconst (v := 0) hx hb dX9_with_6 (by decide) ?_
  refine lv_bipush (v := 7) hx hb dX9_with_7 (by decide) ?_
  refine rdS (As := [.int x1, .int 0, .int 7]) S (c_X9_isIn_72 l D cI cZ cJ o q x1 lo_x1 hi_x1) ms_X9_isIn kw_7_101 ⟨rfl, rfl⟩ ⟨Nat.le_of_ble_eq_true rfl, Nat.le_of_ble_eq_true rfl⟩ hP hK hl.1 (Nat.le_of_ble_eq_true rfl) ⟨Nat.le_of_ble_eq_true rfl, Nat.le_of_ble_eq_true rfl⟩ dX9_with_9 ?_
  refine lv_if_eq (tgt := 24) hx hb dX9_with_12 (by decide) (fun c => absurd c (by decide)) (fun _ => ?_)
  refine lv_iload_n hx hb dX9_with_15 rfl (lv_at hl 2 rfl) ?_
  refine lv_iconst (v := 0) hx hb dX9_with_16 (by decide) ?_
  refine lv_iconst (v := 2) hx hb dX9_with_17 (by decide) ?_
  refine rdS (As := [.int x2, .int 0, .int 2]) S (c_X9_isIn_99 l D cI cZ cJ o q x2 lo_x2 hi_x2) ms_X9_isIn kw_7_101 ⟨rfl, rfl⟩ ⟨Nat.le_of_ble_eq_true rfl, Nat.le_of_ble_eq_true rfl⟩ hP hK hl.1 (Nat.le_of_ble_eq_true rfl) ⟨Nat.le_of_ble_eq_true rfl, Nat.le_of_ble_eq_true rfl⟩ dX9_with_18 ?_
  refine lv_if_ne (tgt := 30) hx hb dX9_with_21 (by decide) (fun _ => ?_) (fun c => absurd c (by decide))
  refine lv_aload_n hx hb dX9_with_30 rfl (lv_at hl 0 rfl) ?_
  refine wrV (As := []) (ci := 9) S (c_X9_faults_0 l D cI cZ cJ o q H.size) mi_X9_faults kw_7_230 rfl rfl ⟨Nat.le_of_ble_eq_true rfl, Nat.le_of_ble_eq_true rfl⟩ hP hD hK hS hA mW_0 rfl rfl hl.1 (Nat.le_of_ble_eq_true rfl) ⟨Nat.le_of_ble_eq_true rfl, Nat.le_of_ble_eq_true rfl⟩ dX9_with_31 (fun H locs hz hP hD hS => ?_)
  refine lv_if_le (tgt := 43) hx hb dX9_with_34 (by decide) (fun c => absurd c (by decide)) (fun _ => ?_)
  refine lv_aload_n hx hb dX9_with_37 rfl (lv_at hl 0 rfl) ?_
  refine lv_iconst (v := 2) hx hb dX9_with_38 (by decide) ?_
  refine wrV (As := [.int 2]) (ci := 9) S (c_X9_no_1 l D cI cZ cJ o q H.size) mi_X9_no kw_7_104 rfl rfl ⟨Nat.le_of_ble_eq_true rfl, Nat.le_of_ble_eq_true rfl⟩ hP hD hK hS hA mW_0 rfl rfl hl.1 (Nat.le_of_ble_eq_true rfl) ⟨Nat.le_of_ble_eq_true rfl, Nat.le_of_ble_eq_true rfl⟩ dX9_with_39 (fun H locs hz hP hD hS => ?_)
  exact wEnd S hr hlocks hP hD hS (Nat.le_of_ble_eq_true rfl) (Nat.le_of_ble_eq_true rfl) dX9_with_42 rfl

set_option maxHeartbeats 8000000 in
set_option maxRecDepth 100000 in
theorem c_X1_declares_1 (l : Launch) (D : va_G) (cI cZ cJ : ClassId) (o : Nat) (u : Nat → Nat) (x2 : Int32) (lo_x2 : 0 ≤ x2) (hi_x2 : x2 ≤ 15) : Met l yX1_declares (uW yX1_declares cX1_declares 3 (some .boolean)) ({ frames := 0, cells := 0, slots := 0, locals := 0 }) (va_Pc [.ref (u 0), .int 0, .int x2] (pS D (tyL cI cZ cJ) (((((((xW o u cI cZ cJ).set 0 (o, .inr (8, ((xF u).set 9 (.int 0))))).set 32 ((u 31), .inl (cZ, 10, .inl (upd (upd (upd (upd (upd (upd (upd (upd (upd (upd (fun _ => 0) (0 : Int32).toNatClampNeg 0) (1 : Int32).toNatClampNeg 0) (2 : Int32).toNatClampNeg 0) (3 : Int32).toNatClampNeg 0) (4 : Int32).toNatClampNeg 0) (5 : Int32).toNatClampNeg 0) (6 : Int32).toNatClampNeg 0) (7 : Int32).toNatClampNeg 0) (8 : Int32).toNatClampNeg 0) (9 : Int32).toNatClampNeg 0)))).set 34 ((u 33), .inr (2, ([.ref (u 0), .ref (u 12), .ref (u 19), .int 0, .ref (u 34), .ref (u 35), .ref (u 36), .ref (u 37), .int 0].set 3 (.int 1))))).set 35 ((u 34), .inl (cI, 120, .inl (upd (fun _ => 0) (0 : Int32).toNatClampNeg 10)))).set 36 ((u 35), .inl (cI, 120, .inl (upd (fun _ => 0) (0 : Int32).toNatClampNeg 0)))).set 37 ((u 36), .inl (cI, 120, .inl (upd (fun _ => 0) (0 : Int32).toNatClampNeg (-1))))))) (QcRead (0)) 0 0 (fun _ => False) := by
  refine rdStart (lv := [(0, .ref (u 0)), (1, .int 0), (2, .int x2)]) (by decide) (Nat.le_of_ble_eq_true rfl) rfl ?_
  intro p e s m args below meth c ls S hr hlocks hl hP hK
  have hx := S.1
  have hb := S.2.1
  refine lv_aload_n hx hb dX1_declares_0 rfl (lv_at hl 0 rfl) ?_
  refine xg (ci := 1) S inX1 rfl hK hP (q0 := 1) rfl 7 (by decide) rfl kw_1_61 rfl dX1_declares_1 ?_
  refine lv_iload_n hx hb dX1_declares_4 rfl (lv_at hl 1 rfl) ?_
  refine lv_bipush (v := 16) hx hb dX1_declares_5 (by decide) ?_
  refine ximul (v := 0) S dX1_declares_7 (by decide) ?_
  refine lv_iload_n hx hb dX1_declares_8 rfl (lv_at hl 2 rfl) ?_
  refine xiadd (v := x2) S dX1_declares_9 (Int32.zero_add _) ?_
  refine xiald (t0 := 0) (v := (-1)) S hK hP (q0 := 8) rfl rfl (b_in lo_x2 hi_x2 (by decide) (by decide)) rfl dX1_declares_10 ?_
  refine lv_iconst (v := (-1)) hx hb dX1_declares_11 (by decide) ?_
  refine lv_icmp_eq (tgt := 19) hx hb dX1_declares_12 (by decide) (fun _ => ?_) (fun c => absurd c (by decide))
  refine lv_iconst (v := 0) hx hb dX1_declares_19 (by decide) ?_
  exact rdEndZ S hr hlocks dX1_declares_20 rfl rfl

set_option maxHeartbeats 8000000 in
set_option maxRecDepth 100000 in
theorem c_X4_reaching_0 (l : Launch) (D : va_G) (cI cZ cJ : ClassId) (o : Nat) (u : Nat → Nat) (x2 : Int32) (lo_x2 : 0 ≤ x2) (hi_x2 : x2 ≤ 15) : Met l yX4_reaching (uW yX4_reaching cX4_reaching 6 (some .int)) ({ frames := 0, cells := 0, slots := 0, locals := 0 }) (va_Pc [.ref (u 19), .int 0, .int x2] (pS D (tyL cI cZ cJ) (((((((xW o u cI cZ cJ).set 0 (o, .inr (8, ((xF u).set 9 (.int 0))))).set 32 ((u 31), .inl (cZ, 10, .inl (upd (upd (upd (upd (upd (upd (upd (upd (upd (upd (fun _ => 0) (0 : Int32).toNatClampNeg 0) (1 : Int32).toNatClampNeg 0) (2 : Int32).toNatClampNeg 0) (3 : Int32).toNatClampNeg 0) (4 : Int32).toNatClampNeg 0) (5 : Int32).toNatClampNeg 0) (6 : Int32).toNatClampNeg 0) (7 : Int32).toNatClampNeg 0) (8 : Int32).toNatClampNeg 0) (9 : Int32).toNatClampNeg 0)))).set 34 ((u 33), .inr (2, ([.ref (u 0), .ref (u 12), .ref (u 19), .int 0, .ref (u 34), .ref (u 35), .ref (u 36), .ref (u 37), .int 0].set 3 (.int 1))))).set 35 ((u 34), .inl (cI, 120, .inl (upd (fun _ => 0) (0 : Int32).toNatClampNeg 10)))).set 36 ((u 35), .inl (cI, 120, .inl (upd (fun _ => 0) (0 : Int32).toNatClampNeg 0)))).set 37 ((u 36), .inl (cI, 120, .inl (upd (fun _ => 0) (0 : Int32).toNatClampNeg (-1))))))) (QcRead (0)) 0 0 (fun _ => False) := by
  refine rdStart (lv := [(0, .ref (u 19)), (1, .int 0), (2, .int x2)]) (by decide) (Nat.le_of_ble_eq_true rfl) rfl ?_
  intro p e s m args below meth c ls S hr hlocks hl hP hK
  have hx := S.1
  have hb := S.2.1
  refine lv_iconst (v := 0) hx hb dX4_reaching_0 (by decide) ?_
  refine lv_istore_n (lv' := [(3, .int 0), (0, .ref (u 19)), (1, .int 0), (2, .int x2)]) hx hb dX4_reaching_1 rfl hl (by decide) rfl (fun ls hl => ?_)
  refine lv_iconst (v := 0) hx hb dX4_reaching_2 (by decide) ?_
  refine lv_istore (lv' := [(4, .int 0), (3, .int 0), (0, .ref (u 19)), (1, .int 0), (2, .int x2)]) hx hb dX4_reaching_3 hl (by decide) rfl (fun ls hl => ?_)
  refine lv_iload hx hb dX4_reaching_5 (lv_at hl 0 rfl) ?_
  refine lv_aload_n hx hb dX4_reaching_7 rfl (lv_at hl 2 rfl) ?_
  refine xg (ci := 4) S inX4 rfl hK hP (q0 := 20) rfl 1 (by decide) rfl kw_1_159 rfl dX4_reaching_8 ?_
  refine xg (ci := 5) S inX5 rfl hK hP (q0 := 13) rfl 0 (by decide) rfl kw_1_108 rfl dX4_reaching_11 ?_
  refine lv_icmp_ge (tgt := 133) hx hb dX4_reaching_14 (by decide) (fun _ => ?_) (fun c => absurd c (by decide))
  refine lv_iload_n hx hb dX4_reaching_133 rfl (lv_at hl 1 rfl) ?_
  exact rdEnd S hr hlocks dX4_reaching_134 rfl

set_option maxHeartbeats 8000000 in
set_option maxRecDepth 100000 in
theorem c_X8_hiddenBy_0 (l : Launch) (D : va_G) (cI cZ cJ : ClassId) (o : Nat) (u : Nat → Nat) (hst : l.stackTraces = false) (ra ga : Nat → Nat) (sz : Nat) (x1 : Int32) (x2 : Int32) (hi_x1 : x1 ≤ (-1)) : vx_Met l yX8_hiddenBy (uW yX8_hiddenBy cX8_hiddenBy 3 (some .int)) ({ frames := 7, cells := 1, slots := 6, locals := 103 }) (va_Pc [.ref o, .int x1, .int x2] (aS ra ga D (tyL cI cZ cJ) (xW o u cI cZ cJ) sz)) (nQi (va_A (xW o u cI cZ cJ) sz)) (wX "java/lang/IndexOutOfBoundsException" D (xW o u cI cZ cJ) (va_A (xW o u cI cZ cJ) sz)) 1 6 (va_A (xW o u cI cZ cJ) sz) := by
  refine xStart (lv := [(0, .ref o), (1, .int x1), (2, .int x2)]) (Qc := fun A => nQi A) (XC := fun A => wX "java/lang/IndexOutOfBoundsException" D (xW o u cI cZ cJ) A) (by decide) (Nat.le_of_ble_eq_true rfl) rfl ?_
  intro p e s m args below meth c ls A H S hr hlocks hnm hl hK hP hD hS hA hB hnt
  have hx := S.1
  have hb := S.2.1
  refine lv_aload_n hx hb dX8_hiddenBy_0 rfl (lv_at hl 0 rfl) ?_
  refine lv_iload_n hx hb dX8_hiddenBy_1 rfl (lv_at hl 1 rfl) ?_
  exact tVv (As := [.int x1]) (ci := 8) S (c_X8_needProcedure_0 l D cI cZ cJ o u hst ra ga H.size x1 hi_x1) mi_X8_needProcedure kw_4_166 rfl rfl ⟨Nat.le_of_ble_eq_true rfl, Nat.le_of_ble_eq_true rfl⟩ hP hD hK hS hA hB xW_0 rfl rfl hl.1 (Nat.le_of_ble_eq_true rfl) ⟨Nat.le_of_ble_eq_true rfl, Nat.le_of_ble_eq_true rfl⟩ dX8_hiddenBy_2 hnt hlocks (Nat.le_of_ble_eq_true rfl) (Nat.le_of_ble_eq_true rfl)

set_option maxHeartbeats 8000000 in
set_option maxRecDepth 100000 in
theorem c_X8_hiddenBy_1 (l : Launch) (D : va_G) (cI cZ cJ : ClassId) (o : Nat) (u : Nat → Nat) (hst : l.stackTraces = false) (ra ga : Nat → Nat) (sz : Nat) (x1 : Int32) (x2 : Int32) (lo_x1 : 1 ≤ x1) : vx_Met l yX8_hiddenBy (uW yX8_hiddenBy cX8_hiddenBy 3 (some .int)) ({ frames := 7, cells := 1, slots := 6, locals := 103 }) (va_Pc [.ref o, .int x1, .int x2] (aS ra ga D (tyL cI cZ cJ) (xW o u cI cZ cJ) sz)) (nQi (va_A (xW o u cI cZ cJ) sz)) (wX "java/lang/IndexOutOfBoundsException" D (xW o u cI cZ cJ) (va_A (xW o u cI cZ cJ) sz)) 1 6 (va_A (xW o u cI cZ cJ) sz) := by
  refine xStart (lv := [(0, .ref o), (1, .int x1), (2, .int x2)]) (Qc := fun A => nQi A) (XC := fun A => wX "java/lang/IndexOutOfBoundsException" D (xW o u cI cZ cJ) A) (by decide) (Nat.le_of_ble_eq_true rfl) rfl ?_
  intro p e s m args below meth c ls A H S hr hlocks hnm hl hK hP hD hS hA hB hnt
  have hx := S.1
  have hb := S.2.1
  refine lv_aload_n hx hb dX8_hiddenBy_0 rfl (lv_at hl 0 rfl) ?_
  refine lv_iload_n hx hb dX8_hiddenBy_1 rfl (lv_at hl 1 rfl) ?_
  exact tVv (As := [.int x1]) (ci := 8) S (c_X8_needProcedure_1 l D cI cZ cJ o u hst ra ga H.size x1 lo_x1) mi_X8_needProcedure kw_4_166 rfl rfl ⟨Nat.le_of_ble_eq_true rfl, Nat.le_of_ble_eq_true rfl⟩ hP hD hK hS hA hB xW_0 rfl rfl hl.1 (Nat.le_of_ble_eq_true rfl) ⟨Nat.le_of_ble_eq_true rfl, Nat.le_of_ble_eq_true rfl⟩ dX8_hiddenBy_2 hnt hlocks (Nat.le_of_ble_eq_true rfl) (Nat.le_of_ble_eq_true rfl)

set_option maxHeartbeats 8000000 in
set_option maxRecDepth 100000 in
theorem c_X8_hiddenBy_2 (l : Launch) (D : va_G) (cI cZ cJ : ClassId) (o : Nat) (u : Nat → Nat) (hst : l.stackTraces = false) (ra ga : Nat → Nat) (sz : Nat) (x2 : Int32) (hi_x2 : x2 ≤ (-1)) : vx_Met l yX8_hiddenBy (uW yX8_hiddenBy cX8_hiddenBy 3 (some .int)) ({ frames := 7, cells := 1, slots := 6, locals := 102 }) (va_Pc [.ref o, .int 0, .int x2] (aS ra ga D (tyL cI cZ cJ) (xW o u cI cZ cJ) sz)) (nQi (va_A (xW o u cI cZ cJ) sz)) (wX "java/lang/IllegalArgumentException" D (xW o u cI cZ cJ) (va_A (xW o u cI cZ cJ) sz)) 1 6 (va_A (xW o u cI cZ cJ) sz) := by
  refine xStart (lv := [(0, .ref o), (1, .int 0), (2, .int x2)]) (Qc := fun A => nQi A) (XC := fun A => wX "java/lang/IllegalArgumentException" D (xW o u cI cZ cJ) A) (by decide) (Nat.le_of_ble_eq_true rfl) rfl ?_
  intro p e s m args below meth c ls A H S hr hlocks hnm hl hK hP hD hS hA hB hnt
  have hx := S.1
  have hb := S.2.1
  refine lv_aload_n hx hb dX8_hiddenBy_0 rfl (lv_at hl 0 rfl) ?_
  refine lv_iload_n hx hb dX8_hiddenBy_1 rfl (lv_at hl 1 rfl) ?_
  refine aVv (As := [.int 0]) (ci := 8) S (c_X8_needProcedure_2 l D cI cZ cJ o u ra ga H.size) mi_X8_needProcedure kw_4_166 rfl rfl ⟨Nat.le_of_ble_eq_true rfl, Nat.le_of_ble_eq_true rfl⟩ hP hD hK hS hA hB xW_0 rfl rfl hl.1 (Nat.le_of_ble_eq_true rfl) ⟨Nat.le_of_ble_eq_true rfl, Nat.le_of_ble_eq_true rfl⟩ dX8_hiddenBy_2 (fun H locs hz hP hD hS => ?_)
  refine lv_iload_n hx hb dX8_hiddenBy_5 rfl (lv_at hl 2 rfl) ?_
  refine rdS (As := [.int x2]) S (c_X8_isName_0 l D cI cZ cJ o u x2 hi_x2) ms_X8_isName kw_4_198 ⟨rfl, rfl⟩ ⟨Nat.le_of_ble_eq_true rfl, Nat.le_of_ble_eq_true rfl⟩ hP hK hl.1 (Nat.le_of_ble_eq_true rfl) ⟨Nat.le_of_ble_eq_true rfl, Nat.le_of_ble_eq_true rfl⟩ dX8_hiddenBy_6 ?_
  exact tSv (As := [.int 0]) S (c_X8_needArgument_0 l D cI cZ cJ o u hst ra ga H.size) ms_X8_needArgument kw_4_4 rfl rfl ⟨Nat.le_of_ble_eq_true rfl, Nat.le_of_ble_eq_true rfl⟩ hP hD hK hS hA hB hl.1 (Nat.le_of_ble_eq_true rfl) ⟨Nat.le_of_ble_eq_true rfl, Nat.le_of_ble_eq_true rfl⟩ dX8_hiddenBy_9 hnt hlocks (Nat.le_of_ble_eq_true rfl) (Nat.le_of_ble_eq_true rfl)

set_option maxHeartbeats 8000000 in
set_option maxRecDepth 100000 in
theorem c_X8_hiddenBy_3 (l : Launch) (D : va_G) (cI cZ cJ : ClassId) (o : Nat) (u : Nat → Nat) (hst : l.stackTraces = false) (ra ga : Nat → Nat) (sz : Nat) (x2 : Int32) (lo_x2 : 16 ≤ x2) : vx_Met l yX8_hiddenBy (uW yX8_hiddenBy cX8_hiddenBy 3 (some .int)) ({ frames := 7, cells := 1, slots := 6, locals := 102 }) (va_Pc [.ref o, .int 0, .int x2] (aS ra ga D (tyL cI cZ cJ) (xW o u cI cZ cJ) sz)) (nQi (va_A (xW o u cI cZ cJ) sz)) (wX "java/lang/IllegalArgumentException" D (xW o u cI cZ cJ) (va_A (xW o u cI cZ cJ) sz)) 1 6 (va_A (xW o u cI cZ cJ) sz) := by
  refine xStart (lv := [(0, .ref o), (1, .int 0), (2, .int x2)]) (Qc := fun A => nQi A) (XC := fun A => wX "java/lang/IllegalArgumentException" D (xW o u cI cZ cJ) A) (by decide) (Nat.le_of_ble_eq_true rfl) rfl ?_
  intro p e s m args below meth c ls A H S hr hlocks hnm hl hK hP hD hS hA hB hnt
  have hx := S.1
  have hb := S.2.1
  refine lv_aload_n hx hb dX8_hiddenBy_0 rfl (lv_at hl 0 rfl) ?_
  refine lv_iload_n hx hb dX8_hiddenBy_1 rfl (lv_at hl 1 rfl) ?_
  refine aVv (As := [.int 0]) (ci := 8) S (c_X8_needProcedure_2 l D cI cZ cJ o u ra ga H.size) mi_X8_needProcedure kw_4_166 rfl rfl ⟨Nat.le_of_ble_eq_true rfl, Nat.le_of_ble_eq_true rfl⟩ hP hD hK hS hA hB xW_0 rfl rfl hl.1 (Nat.le_of_ble_eq_true rfl) ⟨Nat.le_of_ble_eq_true rfl, Nat.le_of_ble_eq_true rfl⟩ dX8_hiddenBy_2 (fun H locs hz hP hD hS => ?_)
  refine lv_iload_n hx hb dX8_hiddenBy_5 rfl (lv_at hl 2 rfl) ?_
  refine rdS (As := [.int x2]) S (c_X8_isName_1 l D cI cZ cJ o u x2 lo_x2) ms_X8_isName kw_4_198 ⟨rfl, rfl⟩ ⟨Nat.le_of_ble_eq_true rfl, Nat.le_of_ble_eq_true rfl⟩ hP hK hl.1 (Nat.le_of_ble_eq_true rfl) ⟨Nat.le_of_ble_eq_true rfl, Nat.le_of_ble_eq_true rfl⟩ dX8_hiddenBy_6 ?_
  exact tSv (As := [.int 0]) S (c_X8_needArgument_0 l D cI cZ cJ o u hst ra ga H.size) ms_X8_needArgument kw_4_4 rfl rfl ⟨Nat.le_of_ble_eq_true rfl, Nat.le_of_ble_eq_true rfl⟩ hP hD hK hS hA hB hl.1 (Nat.le_of_ble_eq_true rfl) ⟨Nat.le_of_ble_eq_true rfl, Nat.le_of_ble_eq_true rfl⟩ dX8_hiddenBy_9 hnt hlocks (Nat.le_of_ble_eq_true rfl) (Nat.le_of_ble_eq_true rfl)

set_option maxHeartbeats 8000000 in
set_option maxRecDepth 100000 in
theorem c_X8_hiddenBy_4 (l : Launch) (D : va_G) (cI cZ cJ : ClassId) (o : Nat) (u : Nat → Nat) (ra ga : Nat → Nat) (sz : Nat) (x2 : Int32) (lo_x2 : 0 ≤ x2) (hi_x2 : x2 ≤ 15) : Met l yX8_hiddenBy (uW yX8_hiddenBy cX8_hiddenBy 3 (some .int)) ({ frames := 4, cells := 0, slots := 0, locals := 85 }) (va_Pc [.ref o, .int 0, .int x2] (aS ra ga D (tyL cI cZ cJ) (xW o u cI cZ cJ) sz)) (wQi (0) D (((((((xW o u cI cZ cJ).set 0 (o, .inr (8, ((xF u).set 9 (.int 0))))).set 32 ((u 31), .inl (cZ, 10, .inl (upd (upd (upd (upd (upd (upd (upd (upd (upd (upd (fun _ => 0) (0 : Int32).toNatClampNeg 0) (1 : Int32).toNatClampNeg 0) (2 : Int32).toNatClampNeg 0) (3 : Int32).toNatClampNeg 0) (4 : Int32).toNatClampNeg 0) (5 : Int32).toNatClampNeg 0) (6 : Int32).toNatClampNeg 0) (7 : Int32).toNatClampNeg 0) (8 : Int32).toNatClampNeg 0) (9 : Int32).toNatClampNeg 0)))).set 34 ((u 33), .inr (2, ([.ref (u 0), .ref (u 12), .ref (u 19), .int 0, .ref (u 34), .ref (u 35), .ref (u 36), .ref (u 37), .int 0].set 3 (.int 1))))).set 35 ((u 34), .inl (cI, 120, .inl (upd (fun _ => 0) (0 : Int32).toNatClampNeg 10)))).set 36 ((u 35), .inl (cI, 120, .inl (upd (fun _ => 0) (0 : Int32).toNatClampNeg 0)))).set 37 ((u 36), .inl (cI, 120, .inl (upd (fun _ => 0) (0 : Int32).toNatClampNeg (-1))))) (va_A (xW o u cI cZ cJ) sz)) 0 0 (va_A (xW o u cI cZ cJ) sz) := by
  refine aStart (lv := [(0, .ref o), (1, .int 0), (2, .int x2)]) (Qc := fun A => wQi (0) D (((((((xW o u cI cZ cJ).set 0 (o, .inr (8, ((xF u).set 9 (.int 0))))).set 32 ((u 31), .inl (cZ, 10, .inl (upd (upd (upd (upd (upd (upd (upd (upd (upd (upd (fun _ => 0) (0 : Int32).toNatClampNeg 0) (1 : Int32).toNatClampNeg 0) (2 : Int32).toNatClampNeg 0) (3 : Int32).toNatClampNeg 0) (4 : Int32).toNatClampNeg 0) (5 : Int32).toNatClampNeg 0) (6 : Int32).toNatClampNeg 0) (7 : Int32).toNatClampNeg 0) (8 : Int32).toNatClampNeg 0) (9 : Int32).toNatClampNeg 0)))).set 34 ((u 33), .inr (2, ([.ref (u 0), .ref (u 12), .ref (u 19), .int 0, .ref (u 34), .ref (u 35), .ref (u 36), .ref (u 37), .int 0].set 3 (.int 1))))).set 35 ((u 34), .inl (cI, 120, .inl (upd (fun _ => 0) (0 : Int32).toNatClampNeg 10)))).set 36 ((u 35), .inl (cI, 120, .inl (upd (fun _ => 0) (0 : Int32).toNatClampNeg 0)))).set 37 ((u 36), .inl (cI, 120, .inl (upd (fun _ => 0) (0 : Int32).toNatClampNeg (-1))))) A) (by decide) (Nat.le_of_ble_eq_true rfl) rfl ?_
  intro p e s m args below meth c ls A H S hr hlocks hnm hl hK hP hD hS hA hB
  have hx := S.1
  have hb := S.2.1
  refine lv_aload_n hx hb dX8_hiddenBy_0 rfl (lv_at hl 0 rfl) ?_
  refine lv_iload_n hx hb dX8_hiddenBy_1 rfl (lv_at hl 1 rfl) ?_
  refine aVv (As := [.int 0]) (ci := 8) S (c_X8_needProcedure_2 l D cI cZ cJ o u ra ga H.size) mi_X8_needProcedure kw_4_166 rfl rfl ⟨Nat.le_of_ble_eq_true rfl, Nat.le_of_ble_eq_true rfl⟩ hP hD hK hS hA hB xW_0 rfl rfl hl.1 (Nat.le_of_ble_eq_true rfl) ⟨Nat.le_of_ble_eq_true rfl, Nat.le_of_ble_eq_true rfl⟩ dX8_hiddenBy_2 (fun H locs hz hP hD hS => ?_)
  refine lv_iload_n hx hb dX8_hiddenBy_5 rfl (lv_at hl 2 rfl) ?_
  refine rdS (As := [.int x2]) S (c_X8_isName_2 l D cI cZ cJ o u x2 lo_x2 hi_x2) ms_X8_isName kw_4_198 ⟨rfl, rfl⟩ ⟨Nat.le_of_ble_eq_true rfl, Nat.le_of_ble_eq_true rfl⟩ hP hK hl.1 (Nat.le_of_ble_eq_true rfl) ⟨Nat.le_of_ble_eq_true rfl, Nat.le_of_ble_eq_true rfl⟩ dX8_hiddenBy_6 ?_
  refine aSv (As := [.int 1]) S (c_X8_needArgument_1 l D cI cZ cJ o u ra ga H.size) ms_X8_needArgument kw_4_4 rfl rfl ⟨Nat.le_of_ble_eq_true rfl, Nat.le_of_ble_eq_true rfl⟩ hP hD hK hS hA hB hl.1 (Nat.le_of_ble_eq_true rfl) ⟨Nat.le_of_ble_eq_true rfl, Nat.le_of_ble_eq_true rfl⟩ dX8_hiddenBy_9 (fun H locs hz hP hD hS => ?_)
  refine lv_aload_n hx hb dX8_hiddenBy_12 rfl (lv_at hl 0 rfl) ?_
  refine aVv (As := []) (ci := 8) S (c_X8_refresh_0 l D cI cZ cJ o u ra ga H.size) mi_X8_refresh kw_3_71 rfl rfl ⟨Nat.le_of_ble_eq_true rfl, Nat.le_of_ble_eq_true rfl⟩ hP hD hK hS hA hB xW_0 rfl rfl hl.1 (Nat.le_of_ble_eq_true rfl) ⟨Nat.le_of_ble_eq_true rfl, Nat.le_of_ble_eq_true rfl⟩ dX8_hiddenBy_13 (fun H locs hz hP hD hS => ?_)
  refine lv_aload_n hx hb dX8_hiddenBy_16 rfl (lv_at hl 0 rfl) ?_
  refine xg (ci := 8) S inX8 rfl hK hP (q0 := 0) rfl 0 (by decide) rfl kw_3_20 rfl dX8_hiddenBy_17 ?_
  refine lv_iload_n hx hb dX8_hiddenBy_20 rfl (lv_at hl 1 rfl) ?_
  refine lv_iload_n hx hb dX8_hiddenBy_21 rfl (lv_at hl 2 rfl) ?_
  refine rdV (As := [.int 0, .int x2]) (ci := 1) S (c_X1_declares_1 l D cI cZ cJ o u x2 lo_x2 hi_x2) mi_X1_declares kw_4_201 ⟨rfl, rfl⟩ ⟨Nat.le_of_ble_eq_true rfl, Nat.le_of_ble_eq_true rfl⟩ hP hK (k := 1) rfl rfl rfl hl.1 (Nat.le_of_ble_eq_true rfl) ⟨Nat.le_of_ble_eq_true rfl, Nat.le_of_ble_eq_true rfl⟩ dX8_hiddenBy_22 ?_
  refine lv_if_eq (tgt := 32) hx hb dX8_hiddenBy_25 (by decide) (fun _ => ?_) (fun c => absurd c (by decide))
  refine lv_aload_n hx hb dX8_hiddenBy_32 rfl (lv_at hl 0 rfl) ?_
  refine xg (ci := 8) S inX8 rfl hK hP (q0 := 0) rfl 2 (by decide) rfl kw_3_22 rfl dX8_hiddenBy_33 ?_
  refine lv_iload_n hx hb dX8_hiddenBy_36 rfl (lv_at hl 1 rfl) ?_
  refine lv_iload_n hx hb dX8_hiddenBy_37 rfl (lv_at hl 2 rfl) ?_
  refine rdV (As := [.int 0, .int x2]) (ci := 4) S (c_X4_reaching_0 l D cI cZ cJ o u x2 lo_x2 hi_x2) mi_X4_reaching kw_4_202 ⟨rfl, rfl⟩ ⟨Nat.le_of_ble_eq_true rfl, Nat.le_of_ble_eq_true rfl⟩ hP hK (k := 20) rfl rfl rfl hl.1 (Nat.le_of_ble_eq_true rfl) ⟨Nat.le_of_ble_eq_true rfl, Nat.le_of_ble_eq_true rfl⟩ dX8_hiddenBy_38 ?_
  exact wEnd S hr hlocks hP hD hS (Nat.le_of_ble_eq_true rfl) (Nat.le_of_ble_eq_true rfl) dX8_hiddenBy_41 rfl

set_option maxHeartbeats 8000000 in
set_option maxRecDepth 100000 in
theorem h_hiddenBy_0 (l : Launch) (D : va_G) (cI cZ cJ : ClassId) (o : Nat) (u : Nat → Nat) (ao : Nat) (hst : l.stackTraces = false) (ra ga : Nat → Nat) (sz : Nat) (x1 : Int32) (x2 : Int32) (hi_x1 : x1 ≤ (-1)) : vx_Met l yL_hiddenBy (uWh yL_hiddenBy cL_hiddenBy 5 (some .int) [(0, 10, 13, 13), (0, 10, 17, 15)]) ({ frames := 8, cells := 1, slots := 6, locals := 125 }) (va_Pc [.ref o, .int x1, .int x2, .ref ao] (lS ra ga D (tyL cI cZ cJ) ((xW o u cI cZ cJ) ++ [(ao, .inl (cJ, 1, .inr (.inl (fun _ => 0))))]) sz)) (wQi (1) D ((xW o u cI cZ cJ) ++ [(ao, .inl (cJ, 1, .inr (.inl (fun _ => 0))))]) (va_A ((xW o u cI cZ cJ) ++ [(ao, .inl (cJ, 1, .inr (.inl (fun _ => 0))))]) sz)) (xN (va_A ((xW o u cI cZ cJ) ++ [(ao, .inl (cJ, 1, .inr (.inl (fun _ => 0))))]) sz)) 1 6 (va_A ((xW o u cI cZ cJ) ++ [(ao, .inl (cJ, 1, .inr (.inl (fun _ => 0))))]) sz) := by
  refine hStart (l := l) (y := yL_hiddenBy) (b := cL_hiddenBy) (n := 5) (r := (some .int)) (hh := [(0, 10, 13, 13), (0, 10, 17, 15)]) (rm := ({ frames := 8, cells := 1, slots := 6, locals := 125 })) (mc := 1) (ms := 6) (ra := ra) (ga := ga) (D := D) (tys := tyL cI cZ cJ) (ws := ((xW o u cI cZ cJ) ++ [(ao, .inl (cJ, 1, .inr (.inl (fun _ => 0))))])) (av := [.ref o, .int x1, .int x2, .ref ao]) (sz := sz) (lv := [(0, .ref o), (1, .int x1), (2, .int x2), (3, .ref ao)]) (Qc := fun A => wQi (1) D ((xW o u cI cZ cJ) ++ [(ao, .inl (cJ, 1, .inr (.inl (fun _ => 0))))]) A) (by decide) (Nat.le_of_ble_eq_true rfl) rfl ?_
  intro p e s m args below meth c ls A H S hr hlocks htab hl hK hP hD hS hA hB hC
  have hx := S.1
  have hb := S.2.1
  refine lv_aload_n hx hb dL_hiddenBy_0 rfl (lv_at hl 3 rfl) ?_
  refine lv_iconst (v := 0) hx hb dL_hiddenBy_1 (by decide) ?_
  refine lv_aload_n hx hb dL_hiddenBy_2 rfl (lv_at hl 0 rfl) ?_
  refine lv_iload_n hx hb dL_hiddenBy_3 rfl (lv_at hl 1 rfl) ?_
  refine lv_iload_n hx hb dL_hiddenBy_4 rfl (lv_at hl 2 rfl) ?_
  refine cVi [] [(ao, .inl (cJ, 1, .inr (.inl (fun _ => 0))))] (As := [.int x1, .int x2]) (ci := 8) S (c_X8_hiddenBy_0 l D cI cZ cJ o u hst ra ga H.size x1 x2 hi_x1) mi_X8_hiddenBy kw_6_141 rfl rfl ⟨Nat.le_of_ble_eq_true rfl, Nat.le_of_ble_eq_true rfl⟩ hP hD hK hS hA hB xW_0 rfl rfl hl.1 (Nat.le_of_ble_eq_true rfl) ⟨Nat.le_of_ble_eq_true rfl, Nat.le_of_ble_eq_true rfl⟩ dL_hiddenBy_5 (fun ce q9 H locs hz hP hD hS hce hcv hcl => ?_)
  refine vx_catch (name := "java/lang/IndexOutOfBoundsException") S.2.2.2.1 [] (⟨0, 10, 13, 13⟩ : ExceptionTableEntry) [(⟨0, 10, 17, 15⟩ : ExceptionTableEntry)] (htab.trans rfl) (fun _ h => absurd h List.not_mem_nil) (by decide) (by decide) (S.2.2.2.2 _ kw_5_176) (va_Nw.use rfl hB.c0) hce hcv hcl ?_
  have hP : va_P D vwCl ((xW o u cI cZ cJ) ++ [(ao, .inl (cJ, 1, .inr (.inl (fun _ => 0))))]) H := hP
  have hD : va_D A ((xW o u cI cZ cJ) ++ [(ao, .inl (cJ, 1, .inr (.inl (fun _ => 0))))]) := hD
  refine lv_astore (lv' := [(4, .ref q9), (0, .ref o), (1, .int x1), (2, .int x2), (3, .ref ao)]) hx hb dL_hiddenBy_13 hl (by decide) rfl (fun ls hl => ?_)
  refine lv_iconst (v := 1) hx hb dL_hiddenBy_15 (by decide) ?_
  exact vx_ret (wEnd S hr hlocks hP hD hS (Nat.le_of_ble_eq_true rfl) (Nat.le_of_ble_eq_true rfl) dL_hiddenBy_16 rfl)

set_option maxHeartbeats 8000000 in
set_option maxRecDepth 100000 in
theorem c_X9_hiddenBy_0 (l : Launch) (D : va_G) (cI cZ cJ : ClassId) (o : Nat) (q : Nat → Nat) (sz : Nat) (x1 : Int32) (x2 : Int32) (hi_x1 : x1 ≤ (-1)) : Met l yX9_hiddenBy (uW yX9_hiddenBy cX9_hiddenBy 3 (some .int)) ({ frames := 2, cells := 0, slots := 0, locals := 43 }) (va_Pc [.ref o, .int x1, .int x2] (wS D (tyL cI cZ cJ) (mW o 0 q cI cZ) sz)) (wQi (0) D (mW o 1 q cI cZ) (va_A (mW o 0 q cI cZ) sz)) 0 0 (va_A (mW o 0 q cI cZ) sz) := by
  refine wStart (lv := [(0, .ref o), (1, .int x1), (2, .int x2)]) (Qc := fun A => wQi (0) D (mW o 1 q cI cZ) A) (by decide) (Nat.le_of_ble_eq_true rfl) rfl ?_
  intro p e s m args below meth c ls A H S hr hlocks hnm hl hK hP hD hS hA
  have hx := S.1
  have hb := S.2.1
  refine lv_aload_n hx hb dX9_hiddenBy_0 rfl (lv_at hl 0 rfl) ?_
  refine lv_iconst (v := 0) hx hb dX9_hiddenBy_1 (by decide) ?_
  refine xp (ci := 9) (v := .int 0) S inX9 tyX9 tyX9_ok nmX9 rfl hK hP hD hS mW_0 0 (by decide) kw_6_148 rfl rfl rfl rfl (Nat.le_of_ble_eq_true rfl) dX9_hiddenBy_2 (fun H locs hP hD hS => ?_)
  have hP : va_P D vwCl (mW o 0 q cI cZ) H := hP
  have hD : va_D A (mW o 0 q cI cZ) := hD
  refine lv_aload_n hx hb dX9_hiddenBy_5 rfl (lv_at hl 0 rfl) ?_
  refine lv_iload_n hx hb dX9_hiddenBy_6 rfl (lv_at hl 1 rfl) ?_
  refine rdV (As := [.int x1]) (ci := 9) S (c_X9_isProcedure_0 l D cI cZ cJ o q x1 hi_x1) mi_X9_isProcedure kw_7_97 ⟨rfl, rfl⟩ ⟨Nat.le_of_ble_eq_true rfl, Nat.le_of_ble_eq_true rfl⟩ hP hK mW_0 rfl rfl hl.1 (Nat.le_of_ble_eq_true rfl) ⟨Nat.le_of_ble_eq_true rfl, Nat.le_of_ble_eq_true rfl⟩ dX9_hiddenBy_7 ?_
  refine lv_if_ne (tgt := 19) hx hb dX9_hiddenBy_10 (by decide) (fun c => absurd c (by decide)) (fun _ => ?_)
  refine lv_aload_n hx hb dX9_hiddenBy_13 rfl (lv_at hl 0 rfl) ?_
  refine lv_iconst (v := 1) hx hb dX9_hiddenBy_14 (by decide) ?_
  refine wrV (As := [.int 1]) (ci := 9) S (c_X9_no_0 l D cI cZ cJ o q H.size) mi_X9_no kw_7_104 rfl rfl ⟨Nat.le_of_ble_eq_true rfl, Nat.le_of_ble_eq_true rfl⟩ hP hD hK hS hA mW_0 rfl rfl hl.1 (Nat.le_of_ble_eq_true rfl) ⟨Nat.le_of_ble_eq_true rfl, Nat.le_of_ble_eq_true rfl⟩ dX9_hiddenBy_15 (fun H locs hz hP hD hS => ?_)
  exact wEnd S hr hlocks hP hD hS (Nat.le_of_ble_eq_true rfl) (Nat.le_of_ble_eq_true rfl) dX9_hiddenBy_18 rfl

set_option maxHeartbeats 8000000 in
set_option maxRecDepth 100000 in
theorem h_hiddenBy_1 (l : Launch) (D : va_G) (cI cZ cJ : ClassId) (o : Nat) (u : Nat → Nat) (ao : Nat) (hst : l.stackTraces = false) (ra ga : Nat → Nat) (sz : Nat) (x1 : Int32) (x2 : Int32) (lo_x1 : 1 ≤ x1) : vx_Met l yL_hiddenBy (uWh yL_hiddenBy cL_hiddenBy 5 (some .int) [(0, 10, 13, 13), (0, 10, 17, 15)]) ({ frames := 8, cells := 1, slots := 6, locals := 125 }) (va_Pc [.ref o, .int x1, .int x2, .ref ao] (lS ra ga D (tyL cI cZ cJ) ((xW o u cI cZ cJ) ++ [(ao, .inl (cJ, 1, .inr (.inl (fun _ => 0))))]) sz)) (wQi (1) D ((xW o u cI cZ cJ) ++ [(ao, .inl (cJ, 1, .inr (.inl (fun _ => 0))))]) (va_A ((xW o u cI cZ cJ) ++ [(ao, .inl (cJ, 1, .inr (.inl (fun _ => 0))))]) sz)) (xN (va_A ((xW o u cI cZ cJ) ++ [(ao, .inl (cJ, 1, .inr (.inl (fun _ => 0))))]) sz)) 1 6 (va_A ((xW o u cI cZ cJ) ++ [(ao, .inl (cJ, 1, .inr (.inl (fun _ => 0))))]) sz) := by
  refine hStart (l := l) (y := yL_hiddenBy) (b := cL_hiddenBy) (n := 5) (r := (some .int)) (hh := [(0, 10, 13, 13), (0, 10, 17, 15)]) (rm := ({ frames := 8, cells := 1, slots := 6, locals := 125 })) (mc := 1) (ms := 6) (ra := ra) (ga := ga) (D := D) (tys := tyL cI cZ cJ) (ws := ((xW o u cI cZ cJ) ++ [(ao, .inl (cJ, 1, .inr (.inl (fun _ => 0))))])) (av := [.ref o, .int x1, .int x2, .ref ao]) (sz := sz) (lv := [(0, .ref o), (1, .int x1), (2, .int x2), (3, .ref ao)]) (Qc := fun A => wQi (1) D ((xW o u cI cZ cJ) ++ [(ao, .inl (cJ, 1, .inr (.inl (fun _ => 0))))]) A) (by decide) (Nat.le_of_ble_eq_true rfl) rfl ?_
  intro p e s m args below meth c ls A H S hr hlocks htab hl hK hP hD hS hA hB hC
  have hx := S.1
  have hb := S.2.1
  refine lv_aload_n hx hb dL_hiddenBy_0 rfl (lv_at hl 3 rfl) ?_
  refine lv_iconst (v := 0) hx hb dL_hiddenBy_1 (by decide) ?_
  refine lv_aload_n hx hb dL_hiddenBy_2 rfl (lv_at hl 0 rfl) ?_
  refine lv_iload_n hx hb dL_hiddenBy_3 rfl (lv_at hl 1 rfl) ?_
  refine lv_iload_n hx hb dL_hiddenBy_4 rfl (lv_at hl 2 rfl) ?_
  refine cVi [] [(ao, .inl (cJ, 1, .inr (.inl (fun _ => 0))))] (As := [.int x1, .int x2]) (ci := 8) S (c_X8_hiddenBy_1 l D cI cZ cJ o u hst ra ga H.size x1 x2 lo_x1) mi_X8_hiddenBy kw_6_141 rfl rfl ⟨Nat.le_of_ble_eq_true rfl, Nat.le_of_ble_eq_true rfl⟩ hP hD hK hS hA hB xW_0 rfl rfl hl.1 (Nat.le_of_ble_eq_true rfl) ⟨Nat.le_of_ble_eq_true rfl, Nat.le_of_ble_eq_true rfl⟩ dL_hiddenBy_5 (fun ce q9 H locs hz hP hD hS hce hcv hcl => ?_)
  refine vx_catch (name := "java/lang/IndexOutOfBoundsException") S.2.2.2.1 [] (⟨0, 10, 13, 13⟩ : ExceptionTableEntry) [(⟨0, 10, 17, 15⟩ : ExceptionTableEntry)] (htab.trans rfl) (fun _ h => absurd h List.not_mem_nil) (by decide) (by decide) (S.2.2.2.2 _ kw_5_176) (va_Nw.use rfl hB.c0) hce hcv hcl ?_
  have hP : va_P D vwCl ((xW o u cI cZ cJ) ++ [(ao, .inl (cJ, 1, .inr (.inl (fun _ => 0))))]) H := hP
  have hD : va_D A ((xW o u cI cZ cJ) ++ [(ao, .inl (cJ, 1, .inr (.inl (fun _ => 0))))]) := hD
  refine lv_astore (lv' := [(4, .ref q9), (0, .ref o), (1, .int x1), (2, .int x2), (3, .ref ao)]) hx hb dL_hiddenBy_13 hl (by decide) rfl (fun ls hl => ?_)
  refine lv_iconst (v := 1) hx hb dL_hiddenBy_15 (by decide) ?_
  exact vx_ret (wEnd S hr hlocks hP hD hS (Nat.le_of_ble_eq_true rfl) (Nat.le_of_ble_eq_true rfl) dL_hiddenBy_16 rfl)

set_option maxHeartbeats 8000000 in
set_option maxRecDepth 100000 in
theorem c_X9_hiddenBy_1 (l : Launch) (D : va_G) (cI cZ cJ : ClassId) (o : Nat) (q : Nat → Nat) (sz : Nat) (x1 : Int32) (x2 : Int32) (lo_x1 : 1 ≤ x1) : Met l yX9_hiddenBy (uW yX9_hiddenBy cX9_hiddenBy 3 (some .int)) ({ frames := 2, cells := 0, slots := 0, locals := 43 }) (va_Pc [.ref o, .int x1, .int x2] (wS D (tyL cI cZ cJ) (mW o 0 q cI cZ) sz)) (wQi (0) D (mW o 1 q cI cZ) (va_A (mW o 0 q cI cZ) sz)) 0 0 (va_A (mW o 0 q cI cZ) sz) := by
  refine wStart (lv := [(0, .ref o), (1, .int x1), (2, .int x2)]) (Qc := fun A => wQi (0) D (mW o 1 q cI cZ) A) (by decide) (Nat.le_of_ble_eq_true rfl) rfl ?_
  intro p e s m args below meth c ls A H S hr hlocks hnm hl hK hP hD hS hA
  have hx := S.1
  have hb := S.2.1
  refine lv_aload_n hx hb dX9_hiddenBy_0 rfl (lv_at hl 0 rfl) ?_
  refine lv_iconst (v := 0) hx hb dX9_hiddenBy_1 (by decide) ?_
  refine xp (ci := 9) (v := .int 0) S inX9 tyX9 tyX9_ok nmX9 rfl hK hP hD hS mW_0 0 (by decide) kw_6_148 rfl rfl rfl rfl (Nat.le_of_ble_eq_true rfl) dX9_hiddenBy_2 (fun H locs hP hD hS => ?_)
  have hP : va_P D vwCl (mW o 0 q cI cZ) H := hP
  have hD : va_D A (mW o 0 q cI cZ) := hD
  refine lv_aload_n hx hb dX9_hiddenBy_5 rfl (lv_at hl 0 rfl) ?_
  refine lv_iload_n hx hb dX9_hiddenBy_6 rfl (lv_at hl 1 rfl) ?_
  refine rdV (As := [.int x1]) (ci := 9) S (c_X9_isProcedure_1 l D cI cZ cJ o q x1 lo_x1) mi_X9_isProcedure kw_7_97 ⟨rfl, rfl⟩ ⟨Nat.le_of_ble_eq_true rfl, Nat.le_of_ble_eq_true rfl⟩ hP hK mW_0 rfl rfl hl.1 (Nat.le_of_ble_eq_true rfl) ⟨Nat.le_of_ble_eq_true rfl, Nat.le_of_ble_eq_true rfl⟩ dX9_hiddenBy_7 ?_
  refine lv_if_ne (tgt := 19) hx hb dX9_hiddenBy_10 (by decide) (fun c => absurd c (by decide)) (fun _ => ?_)
  refine lv_aload_n hx hb dX9_hiddenBy_13 rfl (lv_at hl 0 rfl) ?_
  refine lv_iconst (v := 1) hx hb dX9_hiddenBy_14 (by decide) ?_
  refine wrV (As := [.int 1]) (ci := 9) S (c_X9_no_0 l D cI cZ cJ o q H.size) mi_X9_no kw_7_104 rfl rfl ⟨Nat.le_of_ble_eq_true rfl, Nat.le_of_ble_eq_true rfl⟩ hP hD hK hS hA mW_0 rfl rfl hl.1 (Nat.le_of_ble_eq_true rfl) ⟨Nat.le_of_ble_eq_true rfl, Nat.le_of_ble_eq_true rfl⟩ dX9_hiddenBy_15 (fun H locs hz hP hD hS => ?_)
  exact wEnd S hr hlocks hP hD hS (Nat.le_of_ble_eq_true rfl) (Nat.le_of_ble_eq_true rfl) dX9_hiddenBy_18 rfl

set_option maxHeartbeats 8000000 in
set_option maxRecDepth 100000 in
theorem h_hiddenBy_2 (l : Launch) (D : va_G) (cI cZ cJ : ClassId) (o : Nat) (u : Nat → Nat) (ao : Nat) (hst : l.stackTraces = false) (ra ga : Nat → Nat) (sz : Nat) (x2 : Int32) (hi_x2 : x2 ≤ (-1)) : vx_Met l yL_hiddenBy (uWh yL_hiddenBy cL_hiddenBy 5 (some .int) [(0, 10, 13, 13), (0, 10, 17, 15)]) ({ frames := 8, cells := 1, slots := 6, locals := 124 }) (va_Pc [.ref o, .int 0, .int x2, .ref ao] (lS ra ga D (tyL cI cZ cJ) ((xW o u cI cZ cJ) ++ [(ao, .inl (cJ, 1, .inr (.inl (fun _ => 0))))]) sz)) (wQi (2) D ((xW o u cI cZ cJ) ++ [(ao, .inl (cJ, 1, .inr (.inl (fun _ => 0))))]) (va_A ((xW o u cI cZ cJ) ++ [(ao, .inl (cJ, 1, .inr (.inl (fun _ => 0))))]) sz)) (xN (va_A ((xW o u cI cZ cJ) ++ [(ao, .inl (cJ, 1, .inr (.inl (fun _ => 0))))]) sz)) 1 6 (va_A ((xW o u cI cZ cJ) ++ [(ao, .inl (cJ, 1, .inr (.inl (fun _ => 0))))]) sz) := by
  refine hStart (l := l) (y := yL_hiddenBy) (b := cL_hiddenBy) (n := 5) (r := (some .int)) (hh := [(0, 10, 13, 13), (0, 10, 17, 15)]) (rm := ({ frames := 8, cells := 1, slots := 6, locals := 124 })) (mc := 1) (ms := 6) (ra := ra) (ga := ga) (D := D) (tys := tyL cI cZ cJ) (ws := ((xW o u cI cZ cJ) ++ [(ao, .inl (cJ, 1, .inr (.inl (fun _ => 0))))])) (av := [.ref o, .int 0, .int x2, .ref ao]) (sz := sz) (lv := [(0, .ref o), (1, .int 0), (2, .int x2), (3, .ref ao)]) (Qc := fun A => wQi (2) D ((xW o u cI cZ cJ) ++ [(ao, .inl (cJ, 1, .inr (.inl (fun _ => 0))))]) A) (by decide) (Nat.le_of_ble_eq_true rfl) rfl ?_
  intro p e s m args below meth c ls A H S hr hlocks htab hl hK hP hD hS hA hB hC
  have hx := S.1
  have hb := S.2.1
  refine lv_aload_n hx hb dL_hiddenBy_0 rfl (lv_at hl 3 rfl) ?_
  refine lv_iconst (v := 0) hx hb dL_hiddenBy_1 (by decide) ?_
  refine lv_aload_n hx hb dL_hiddenBy_2 rfl (lv_at hl 0 rfl) ?_
  refine lv_iload_n hx hb dL_hiddenBy_3 rfl (lv_at hl 1 rfl) ?_
  refine lv_iload_n hx hb dL_hiddenBy_4 rfl (lv_at hl 2 rfl) ?_
  refine cVi [] [(ao, .inl (cJ, 1, .inr (.inl (fun _ => 0))))] (As := [.int 0, .int x2]) (ci := 8) S (c_X8_hiddenBy_2 l D cI cZ cJ o u hst ra ga H.size x2 hi_x2) mi_X8_hiddenBy kw_6_141 rfl rfl ⟨Nat.le_of_ble_eq_true rfl, Nat.le_of_ble_eq_true rfl⟩ hP hD hK hS hA hB xW_0 rfl rfl hl.1 (Nat.le_of_ble_eq_true rfl) ⟨Nat.le_of_ble_eq_true rfl, Nat.le_of_ble_eq_true rfl⟩ dL_hiddenBy_5 (fun ce q9 H locs hz hP hD hS hce hcv hcl => ?_)
  refine vx_catch (name := "java/lang/IllegalArgumentException") S.2.2.2.1 [(⟨0, 10, 13, 13⟩ : ExceptionTableEntry)] (⟨0, 10, 17, 15⟩ : ExceptionTableEntry) [] (htab.trans rfl) (List.forall_mem_cons.mpr ⟨Or.inr ⟨by decide, "java/lang/IndexOutOfBoundsException", S.2.2.2.2 _ kw_5_176, hC.1⟩, (fun _ h => absurd h List.not_mem_nil)⟩) (by decide) (by decide) (S.2.2.2.2 _ kw_5_177) (va_Nw.use rfl hB.c1) hce hcv hcl ?_
  have hP : va_P D vwCl ((xW o u cI cZ cJ) ++ [(ao, .inl (cJ, 1, .inr (.inl (fun _ => 0))))]) H := hP
  have hD : va_D A ((xW o u cI cZ cJ) ++ [(ao, .inl (cJ, 1, .inr (.inl (fun _ => 0))))]) := hD
  refine lv_astore (lv' := [(4, .ref q9), (0, .ref o), (1, .int 0), (2, .int x2), (3, .ref ao)]) hx hb dL_hiddenBy_17 hl (by decide) rfl (fun ls hl => ?_)
  refine lv_iconst (v := 2) hx hb dL_hiddenBy_19 (by decide) ?_
  exact vx_ret (wEnd S hr hlocks hP hD hS (Nat.le_of_ble_eq_true rfl) (Nat.le_of_ble_eq_true rfl) dL_hiddenBy_20 rfl)

set_option maxHeartbeats 8000000 in
set_option maxRecDepth 100000 in
theorem c_X9_hiddenBy_2 (l : Launch) (D : va_G) (cI cZ cJ : ClassId) (o : Nat) (q : Nat → Nat) (sz : Nat) (x2 : Int32) (hi_x2 : x2 ≤ (-1)) : Met l yX9_hiddenBy (uW yX9_hiddenBy cX9_hiddenBy 3 (some .int)) ({ frames := 2, cells := 0, slots := 0, locals := 43 }) (va_Pc [.ref o, .int 0, .int x2] (wS D (tyL cI cZ cJ) (mW o 0 q cI cZ) sz)) (wQi (0) D (mW o 2 q cI cZ) (va_A (mW o 0 q cI cZ) sz)) 0 0 (va_A (mW o 0 q cI cZ) sz) := by
  refine wStart (lv := [(0, .ref o), (1, .int 0), (2, .int x2)]) (Qc := fun A => wQi (0) D (mW o 2 q cI cZ) A) (by decide) (Nat.le_of_ble_eq_true rfl) rfl ?_
  intro p e s m args below meth c ls A H S hr hlocks hnm hl hK hP hD hS hA
  have hx := S.1
  have hb := S.2.1
  refine lv_aload_n hx hb dX9_hiddenBy_0 rfl (lv_at hl 0 rfl) ?_
  refine lv_iconst (v := 0) hx hb dX9_hiddenBy_1 (by decide) ?_
  refine xp (ci := 9) (v := .int 0) S inX9 tyX9 tyX9_ok nmX9 rfl hK hP hD hS mW_0 0 (by decide) kw_6_148 rfl rfl rfl rfl (Nat.le_of_ble_eq_true rfl) dX9_hiddenBy_2 (fun H locs hP hD hS => ?_)
  have hP : va_P D vwCl (mW o 0 q cI cZ) H := hP
  have hD : va_D A (mW o 0 q cI cZ) := hD
  refine lv_aload_n hx hb dX9_hiddenBy_5 rfl (lv_at hl 0 rfl) ?_
  refine lv_iload_n hx hb dX9_hiddenBy_6 rfl (lv_at hl 1 rfl) ?_
  refine rdV (As := [.int 0]) (ci := 9) S (c_X9_isProcedure_2 l D cI cZ cJ o q) mi_X9_isProcedure kw_7_97 ⟨rfl, rfl⟩ ⟨Nat.le_of_ble_eq_true rfl, Nat.le_of_ble_eq_true rfl⟩ hP hK mW_0 rfl rfl hl.1 (Nat.le_of_ble_eq_true rfl) ⟨Nat.le_of_ble_eq_true rfl, Nat.le_of_ble_eq_true rfl⟩ dX9_hiddenBy_7 ?_
  refine lv_if_ne (tgt := 19) hx hb dX9_hiddenBy_10 (by decide) (fun _ => ?_) (fun c => absurd c (by decide))
  refine lv_iload_n hx hb dX9_hiddenBy_19 rfl (lv_at hl 2 rfl) ?_
  refine rdS (As := [.int x2]) S (c_X9_isName_0 l D cI cZ cJ o q x2 hi_x2) ms_X9_isName kw_7_108 ⟨rfl, rfl⟩ ⟨Nat.le_of_ble_eq_true rfl, Nat.le_of_ble_eq_true rfl⟩ hP hK hl.1 (Nat.le_of_ble_eq_true rfl) ⟨Nat.le_of_ble_eq_true rfl, Nat.le_of_ble_eq_true rfl⟩ dX9_hiddenBy_20 ?_
  refine lv_if_eq (tgt := 35) hx hb dX9_hiddenBy_23 (by decide) (fun _ => ?_) (fun c => absurd c (by decide))
  refine lv_aload_n hx hb dX9_hiddenBy_35 rfl (lv_at hl 0 rfl) ?_
  refine lv_iconst (v := 2) hx hb dX9_hiddenBy_36 (by decide) ?_
  refine wrV (As := [.int 2]) (ci := 9) S (c_X9_no_1 l D cI cZ cJ o q H.size) mi_X9_no kw_7_104 rfl rfl ⟨Nat.le_of_ble_eq_true rfl, Nat.le_of_ble_eq_true rfl⟩ hP hD hK hS hA mW_0 rfl rfl hl.1 (Nat.le_of_ble_eq_true rfl) ⟨Nat.le_of_ble_eq_true rfl, Nat.le_of_ble_eq_true rfl⟩ dX9_hiddenBy_37 (fun H locs hz hP hD hS => ?_)
  exact wEnd S hr hlocks hP hD hS (Nat.le_of_ble_eq_true rfl) (Nat.le_of_ble_eq_true rfl) dX9_hiddenBy_40 rfl

set_option maxHeartbeats 8000000 in
set_option maxRecDepth 100000 in
theorem h_hiddenBy_3 (l : Launch) (D : va_G) (cI cZ cJ : ClassId) (o : Nat) (u : Nat → Nat) (ao : Nat) (hst : l.stackTraces = false) (ra ga : Nat → Nat) (sz : Nat) (x2 : Int32) (lo_x2 : 16 ≤ x2) : vx_Met l yL_hiddenBy (uWh yL_hiddenBy cL_hiddenBy 5 (some .int) [(0, 10, 13, 13), (0, 10, 17, 15)]) ({ frames := 8, cells := 1, slots := 6, locals := 124 }) (va_Pc [.ref o, .int 0, .int x2, .ref ao] (lS ra ga D (tyL cI cZ cJ) ((xW o u cI cZ cJ) ++ [(ao, .inl (cJ, 1, .inr (.inl (fun _ => 0))))]) sz)) (wQi (2) D ((xW o u cI cZ cJ) ++ [(ao, .inl (cJ, 1, .inr (.inl (fun _ => 0))))]) (va_A ((xW o u cI cZ cJ) ++ [(ao, .inl (cJ, 1, .inr (.inl (fun _ => 0))))]) sz)) (xN (va_A ((xW o u cI cZ cJ) ++ [(ao, .inl (cJ, 1, .inr (.inl (fun _ => 0))))]) sz)) 1 6 (va_A ((xW o u cI cZ cJ) ++ [(ao, .inl (cJ, 1, .inr (.inl (fun _ => 0))))]) sz) := by
  refine hStart (l := l) (y := yL_hiddenBy) (b := cL_hiddenBy) (n := 5) (r := (some .int)) (hh := [(0, 10, 13, 13), (0, 10, 17, 15)]) (rm := ({ frames := 8, cells := 1, slots := 6, locals := 124 })) (mc := 1) (ms := 6) (ra := ra) (ga := ga) (D := D) (tys := tyL cI cZ cJ) (ws := ((xW o u cI cZ cJ) ++ [(ao, .inl (cJ, 1, .inr (.inl (fun _ => 0))))])) (av := [.ref o, .int 0, .int x2, .ref ao]) (sz := sz) (lv := [(0, .ref o), (1, .int 0), (2, .int x2), (3, .ref ao)]) (Qc := fun A => wQi (2) D ((xW o u cI cZ cJ) ++ [(ao, .inl (cJ, 1, .inr (.inl (fun _ => 0))))]) A) (by decide) (Nat.le_of_ble_eq_true rfl) rfl ?_
  intro p e s m args below meth c ls A H S hr hlocks htab hl hK hP hD hS hA hB hC
  have hx := S.1
  have hb := S.2.1
  refine lv_aload_n hx hb dL_hiddenBy_0 rfl (lv_at hl 3 rfl) ?_
  refine lv_iconst (v := 0) hx hb dL_hiddenBy_1 (by decide) ?_
  refine lv_aload_n hx hb dL_hiddenBy_2 rfl (lv_at hl 0 rfl) ?_
  refine lv_iload_n hx hb dL_hiddenBy_3 rfl (lv_at hl 1 rfl) ?_
  refine lv_iload_n hx hb dL_hiddenBy_4 rfl (lv_at hl 2 rfl) ?_
  refine cVi [] [(ao, .inl (cJ, 1, .inr (.inl (fun _ => 0))))] (As := [.int 0, .int x2]) (ci := 8) S (c_X8_hiddenBy_3 l D cI cZ cJ o u hst ra ga H.size x2 lo_x2) mi_X8_hiddenBy kw_6_141 rfl rfl ⟨Nat.le_of_ble_eq_true rfl, Nat.le_of_ble_eq_true rfl⟩ hP hD hK hS hA hB xW_0 rfl rfl hl.1 (Nat.le_of_ble_eq_true rfl) ⟨Nat.le_of_ble_eq_true rfl, Nat.le_of_ble_eq_true rfl⟩ dL_hiddenBy_5 (fun ce q9 H locs hz hP hD hS hce hcv hcl => ?_)
  refine vx_catch (name := "java/lang/IllegalArgumentException") S.2.2.2.1 [(⟨0, 10, 13, 13⟩ : ExceptionTableEntry)] (⟨0, 10, 17, 15⟩ : ExceptionTableEntry) [] (htab.trans rfl) (List.forall_mem_cons.mpr ⟨Or.inr ⟨by decide, "java/lang/IndexOutOfBoundsException", S.2.2.2.2 _ kw_5_176, hC.1⟩, (fun _ h => absurd h List.not_mem_nil)⟩) (by decide) (by decide) (S.2.2.2.2 _ kw_5_177) (va_Nw.use rfl hB.c1) hce hcv hcl ?_
  have hP : va_P D vwCl ((xW o u cI cZ cJ) ++ [(ao, .inl (cJ, 1, .inr (.inl (fun _ => 0))))]) H := hP
  have hD : va_D A ((xW o u cI cZ cJ) ++ [(ao, .inl (cJ, 1, .inr (.inl (fun _ => 0))))]) := hD
  refine lv_astore (lv' := [(4, .ref q9), (0, .ref o), (1, .int 0), (2, .int x2), (3, .ref ao)]) hx hb dL_hiddenBy_17 hl (by decide) rfl (fun ls hl => ?_)
  refine lv_iconst (v := 2) hx hb dL_hiddenBy_19 (by decide) ?_
  exact vx_ret (wEnd S hr hlocks hP hD hS (Nat.le_of_ble_eq_true rfl) (Nat.le_of_ble_eq_true rfl) dL_hiddenBy_20 rfl)

set_option maxHeartbeats 8000000 in
set_option maxRecDepth 100000 in
theorem c_X9_hiddenBy_3 (l : Launch) (D : va_G) (cI cZ cJ : ClassId) (o : Nat) (q : Nat → Nat) (sz : Nat) (x2 : Int32) (lo_x2 : 16 ≤ x2) : Met l yX9_hiddenBy (uW yX9_hiddenBy cX9_hiddenBy 3 (some .int)) ({ frames := 2, cells := 0, slots := 0, locals := 43 }) (va_Pc [.ref o, .int 0, .int x2] (wS D (tyL cI cZ cJ) (mW o 0 q cI cZ) sz)) (wQi (0) D (mW o 2 q cI cZ) (va_A (mW o 0 q cI cZ) sz)) 0 0 (va_A (mW o 0 q cI cZ) sz) := by
  refine wStart (lv := [(0, .ref o), (1, .int 0), (2, .int x2)]) (Qc := fun A => wQi (0) D (mW o 2 q cI cZ) A) (by decide) (Nat.le_of_ble_eq_true rfl) rfl ?_
  intro p e s m args below meth c ls A H S hr hlocks hnm hl hK hP hD hS hA
  have hx := S.1
  have hb := S.2.1
  refine lv_aload_n hx hb dX9_hiddenBy_0 rfl (lv_at hl 0 rfl) ?_
  refine lv_iconst (v := 0) hx hb dX9_hiddenBy_1 (by decide) ?_
  refine xp (ci := 9) (v := .int 0) S inX9 tyX9 tyX9_ok nmX9 rfl hK hP hD hS mW_0 0 (by decide) kw_6_148 rfl rfl rfl rfl (Nat.le_of_ble_eq_true rfl) dX9_hiddenBy_2 (fun H locs hP hD hS => ?_)
  have hP : va_P D vwCl (mW o 0 q cI cZ) H := hP
  have hD : va_D A (mW o 0 q cI cZ) := hD
  refine lv_aload_n hx hb dX9_hiddenBy_5 rfl (lv_at hl 0 rfl) ?_
  refine lv_iload_n hx hb dX9_hiddenBy_6 rfl (lv_at hl 1 rfl) ?_
  refine rdV (As := [.int 0]) (ci := 9) S (c_X9_isProcedure_2 l D cI cZ cJ o q) mi_X9_isProcedure kw_7_97 ⟨rfl, rfl⟩ ⟨Nat.le_of_ble_eq_true rfl, Nat.le_of_ble_eq_true rfl⟩ hP hK mW_0 rfl rfl hl.1 (Nat.le_of_ble_eq_true rfl) ⟨Nat.le_of_ble_eq_true rfl, Nat.le_of_ble_eq_true rfl⟩ dX9_hiddenBy_7 ?_
  refine lv_if_ne (tgt := 19) hx hb dX9_hiddenBy_10 (by decide) (fun _ => ?_) (fun c => absurd c (by decide))
  refine lv_iload_n hx hb dX9_hiddenBy_19 rfl (lv_at hl 2 rfl) ?_
  refine rdS (As := [.int x2]) S (c_X9_isName_1 l D cI cZ cJ o q x2 lo_x2) ms_X9_isName kw_7_108 ⟨rfl, rfl⟩ ⟨Nat.le_of_ble_eq_true rfl, Nat.le_of_ble_eq_true rfl⟩ hP hK hl.1 (Nat.le_of_ble_eq_true rfl) ⟨Nat.le_of_ble_eq_true rfl, Nat.le_of_ble_eq_true rfl⟩ dX9_hiddenBy_20 ?_
  refine lv_if_eq (tgt := 35) hx hb dX9_hiddenBy_23 (by decide) (fun _ => ?_) (fun c => absurd c (by decide))
  refine lv_aload_n hx hb dX9_hiddenBy_35 rfl (lv_at hl 0 rfl) ?_
  refine lv_iconst (v := 2) hx hb dX9_hiddenBy_36 (by decide) ?_
  refine wrV (As := [.int 2]) (ci := 9) S (c_X9_no_1 l D cI cZ cJ o q H.size) mi_X9_no kw_7_104 rfl rfl ⟨Nat.le_of_ble_eq_true rfl, Nat.le_of_ble_eq_true rfl⟩ hP hD hK hS hA mW_0 rfl rfl hl.1 (Nat.le_of_ble_eq_true rfl) ⟨Nat.le_of_ble_eq_true rfl, Nat.le_of_ble_eq_true rfl⟩ dX9_hiddenBy_37 (fun H locs hz hP hD hS => ?_)
  exact wEnd S hr hlocks hP hD hS (Nat.le_of_ble_eq_true rfl) (Nat.le_of_ble_eq_true rfl) dX9_hiddenBy_40 rfl

set_option maxHeartbeats 8000000 in
set_option maxRecDepth 100000 in
theorem h_hiddenBy_4 (l : Launch) (D : va_G) (cI cZ cJ : ClassId) (o : Nat) (u : Nat → Nat) (ao : Nat) (hst : l.stackTraces = false) (ra ga : Nat → Nat) (sz : Nat) (x2 : Int32) (lo_x2 : 0 ≤ x2) (hi_x2 : x2 ≤ 15) : vx_Met l yL_hiddenBy (uWh yL_hiddenBy cL_hiddenBy 5 (some .int) [(0, 10, 13, 13), (0, 10, 17, 15)]) ({ frames := 5, cells := 0, slots := 0, locals := 107 }) (va_Pc [.ref o, .int 0, .int x2, .ref ao] (lS ra ga D (tyL cI cZ cJ) ((xW o u cI cZ cJ) ++ [(ao, .inl (cJ, 1, .inr (.inl (fun _ => 0))))]) sz)) (wQi (0) D ((((((((xW o u cI cZ cJ).set 0 (o, .inr (8, ((xF u).set 9 (.int 0))))).set 32 ((u 31), .inl (cZ, 10, .inl (upd (upd (upd (upd (upd (upd (upd (upd (upd (upd (fun _ => 0) (0 : Int32).toNatClampNeg 0) (1 : Int32).toNatClampNeg 0) (2 : Int32).toNatClampNeg 0) (3 : Int32).toNatClampNeg 0) (4 : Int32).toNatClampNeg 0) (5 : Int32).toNatClampNeg 0) (6 : Int32).toNatClampNeg 0) (7 : Int32).toNatClampNeg 0) (8 : Int32).toNatClampNeg 0) (9 : Int32).toNatClampNeg 0)))).set 34 ((u 33), .inr (2, ([.ref (u 0), .ref (u 12), .ref (u 19), .int 0, .ref (u 34), .ref (u 35), .ref (u 36), .ref (u 37), .int 0].set 3 (.int 1))))).set 35 ((u 34), .inl (cI, 120, .inl (upd (fun _ => 0) (0 : Int32).toNatClampNeg 10)))).set 36 ((u 35), .inl (cI, 120, .inl (upd (fun _ => 0) (0 : Int32).toNatClampNeg 0)))).set 37 ((u 36), .inl (cI, 120, .inl (upd (fun _ => 0) (0 : Int32).toNatClampNeg (-1))))) ++ [(ao, .inl (cJ, 1, .inr (.inl (vp_updL (fun _ => 0) (0 : Int32).toNatClampNeg 0))))]) (va_A ((xW o u cI cZ cJ) ++ [(ao, .inl (cJ, 1, .inr (.inl (fun _ => 0))))]) sz)) (xN (va_A ((xW o u cI cZ cJ) ++ [(ao, .inl (cJ, 1, .inr (.inl (fun _ => 0))))]) sz)) 0 0 (va_A ((xW o u cI cZ cJ) ++ [(ao, .inl (cJ, 1, .inr (.inl (fun _ => 0))))]) sz) := by
  refine hStart (l := l) (y := yL_hiddenBy) (b := cL_hiddenBy) (n := 5) (r := (some .int)) (hh := [(0, 10, 13, 13), (0, 10, 17, 15)]) (rm := ({ frames := 5, cells := 0, slots := 0, locals := 107 })) (mc := 0) (ms := 0) (ra := ra) (ga := ga) (D := D) (tys := tyL cI cZ cJ) (ws := ((xW o u cI cZ cJ) ++ [(ao, .inl (cJ, 1, .inr (.inl (fun _ => 0))))])) (av := [.ref o, .int 0, .int x2, .ref ao]) (sz := sz) (lv := [(0, .ref o), (1, .int 0), (2, .int x2), (3, .ref ao)]) (Qc := fun A => wQi (0) D ((((((((xW o u cI cZ cJ).set 0 (o, .inr (8, ((xF u).set 9 (.int 0))))).set 32 ((u 31), .inl (cZ, 10, .inl (upd (upd (upd (upd (upd (upd (upd (upd (upd (upd (fun _ => 0) (0 : Int32).toNatClampNeg 0) (1 : Int32).toNatClampNeg 0) (2 : Int32).toNatClampNeg 0) (3 : Int32).toNatClampNeg 0) (4 : Int32).toNatClampNeg 0) (5 : Int32).toNatClampNeg 0) (6 : Int32).toNatClampNeg 0) (7 : Int32).toNatClampNeg 0) (8 : Int32).toNatClampNeg 0) (9 : Int32).toNatClampNeg 0)))).set 34 ((u 33), .inr (2, ([.ref (u 0), .ref (u 12), .ref (u 19), .int 0, .ref (u 34), .ref (u 35), .ref (u 36), .ref (u 37), .int 0].set 3 (.int 1))))).set 35 ((u 34), .inl (cI, 120, .inl (upd (fun _ => 0) (0 : Int32).toNatClampNeg 10)))).set 36 ((u 35), .inl (cI, 120, .inl (upd (fun _ => 0) (0 : Int32).toNatClampNeg 0)))).set 37 ((u 36), .inl (cI, 120, .inl (upd (fun _ => 0) (0 : Int32).toNatClampNeg (-1))))) ++ [(ao, .inl (cJ, 1, .inr (.inl (vp_updL (fun _ => 0) (0 : Int32).toNatClampNeg 0))))]) A) (by decide) (Nat.le_of_ble_eq_true rfl) rfl ?_
  intro p e s m args below meth c ls A H S hr hlocks htab hl hK hP hD hS hA hB hC
  have hx := S.1
  have hb := S.2.1
  refine lv_aload_n hx hb dL_hiddenBy_0 rfl (lv_at hl 3 rfl) ?_
  refine lv_iconst (v := 0) hx hb dL_hiddenBy_1 (by decide) ?_
  refine lv_aload_n hx hb dL_hiddenBy_2 rfl (lv_at hl 0 rfl) ?_
  refine lv_iload_n hx hb dL_hiddenBy_3 rfl (lv_at hl 1 rfl) ?_
  refine lv_iload_n hx hb dL_hiddenBy_4 rfl (lv_at hl 2 rfl) ?_
  refine faVi [] [(ao, .inl (cJ, 1, .inr (.inl (fun _ => 0))))] (As := [.int 0, .int x2]) (ci := 8) S (c_X8_hiddenBy_4 l D cI cZ cJ o u ra ga H.size x2 lo_x2 hi_x2) mi_X8_hiddenBy kw_6_141 rfl rfl ⟨Nat.le_of_ble_eq_true rfl, Nat.le_of_ble_eq_true rfl⟩ hP hD hK hS hA hB xW_0 rfl rfl hl.1 (Nat.le_of_ble_eq_true rfl) ⟨Nat.le_of_ble_eq_true rfl, Nat.le_of_ble_eq_true rfl⟩ dL_hiddenBy_5 (fun H locs hz hP hD hS => ?_)
  have hP : va_P D vwCl ((((((((xW o u cI cZ cJ).set 0 (o, .inr (8, ((xF u).set 9 (.int 0))))).set 32 ((u 31), .inl (cZ, 10, .inl (upd (upd (upd (upd (upd (upd (upd (upd (upd (upd (fun _ => 0) (0 : Int32).toNatClampNeg 0) (1 : Int32).toNatClampNeg 0) (2 : Int32).toNatClampNeg 0) (3 : Int32).toNatClampNeg 0) (4 : Int32).toNatClampNeg 0) (5 : Int32).toNatClampNeg 0) (6 : Int32).toNatClampNeg 0) (7 : Int32).toNatClampNeg 0) (8 : Int32).toNatClampNeg 0) (9 : Int32).toNatClampNeg 0)))).set 34 ((u 33), .inr (2, ([.ref (u 0), .ref (u 12), .ref (u 19), .int 0, .ref (u 34), .ref (u 35), .ref (u 36), .ref (u 37), .int 0].set 3 (.int 1))))).set 35 ((u 34), .inl (cI, 120, .inl (upd (fun _ => 0) (0 : Int32).toNatClampNeg 10)))).set 36 ((u 35), .inl (cI, 120, .inl (upd (fun _ => 0) (0 : Int32).toNatClampNeg 0)))).set 37 ((u 36), .inl (cI, 120, .inl (upd (fun _ => 0) (0 : Int32).toNatClampNeg (-1))))) ++ [(ao, .inl (cJ, 1, .inr (.inl (fun _ => 0))))]) H := hP
  have hD : va_D A ((((((((xW o u cI cZ cJ).set 0 (o, .inr (8, ((xF u).set 9 (.int 0))))).set 32 ((u 31), .inl (cZ, 10, .inl (upd (upd (upd (upd (upd (upd (upd (upd (upd (upd (fun _ => 0) (0 : Int32).toNatClampNeg 0) (1 : Int32).toNatClampNeg 0) (2 : Int32).toNatClampNeg 0) (3 : Int32).toNatClampNeg 0) (4 : Int32).toNatClampNeg 0) (5 : Int32).toNatClampNeg 0) (6 : Int32).toNatClampNeg 0) (7 : Int32).toNatClampNeg 0) (8 : Int32).toNatClampNeg 0) (9 : Int32).toNatClampNeg 0)))).set 34 ((u 33), .inr (2, ([.ref (u 0), .ref (u 12), .ref (u 19), .int 0, .ref (u 34), .ref (u 35), .ref (u 36), .ref (u 37), .int 0].set 3 (.int 1))))).set 35 ((u 34), .inl (cI, 120, .inl (upd (fun _ => 0) (0 : Int32).toNatClampNeg 10)))).set 36 ((u 35), .inl (cI, 120, .inl (upd (fun _ => 0) (0 : Int32).toNatClampNeg 0)))).set 37 ((u 36), .inl (cI, 120, .inl (upd (fun _ => 0) (0 : Int32).toNatClampNeg (-1))))) ++ [(ao, .inl (cJ, 1, .inr (.inl (fun _ => 0))))]) := hD
  refine lv_i2l (v := 0) hx hb dL_hiddenBy_8 (by decide) ?_
  refine xlast (t0 := 2) S hK hP hD hS (q0 := 88) rfl rfl (vin rfl) dL_hiddenBy_9 (fun H locs hP hD hS => ?_)
  have hP : va_P D vwCl ((((((((xW o u cI cZ cJ).set 0 (o, .inr (8, ((xF u).set 9 (.int 0))))).set 32 ((u 31), .inl (cZ, 10, .inl (upd (upd (upd (upd (upd (upd (upd (upd (upd (upd (fun _ => 0) (0 : Int32).toNatClampNeg 0) (1 : Int32).toNatClampNeg 0) (2 : Int32).toNatClampNeg 0) (3 : Int32).toNatClampNeg 0) (4 : Int32).toNatClampNeg 0) (5 : Int32).toNatClampNeg 0) (6 : Int32).toNatClampNeg 0) (7 : Int32).toNatClampNeg 0) (8 : Int32).toNatClampNeg 0) (9 : Int32).toNatClampNeg 0)))).set 34 ((u 33), .inr (2, ([.ref (u 0), .ref (u 12), .ref (u 19), .int 0, .ref (u 34), .ref (u 35), .ref (u 36), .ref (u 37), .int 0].set 3 (.int 1))))).set 35 ((u 34), .inl (cI, 120, .inl (upd (fun _ => 0) (0 : Int32).toNatClampNeg 10)))).set 36 ((u 35), .inl (cI, 120, .inl (upd (fun _ => 0) (0 : Int32).toNatClampNeg 0)))).set 37 ((u 36), .inl (cI, 120, .inl (upd (fun _ => 0) (0 : Int32).toNatClampNeg (-1))))) ++ [(ao, .inl (cJ, 1, .inr (.inl (vp_updL (fun _ => 0) (0 : Int32).toNatClampNeg 0))))]) H := hP
  have hD : va_D A ((((((((xW o u cI cZ cJ).set 0 (o, .inr (8, ((xF u).set 9 (.int 0))))).set 32 ((u 31), .inl (cZ, 10, .inl (upd (upd (upd (upd (upd (upd (upd (upd (upd (upd (fun _ => 0) (0 : Int32).toNatClampNeg 0) (1 : Int32).toNatClampNeg 0) (2 : Int32).toNatClampNeg 0) (3 : Int32).toNatClampNeg 0) (4 : Int32).toNatClampNeg 0) (5 : Int32).toNatClampNeg 0) (6 : Int32).toNatClampNeg 0) (7 : Int32).toNatClampNeg 0) (8 : Int32).toNatClampNeg 0) (9 : Int32).toNatClampNeg 0)))).set 34 ((u 33), .inr (2, ([.ref (u 0), .ref (u 12), .ref (u 19), .int 0, .ref (u 34), .ref (u 35), .ref (u 36), .ref (u 37), .int 0].set 3 (.int 1))))).set 35 ((u 34), .inl (cI, 120, .inl (upd (fun _ => 0) (0 : Int32).toNatClampNeg 10)))).set 36 ((u 35), .inl (cI, 120, .inl (upd (fun _ => 0) (0 : Int32).toNatClampNeg 0)))).set 37 ((u 36), .inl (cI, 120, .inl (upd (fun _ => 0) (0 : Int32).toNatClampNeg (-1))))) ++ [(ao, .inl (cJ, 1, .inr (.inl (vp_updL (fun _ => 0) (0 : Int32).toNatClampNeg 0))))]) := hD
  refine lv_goto (tgt := 21) hx hb dL_hiddenBy_10 (by decide) ?_
  refine lv_iconst (v := 0) hx hb dL_hiddenBy_21 (by decide) ?_
  exact vx_ret (wEnd S hr hlocks hP hD hS (Nat.le_of_ble_eq_true rfl) (Nat.le_of_ble_eq_true rfl) dL_hiddenBy_22 rfl)

set_option maxHeartbeats 8000000 in
set_option maxRecDepth 100000 in
theorem c_X9_hiddenNow_0 (l : Launch) (D : va_G) (cI cZ cJ : ClassId) (o : Nat) (q : Nat → Nat) (x2 : Int32) (lo_x2 : 0 ≤ x2) (hi_x2 : x2 ≤ 15) : Met l yX9_hiddenNow (uW yX9_hiddenNow cX9_hiddenNow 6 (some .int)) ({ frames := 0, cells := 0, slots := 0, locals := 0 }) (va_Pc [.ref o, .int 0, .int x2] (pS D (tyL cI cZ cJ) (mW o 0 q cI cZ))) (QcRead (0)) 0 0 (fun _ => False) := by
  refine rdStart (lv := [(0, .ref o), (1, .int 0), (2, .int x2)]) (by decide) (Nat.le_of_ble_eq_true rfl) rfl ?_
  intro p e s m args below meth c ls S hr hlocks hl hP hK
  have hx := S.1
  have hb := S.2.1
  refine lv_aload_n hx hb dX9_hiddenNow_0 rfl (lv_at hl 0 rfl) ?_
  refine xg (ci := 9) S inX9 rfl hK hP mW_0 8 (by decide) mF_8 kw_6_156 rfl dX9_hiddenNow_1 ?_
  refine lv_iload_n hx hb dX9_hiddenNow_4 rfl (lv_at hl 1 rfl) ?_
  refine lv_bipush (v := 16) hx hb dX9_hiddenNow_5 (by decide) ?_
  refine ximul (v := 0) S dX9_hiddenNow_7 (by decide) ?_
  refine lv_iload_n hx hb dX9_hiddenNow_8 rfl (lv_at hl 2 rfl) ?_
  refine xiadd (v := x2) S dX9_hiddenNow_9 (Int32.zero_add _) ?_
  refine xiald (t0 := 0) (v := (-1)) S hK hP mW_7 rfl (b_in lo_x2 hi_x2 (by decide) (by decide)) rfl dX9_hiddenNow_10 ?_
  refine lv_iconst (v := (-1)) hx hb dX9_hiddenNow_11 (by decide) ?_
  refine lv_icmp_eq (tgt := 17) hx hb dX9_hiddenNow_12 (by decide) (fun _ => ?_) (fun c => absurd c (by decide))
  refine lv_iconst (v := 0) hx hb dX9_hiddenNow_17 (by decide) ?_
  refine lv_istore_n (lv' := [(3, .int 0), (0, .ref o), (1, .int 0), (2, .int x2)]) hx hb dX9_hiddenNow_18 rfl hl (by decide) rfl (fun ls hl => ?_)
  refine lv_iconst (v := 0) hx hb dX9_hiddenNow_19 (by decide) ?_
  refine lv_istore (lv' := [(4, .int 0), (3, .int 0), (0, .ref o), (1, .int 0), (2, .int x2)]) hx hb dX9_hiddenNow_20 hl (by decide) rfl (fun ls hl => ?_)
  refine lv_iload hx hb dX9_hiddenNow_22 (lv_at hl 0 rfl) ?_
  refine lv_aload_n hx hb dX9_hiddenNow_24 rfl (lv_at hl 2 rfl) ?_
  refine xg (ci := 9) S inX9 rfl hK hP mW_0 13 (by decide) mF_13 kw_6_161 rfl dX9_hiddenNow_25 ?_
  refine lv_icmp_ge (tgt := 135) hx hb dX9_hiddenNow_28 (by decide) (fun _ => ?_) (fun c => absurd c (by decide))
  refine lv_iload_n hx hb dX9_hiddenNow_135 rfl (lv_at hl 1 rfl) ?_
  exact rdEnd S hr hlocks dX9_hiddenNow_136 rfl

set_option maxHeartbeats 8000000 in
set_option maxRecDepth 100000 in
theorem c_X9_hiddenBy_4 (l : Launch) (D : va_G) (cI cZ cJ : ClassId) (o : Nat) (q : Nat → Nat) (sz : Nat) (x2 : Int32) (lo_x2 : 0 ≤ x2) (hi_x2 : x2 ≤ 15) : Met l yX9_hiddenBy (uW yX9_hiddenBy cX9_hiddenBy 3 (some .int)) ({ frames := 2, cells := 0, slots := 0, locals := 43 }) (va_Pc [.ref o, .int 0, .int x2] (wS D (tyL cI cZ cJ) (mW o 0 q cI cZ) sz)) (wQi (0) D (mW o 0 q cI cZ) (va_A (mW o 0 q cI cZ) sz)) 0 0 (va_A (mW o 0 q cI cZ) sz) := by
  refine wStart (lv := [(0, .ref o), (1, .int 0), (2, .int x2)]) (Qc := fun A => wQi (0) D (mW o 0 q cI cZ) A) (by decide) (Nat.le_of_ble_eq_true rfl) rfl ?_
  intro p e s m args below meth c ls A H S hr hlocks hnm hl hK hP hD hS hA
  have hx := S.1
  have hb := S.2.1
  refine lv_aload_n hx hb dX9_hiddenBy_0 rfl (lv_at hl 0 rfl) ?_
  refine lv_iconst (v := 0) hx hb dX9_hiddenBy_1 (by decide) ?_
  refine xp (ci := 9) (v := .int 0) S inX9 tyX9 tyX9_ok nmX9 rfl hK hP hD hS mW_0 0 (by decide) kw_6_148 rfl rfl rfl rfl (Nat.le_of_ble_eq_true rfl) dX9_hiddenBy_2 (fun H locs hP hD hS => ?_)
  have hP : va_P D vwCl (mW o 0 q cI cZ) H := hP
  have hD : va_D A (mW o 0 q cI cZ) := hD
  refine lv_aload_n hx hb dX9_hiddenBy_5 rfl (lv_at hl 0 rfl) ?_
  refine lv_iload_n hx hb dX9_hiddenBy_6 rfl (lv_at hl 1 rfl) ?_
  refine rdV (As := [.int 0]) (ci := 9) S (c_X9_isProcedure_2 l D cI cZ cJ o q) mi_X9_isProcedure kw_7_97 ⟨rfl, rfl⟩ ⟨Nat.le_of_ble_eq_true rfl, Nat.le_of_ble_eq_true rfl⟩ hP hK mW_0 rfl rfl hl.1 (Nat.le_of_ble_eq_true rfl) ⟨Nat.le_of_ble_eq_true rfl, Nat.le_of_ble_eq_true rfl⟩ dX9_hiddenBy_7 ?_
  refine lv_if_ne (tgt := 19) hx hb dX9_hiddenBy_10 (by decide) (fun _ => ?_) (fun c => absurd c (by decide))
  refine lv_iload_n hx hb dX9_hiddenBy_19 rfl (lv_at hl 2 rfl) ?_
  refine rdS (As := [.int x2]) S (c_X9_isName_2 l D cI cZ cJ o q x2 lo_x2 hi_x2) ms_X9_isName kw_7_108 ⟨rfl, rfl⟩ ⟨Nat.le_of_ble_eq_true rfl, Nat.le_of_ble_eq_true rfl⟩ hP hK hl.1 (Nat.le_of_ble_eq_true rfl) ⟨Nat.le_of_ble_eq_true rfl, Nat.le_of_ble_eq_true rfl⟩ dX9_hiddenBy_20 ?_
  refine lv_if_eq (tgt := 35) hx hb dX9_hiddenBy_23 (by decide) (fun c => absurd c (by decide)) (fun _ => ?_)
  refine lv_aload_n hx hb dX9_hiddenBy_26 rfl (lv_at hl 0 rfl) ?_
  refine lv_iload_n hx hb dX9_hiddenBy_27 rfl (lv_at hl 1 rfl) ?_
  refine lv_iload_n hx hb dX9_hiddenBy_28 rfl (lv_at hl 2 rfl) ?_
  refine rdV (As := [.int 0, .int x2]) (ci := 9) S (c_X9_hiddenNow_0 l D cI cZ cJ o q x2 lo_x2 hi_x2) mi_X9_hiddenNow kw_9_48 ⟨rfl, rfl⟩ ⟨Nat.le_of_ble_eq_true rfl, Nat.le_of_ble_eq_true rfl⟩ hP hK mW_0 rfl rfl hl.1 (Nat.le_of_ble_eq_true rfl) ⟨Nat.le_of_ble_eq_true rfl, Nat.le_of_ble_eq_true rfl⟩ dX9_hiddenBy_29 ?_
  refine lv_goto (tgt := 40) hx hb dX9_hiddenBy_32 (by decide) ?_
  exact wEnd S hr hlocks hP hD hS (Nat.le_of_ble_eq_true rfl) (Nat.le_of_ble_eq_true rfl) dX9_hiddenBy_40 rfl

set_option maxHeartbeats 8000000 in
set_option maxRecDepth 100000 in
theorem c_X8_refresh_1 (l : Launch) (D : va_G) (cI cZ cJ : ClassId) (o : Nat) (u : Nat → Nat) (ra ga : Nat → Nat) (sz : Nat) : Met l yX8_refresh (uW yX8_refresh cX8_refresh 1 none) ({ frames := 0, cells := 0, slots := 0, locals := 0 }) (va_Pc [.ref o] (aS ra ga D (tyL cI cZ cJ) (((((((xW o u cI cZ cJ).set 0 (o, .inr (8, ((xF u).set 9 (.int 0))))).set 32 ((u 31), .inl (cZ, 10, .inl (upd (upd (upd (upd (upd (upd (upd (upd (upd (upd (fun _ => 0) (0 : Int32).toNatClampNeg 0) (1 : Int32).toNatClampNeg 0) (2 : Int32).toNatClampNeg 0) (3 : Int32).toNatClampNeg 0) (4 : Int32).toNatClampNeg 0) (5 : Int32).toNatClampNeg 0) (6 : Int32).toNatClampNeg 0) (7 : Int32).toNatClampNeg 0) (8 : Int32).toNatClampNeg 0) (9 : Int32).toNatClampNeg 0)))).set 34 ((u 33), .inr (2, ([.ref (u 0), .ref (u 12), .ref (u 19), .int 0, .ref (u 34), .ref (u 35), .ref (u 36), .ref (u 37), .int 0].set 3 (.int 1))))).set 35 ((u 34), .inl (cI, 120, .inl (upd (fun _ => 0) (0 : Int32).toNatClampNeg 10)))).set 36 ((u 35), .inl (cI, 120, .inl (upd (fun _ => 0) (0 : Int32).toNatClampNeg 0)))).set 37 ((u 36), .inl (cI, 120, .inl (upd (fun _ => 0) (0 : Int32).toNatClampNeg (-1))))) sz)) (wQv D (((((((xW o u cI cZ cJ).set 0 (o, .inr (8, ((xF u).set 9 (.int 0))))).set 32 ((u 31), .inl (cZ, 10, .inl (upd (upd (upd (upd (upd (upd (upd (upd (upd (upd (fun _ => 0) (0 : Int32).toNatClampNeg 0) (1 : Int32).toNatClampNeg 0) (2 : Int32).toNatClampNeg 0) (3 : Int32).toNatClampNeg 0) (4 : Int32).toNatClampNeg 0) (5 : Int32).toNatClampNeg 0) (6 : Int32).toNatClampNeg 0) (7 : Int32).toNatClampNeg 0) (8 : Int32).toNatClampNeg 0) (9 : Int32).toNatClampNeg 0)))).set 34 ((u 33), .inr (2, ([.ref (u 0), .ref (u 12), .ref (u 19), .int 0, .ref (u 34), .ref (u 35), .ref (u 36), .ref (u 37), .int 0].set 3 (.int 1))))).set 35 ((u 34), .inl (cI, 120, .inl (upd (fun _ => 0) (0 : Int32).toNatClampNeg 10)))).set 36 ((u 35), .inl (cI, 120, .inl (upd (fun _ => 0) (0 : Int32).toNatClampNeg 0)))).set 37 ((u 36), .inl (cI, 120, .inl (upd (fun _ => 0) (0 : Int32).toNatClampNeg (-1))))) (va_A (((((((xW o u cI cZ cJ).set 0 (o, .inr (8, ((xF u).set 9 (.int 0))))).set 32 ((u 31), .inl (cZ, 10, .inl (upd (upd (upd (upd (upd (upd (upd (upd (upd (upd (fun _ => 0) (0 : Int32).toNatClampNeg 0) (1 : Int32).toNatClampNeg 0) (2 : Int32).toNatClampNeg 0) (3 : Int32).toNatClampNeg 0) (4 : Int32).toNatClampNeg 0) (5 : Int32).toNatClampNeg 0) (6 : Int32).toNatClampNeg 0) (7 : Int32).toNatClampNeg 0) (8 : Int32).toNatClampNeg 0) (9 : Int32).toNatClampNeg 0)))).set 34 ((u 33), .inr (2, ([.ref (u 0), .ref (u 12), .ref (u 19), .int 0, .ref (u 34), .ref (u 35), .ref (u 36), .ref (u 37), .int 0].set 3 (.int 1))))).set 35 ((u 34), .inl (cI, 120, .inl (upd (fun _ => 0) (0 : Int32).toNatClampNeg 10)))).set 36 ((u 35), .inl (cI, 120, .inl (upd (fun _ => 0) (0 : Int32).toNatClampNeg 0)))).set 37 ((u 36), .inl (cI, 120, .inl (upd (fun _ => 0) (0 : Int32).toNatClampNeg (-1))))) sz)) 0 0 (va_A (((((((xW o u cI cZ cJ).set 0 (o, .inr (8, ((xF u).set 9 (.int 0))))).set 32 ((u 31), .inl (cZ, 10, .inl (upd (upd (upd (upd (upd (upd (upd (upd (upd (upd (fun _ => 0) (0 : Int32).toNatClampNeg 0) (1 : Int32).toNatClampNeg 0) (2 : Int32).toNatClampNeg 0) (3 : Int32).toNatClampNeg 0) (4 : Int32).toNatClampNeg 0) (5 : Int32).toNatClampNeg 0) (6 : Int32).toNatClampNeg 0) (7 : Int32).toNatClampNeg 0) (8 : Int32).toNatClampNeg 0) (9 : Int32).toNatClampNeg 0)))).set 34 ((u 33), .inr (2, ([.ref (u 0), .ref (u 12), .ref (u 19), .int 0, .ref (u 34), .ref (u 35), .ref (u 36), .ref (u 37), .int 0].set 3 (.int 1))))).set 35 ((u 34), .inl (cI, 120, .inl (upd (fun _ => 0) (0 : Int32).toNatClampNeg 10)))).set 36 ((u 35), .inl (cI, 120, .inl (upd (fun _ => 0) (0 : Int32).toNatClampNeg 0)))).set 37 ((u 36), .inl (cI, 120, .inl (upd (fun _ => 0) (0 : Int32).toNatClampNeg (-1))))) sz) := by
  refine aStart (lv := [(0, .ref o)]) (Qc := fun A => wQv D (((((((xW o u cI cZ cJ).set 0 (o, .inr (8, ((xF u).set 9 (.int 0))))).set 32 ((u 31), .inl (cZ, 10, .inl (upd (upd (upd (upd (upd (upd (upd (upd (upd (upd (fun _ => 0) (0 : Int32).toNatClampNeg 0) (1 : Int32).toNatClampNeg 0) (2 : Int32).toNatClampNeg 0) (3 : Int32).toNatClampNeg 0) (4 : Int32).toNatClampNeg 0) (5 : Int32).toNatClampNeg 0) (6 : Int32).toNatClampNeg 0) (7 : Int32).toNatClampNeg 0) (8 : Int32).toNatClampNeg 0) (9 : Int32).toNatClampNeg 0)))).set 34 ((u 33), .inr (2, ([.ref (u 0), .ref (u 12), .ref (u 19), .int 0, .ref (u 34), .ref (u 35), .ref (u 36), .ref (u 37), .int 0].set 3 (.int 1))))).set 35 ((u 34), .inl (cI, 120, .inl (upd (fun _ => 0) (0 : Int32).toNatClampNeg 10)))).set 36 ((u 35), .inl (cI, 120, .inl (upd (fun _ => 0) (0 : Int32).toNatClampNeg 0)))).set 37 ((u 36), .inl (cI, 120, .inl (upd (fun _ => 0) (0 : Int32).toNatClampNeg (-1))))) A) (by decide) (Nat.le_of_ble_eq_true rfl) rfl ?_
  intro p e s m args below meth c ls A H S hr hlocks hnm hl hK hP hD hS hA hB
  have hx := S.1
  have hb := S.2.1
  refine lv_aload_n hx hb dX8_refresh_0 rfl (lv_at hl 0 rfl) ?_
  refine xg (ci := 8) S inX8 rfl hK hP (q0 := 0) rfl 9 (by decide) rfl kw_3_29 rfl dX8_refresh_1 ?_
  refine lv_if_eq (tgt := 40) hx hb dX8_refresh_4 (by decide) (fun _ => ?_) (fun c => absurd c (by decide))
  exact wEndv S hr hlocks hP hD hS (Nat.le_of_ble_eq_true rfl) (Nat.le_of_ble_eq_true rfl) dX8_refresh_40

set_option maxHeartbeats 8000000 in
set_option maxRecDepth 100000 in
theorem c_X8_many_13 (l : Launch) (D : va_G) (cI cZ cJ : ClassId) (o : Nat) (u : Nat → Nat) (ra ga : Nat → Nat) (sz : Nat) : Met l yX8_many (uW yX8_many cX8_many 2 (some .int)) ({ frames := 1, cells := 0, slots := 0, locals := 20 }) (va_Pc [.ref o, .int 0] (aS ra ga D (tyL cI cZ cJ) (((((((xW o u cI cZ cJ).set 0 (o, .inr (8, ((xF u).set 9 (.int 0))))).set 32 ((u 31), .inl (cZ, 10, .inl (upd (upd (upd (upd (upd (upd (upd (upd (upd (upd (fun _ => 0) (0 : Int32).toNatClampNeg 0) (1 : Int32).toNatClampNeg 0) (2 : Int32).toNatClampNeg 0) (3 : Int32).toNatClampNeg 0) (4 : Int32).toNatClampNeg 0) (5 : Int32).toNatClampNeg 0) (6 : Int32).toNatClampNeg 0) (7 : Int32).toNatClampNeg 0) (8 : Int32).toNatClampNeg 0) (9 : Int32).toNatClampNeg 0)))).set 34 ((u 33), .inr (2, ([.ref (u 0), .ref (u 12), .ref (u 19), .int 0, .ref (u 34), .ref (u 35), .ref (u 36), .ref (u 37), .int 0].set 3 (.int 1))))).set 35 ((u 34), .inl (cI, 120, .inl (upd (fun _ => 0) (0 : Int32).toNatClampNeg 10)))).set 36 ((u 35), .inl (cI, 120, .inl (upd (fun _ => 0) (0 : Int32).toNatClampNeg 0)))).set 37 ((u 36), .inl (cI, 120, .inl (upd (fun _ => 0) (0 : Int32).toNatClampNeg (-1))))) sz)) (wQi (1) D (((((((xW o u cI cZ cJ).set 0 (o, .inr (8, ((xF u).set 9 (.int 0))))).set 32 ((u 31), .inl (cZ, 10, .inl (upd (upd (upd (upd (upd (upd (upd (upd (upd (upd (fun _ => 0) (0 : Int32).toNatClampNeg 0) (1 : Int32).toNatClampNeg 0) (2 : Int32).toNatClampNeg 0) (3 : Int32).toNatClampNeg 0) (4 : Int32).toNatClampNeg 0) (5 : Int32).toNatClampNeg 0) (6 : Int32).toNatClampNeg 0) (7 : Int32).toNatClampNeg 0) (8 : Int32).toNatClampNeg 0) (9 : Int32).toNatClampNeg 0)))).set 34 ((u 33), .inr (2, ([.ref (u 0), .ref (u 12), .ref (u 19), .int 0, .ref (u 34), .ref (u 35), .ref (u 36), .ref (u 37), .int 0].set 3 (.int 1))))).set 35 ((u 34), .inl (cI, 120, .inl (upd (fun _ => 0) (0 : Int32).toNatClampNeg 10)))).set 36 ((u 35), .inl (cI, 120, .inl (upd (fun _ => 0) (0 : Int32).toNatClampNeg 0)))).set 37 ((u 36), .inl (cI, 120, .inl (upd (fun _ => 0) (0 : Int32).toNatClampNeg (-1))))) (va_A (((((((xW o u cI cZ cJ).set 0 (o, .inr (8, ((xF u).set 9 (.int 0))))).set 32 ((u 31), .inl (cZ, 10, .inl (upd (upd (upd (upd (upd (upd (upd (upd (upd (upd (fun _ => 0) (0 : Int32).toNatClampNeg 0) (1 : Int32).toNatClampNeg 0) (2 : Int32).toNatClampNeg 0) (3 : Int32).toNatClampNeg 0) (4 : Int32).toNatClampNeg 0) (5 : Int32).toNatClampNeg 0) (6 : Int32).toNatClampNeg 0) (7 : Int32).toNatClampNeg 0) (8 : Int32).toNatClampNeg 0) (9 : Int32).toNatClampNeg 0)))).set 34 ((u 33), .inr (2, ([.ref (u 0), .ref (u 12), .ref (u 19), .int 0, .ref (u 34), .ref (u 35), .ref (u 36), .ref (u 37), .int 0].set 3 (.int 1))))).set 35 ((u 34), .inl (cI, 120, .inl (upd (fun _ => 0) (0 : Int32).toNatClampNeg 10)))).set 36 ((u 35), .inl (cI, 120, .inl (upd (fun _ => 0) (0 : Int32).toNatClampNeg 0)))).set 37 ((u 36), .inl (cI, 120, .inl (upd (fun _ => 0) (0 : Int32).toNatClampNeg (-1))))) sz)) 0 0 (va_A (((((((xW o u cI cZ cJ).set 0 (o, .inr (8, ((xF u).set 9 (.int 0))))).set 32 ((u 31), .inl (cZ, 10, .inl (upd (upd (upd (upd (upd (upd (upd (upd (upd (upd (fun _ => 0) (0 : Int32).toNatClampNeg 0) (1 : Int32).toNatClampNeg 0) (2 : Int32).toNatClampNeg 0) (3 : Int32).toNatClampNeg 0) (4 : Int32).toNatClampNeg 0) (5 : Int32).toNatClampNeg 0) (6 : Int32).toNatClampNeg 0) (7 : Int32).toNatClampNeg 0) (8 : Int32).toNatClampNeg 0) (9 : Int32).toNatClampNeg 0)))).set 34 ((u 33), .inr (2, ([.ref (u 0), .ref (u 12), .ref (u 19), .int 0, .ref (u 34), .ref (u 35), .ref (u 36), .ref (u 37), .int 0].set 3 (.int 1))))).set 35 ((u 34), .inl (cI, 120, .inl (upd (fun _ => 0) (0 : Int32).toNatClampNeg 10)))).set 36 ((u 35), .inl (cI, 120, .inl (upd (fun _ => 0) (0 : Int32).toNatClampNeg 0)))).set 37 ((u 36), .inl (cI, 120, .inl (upd (fun _ => 0) (0 : Int32).toNatClampNeg (-1))))) sz) := by
  refine aStart (lv := [(0, .ref o), (1, .int 0)]) (Qc := fun A => wQi (1) D (((((((xW o u cI cZ cJ).set 0 (o, .inr (8, ((xF u).set 9 (.int 0))))).set 32 ((u 31), .inl (cZ, 10, .inl (upd (upd (upd (upd (upd (upd (upd (upd (upd (upd (fun _ => 0) (0 : Int32).toNatClampNeg 0) (1 : Int32).toNatClampNeg 0) (2 : Int32).toNatClampNeg 0) (3 : Int32).toNatClampNeg 0) (4 : Int32).toNatClampNeg 0) (5 : Int32).toNatClampNeg 0) (6 : Int32).toNatClampNeg 0) (7 : Int32).toNatClampNeg 0) (8 : Int32).toNatClampNeg 0) (9 : Int32).toNatClampNeg 0)))).set 34 ((u 33), .inr (2, ([.ref (u 0), .ref (u 12), .ref (u 19), .int 0, .ref (u 34), .ref (u 35), .ref (u 36), .ref (u 37), .int 0].set 3 (.int 1))))).set 35 ((u 34), .inl (cI, 120, .inl (upd (fun _ => 0) (0 : Int32).toNatClampNeg 10)))).set 36 ((u 35), .inl (cI, 120, .inl (upd (fun _ => 0) (0 : Int32).toNatClampNeg 0)))).set 37 ((u 36), .inl (cI, 120, .inl (upd (fun _ => 0) (0 : Int32).toNatClampNeg (-1))))) A) (by decide) (Nat.le_of_ble_eq_true rfl) rfl ?_
  intro p e s m args below meth c ls A H S hr hlocks hnm hl hK hP hD hS hA hB
  have hx := S.1
  have hb := S.2.1
  refine lv_iload_n hx hb dX8_many_0 rfl (lv_at hl 1 rfl) ?_
  refine lv_if_lt (tgt := 14) hx hb dX8_many_1 (by decide) (fun c => absurd c (by decide)) (fun _ => ?_)
  refine lv_iload_n hx hb dX8_many_4 rfl (lv_at hl 1 rfl) ?_
  refine lv_bipush (v := 10) hx hb dX8_many_5 (by decide) ?_
  refine lv_icmp_gt (tgt := 14) hx hb dX8_many_7 (by decide) (fun c => absurd c (by decide)) (fun _ => ?_)
  refine lv_iconst (v := 1) hx hb dX8_many_10 (by decide) ?_
  refine lv_goto (tgt := 15) hx hb dX8_many_11 (by decide) ?_
  refine aSv (As := [.int 1]) S (c_X8_needArgument_3 l D cI cZ cJ o u ra ga H.size) ms_X8_needArgument kw_4_4 rfl rfl ⟨Nat.le_of_ble_eq_true rfl, Nat.le_of_ble_eq_true rfl⟩ hP hD hK hS hA hB hl.1 (Nat.le_of_ble_eq_true rfl) ⟨Nat.le_of_ble_eq_true rfl, Nat.le_of_ble_eq_true rfl⟩ dX8_many_15 (fun H locs hz hP hD hS => ?_)
  refine lv_aload_n hx hb dX8_many_18 rfl (lv_at hl 0 rfl) ?_
  refine aVv (As := []) (ci := 8) S (c_X8_refresh_1 l D cI cZ cJ o u ra ga H.size) mi_X8_refresh kw_3_71 rfl rfl ⟨Nat.le_of_ble_eq_true rfl, Nat.le_of_ble_eq_true rfl⟩ hP hD hK hS hA hB (k := 0) rfl rfl rfl hl.1 (Nat.le_of_ble_eq_true rfl) ⟨Nat.le_of_ble_eq_true rfl, Nat.le_of_ble_eq_true rfl⟩ dX8_many_19 (fun H locs hz hP hD hS => ?_)
  refine lv_iload_n hx hb dX8_many_22 rfl (lv_at hl 1 rfl) ?_
  refine lv_tableIn (off := 53) (tgt := 76) hx hb dX8_many_23 (by decide) (by decide) (by decide) (by decide) ?_
  refine lv_aload_n hx hb dX8_many_76 rfl (lv_at hl 0 rfl) ?_
  refine xg (ci := 8) S inX8 rfl hK hP (q0 := 0) rfl 0 (by decide) rfl kw_3_20 rfl dX8_many_77 ?_
  refine xg (ci := 1) S inX1 rfl hK hP (q0 := 1) rfl 0 (by decide) rfl kw_1_40 rfl dX8_many_80 ?_
  exact wEnd S hr hlocks hP hD hS (Nat.le_of_ble_eq_true rfl) (Nat.le_of_ble_eq_true rfl) dX8_many_83 rfl

set_option maxHeartbeats 8000000 in
set_option maxRecDepth 100000 in
theorem c_X8_many_14 (l : Launch) (D : va_G) (cI cZ cJ : ClassId) (o : Nat) (u : Nat → Nat) (ra ga : Nat → Nat) (sz : Nat) : Met l yX8_many (uW yX8_many cX8_many 2 (some .int)) ({ frames := 1, cells := 0, slots := 0, locals := 20 }) (va_Pc [.ref o, .int 1] (aS ra ga D (tyL cI cZ cJ) (((((((xW o u cI cZ cJ).set 0 (o, .inr (8, ((xF u).set 9 (.int 0))))).set 32 ((u 31), .inl (cZ, 10, .inl (upd (upd (upd (upd (upd (upd (upd (upd (upd (upd (fun _ => 0) (0 : Int32).toNatClampNeg 0) (1 : Int32).toNatClampNeg 0) (2 : Int32).toNatClampNeg 0) (3 : Int32).toNatClampNeg 0) (4 : Int32).toNatClampNeg 0) (5 : Int32).toNatClampNeg 0) (6 : Int32).toNatClampNeg 0) (7 : Int32).toNatClampNeg 0) (8 : Int32).toNatClampNeg 0) (9 : Int32).toNatClampNeg 0)))).set 34 ((u 33), .inr (2, ([.ref (u 0), .ref (u 12), .ref (u 19), .int 0, .ref (u 34), .ref (u 35), .ref (u 36), .ref (u 37), .int 0].set 3 (.int 1))))).set 35 ((u 34), .inl (cI, 120, .inl (upd (fun _ => 0) (0 : Int32).toNatClampNeg 10)))).set 36 ((u 35), .inl (cI, 120, .inl (upd (fun _ => 0) (0 : Int32).toNatClampNeg 0)))).set 37 ((u 36), .inl (cI, 120, .inl (upd (fun _ => 0) (0 : Int32).toNatClampNeg (-1))))) sz)) (wQi (0) D (((((((xW o u cI cZ cJ).set 0 (o, .inr (8, ((xF u).set 9 (.int 0))))).set 32 ((u 31), .inl (cZ, 10, .inl (upd (upd (upd (upd (upd (upd (upd (upd (upd (upd (fun _ => 0) (0 : Int32).toNatClampNeg 0) (1 : Int32).toNatClampNeg 0) (2 : Int32).toNatClampNeg 0) (3 : Int32).toNatClampNeg 0) (4 : Int32).toNatClampNeg 0) (5 : Int32).toNatClampNeg 0) (6 : Int32).toNatClampNeg 0) (7 : Int32).toNatClampNeg 0) (8 : Int32).toNatClampNeg 0) (9 : Int32).toNatClampNeg 0)))).set 34 ((u 33), .inr (2, ([.ref (u 0), .ref (u 12), .ref (u 19), .int 0, .ref (u 34), .ref (u 35), .ref (u 36), .ref (u 37), .int 0].set 3 (.int 1))))).set 35 ((u 34), .inl (cI, 120, .inl (upd (fun _ => 0) (0 : Int32).toNatClampNeg 10)))).set 36 ((u 35), .inl (cI, 120, .inl (upd (fun _ => 0) (0 : Int32).toNatClampNeg 0)))).set 37 ((u 36), .inl (cI, 120, .inl (upd (fun _ => 0) (0 : Int32).toNatClampNeg (-1))))) (va_A (((((((xW o u cI cZ cJ).set 0 (o, .inr (8, ((xF u).set 9 (.int 0))))).set 32 ((u 31), .inl (cZ, 10, .inl (upd (upd (upd (upd (upd (upd (upd (upd (upd (upd (fun _ => 0) (0 : Int32).toNatClampNeg 0) (1 : Int32).toNatClampNeg 0) (2 : Int32).toNatClampNeg 0) (3 : Int32).toNatClampNeg 0) (4 : Int32).toNatClampNeg 0) (5 : Int32).toNatClampNeg 0) (6 : Int32).toNatClampNeg 0) (7 : Int32).toNatClampNeg 0) (8 : Int32).toNatClampNeg 0) (9 : Int32).toNatClampNeg 0)))).set 34 ((u 33), .inr (2, ([.ref (u 0), .ref (u 12), .ref (u 19), .int 0, .ref (u 34), .ref (u 35), .ref (u 36), .ref (u 37), .int 0].set 3 (.int 1))))).set 35 ((u 34), .inl (cI, 120, .inl (upd (fun _ => 0) (0 : Int32).toNatClampNeg 10)))).set 36 ((u 35), .inl (cI, 120, .inl (upd (fun _ => 0) (0 : Int32).toNatClampNeg 0)))).set 37 ((u 36), .inl (cI, 120, .inl (upd (fun _ => 0) (0 : Int32).toNatClampNeg (-1))))) sz)) 0 0 (va_A (((((((xW o u cI cZ cJ).set 0 (o, .inr (8, ((xF u).set 9 (.int 0))))).set 32 ((u 31), .inl (cZ, 10, .inl (upd (upd (upd (upd (upd (upd (upd (upd (upd (upd (fun _ => 0) (0 : Int32).toNatClampNeg 0) (1 : Int32).toNatClampNeg 0) (2 : Int32).toNatClampNeg 0) (3 : Int32).toNatClampNeg 0) (4 : Int32).toNatClampNeg 0) (5 : Int32).toNatClampNeg 0) (6 : Int32).toNatClampNeg 0) (7 : Int32).toNatClampNeg 0) (8 : Int32).toNatClampNeg 0) (9 : Int32).toNatClampNeg 0)))).set 34 ((u 33), .inr (2, ([.ref (u 0), .ref (u 12), .ref (u 19), .int 0, .ref (u 34), .ref (u 35), .ref (u 36), .ref (u 37), .int 0].set 3 (.int 1))))).set 35 ((u 34), .inl (cI, 120, .inl (upd (fun _ => 0) (0 : Int32).toNatClampNeg 10)))).set 36 ((u 35), .inl (cI, 120, .inl (upd (fun _ => 0) (0 : Int32).toNatClampNeg 0)))).set 37 ((u 36), .inl (cI, 120, .inl (upd (fun _ => 0) (0 : Int32).toNatClampNeg (-1))))) sz) := by
  refine aStart (lv := [(0, .ref o), (1, .int 1)]) (Qc := fun A => wQi (0) D (((((((xW o u cI cZ cJ).set 0 (o, .inr (8, ((xF u).set 9 (.int 0))))).set 32 ((u 31), .inl (cZ, 10, .inl (upd (upd (upd (upd (upd (upd (upd (upd (upd (upd (fun _ => 0) (0 : Int32).toNatClampNeg 0) (1 : Int32).toNatClampNeg 0) (2 : Int32).toNatClampNeg 0) (3 : Int32).toNatClampNeg 0) (4 : Int32).toNatClampNeg 0) (5 : Int32).toNatClampNeg 0) (6 : Int32).toNatClampNeg 0) (7 : Int32).toNatClampNeg 0) (8 : Int32).toNatClampNeg 0) (9 : Int32).toNatClampNeg 0)))).set 34 ((u 33), .inr (2, ([.ref (u 0), .ref (u 12), .ref (u 19), .int 0, .ref (u 34), .ref (u 35), .ref (u 36), .ref (u 37), .int 0].set 3 (.int 1))))).set 35 ((u 34), .inl (cI, 120, .inl (upd (fun _ => 0) (0 : Int32).toNatClampNeg 10)))).set 36 ((u 35), .inl (cI, 120, .inl (upd (fun _ => 0) (0 : Int32).toNatClampNeg 0)))).set 37 ((u 36), .inl (cI, 120, .inl (upd (fun _ => 0) (0 : Int32).toNatClampNeg (-1))))) A) (by decide) (Nat.le_of_ble_eq_true rfl) rfl ?_
  intro p e s m args below meth c ls A H S hr hlocks hnm hl hK hP hD hS hA hB
  have hx := S.1
  have hb := S.2.1
  refine lv_iload_n hx hb dX8_many_0 rfl (lv_at hl 1 rfl) ?_
  refine lv_if_lt (tgt := 14) hx hb dX8_many_1 (by decide) (fun c => absurd c (by decide)) (fun _ => ?_)
  refine lv_iload_n hx hb dX8_many_4 rfl (lv_at hl 1 rfl) ?_
  refine lv_bipush (v := 10) hx hb dX8_many_5 (by decide) ?_
  refine lv_icmp_gt (tgt := 14) hx hb dX8_many_7 (by decide) (fun c => absurd c (by decide)) (fun _ => ?_)
  refine lv_iconst (v := 1) hx hb dX8_many_10 (by decide) ?_
  refine lv_goto (tgt := 15) hx hb dX8_many_11 (by decide) ?_
  refine aSv (As := [.int 1]) S (c_X8_needArgument_3 l D cI cZ cJ o u ra ga H.size) ms_X8_needArgument kw_4_4 rfl rfl ⟨Nat.le_of_ble_eq_true rfl, Nat.le_of_ble_eq_true rfl⟩ hP hD hK hS hA hB hl.1 (Nat.le_of_ble_eq_true rfl) ⟨Nat.le_of_ble_eq_true rfl, Nat.le_of_ble_eq_true rfl⟩ dX8_many_15 (fun H locs hz hP hD hS => ?_)
  refine lv_aload_n hx hb dX8_many_18 rfl (lv_at hl 0 rfl) ?_
  refine aVv (As := []) (ci := 8) S (c_X8_refresh_1 l D cI cZ cJ o u ra ga H.size) mi_X8_refresh kw_3_71 rfl rfl ⟨Nat.le_of_ble_eq_true rfl, Nat.le_of_ble_eq_true rfl⟩ hP hD hK hS hA hB (k := 0) rfl rfl rfl hl.1 (Nat.le_of_ble_eq_true rfl) ⟨Nat.le_of_ble_eq_true rfl, Nat.le_of_ble_eq_true rfl⟩ dX8_many_19 (fun H locs hz hP hD hS => ?_)
  refine lv_iload_n hx hb dX8_many_22 rfl (lv_at hl 1 rfl) ?_
  refine lv_tableIn (off := 61) (tgt := 84) hx hb dX8_many_23 (by decide) (by decide) (by decide) (by decide) ?_
  refine lv_aload_n hx hb dX8_many_84 rfl (lv_at hl 0 rfl) ?_
  refine xg (ci := 8) S inX8 rfl hK hP (q0 := 0) rfl 1 (by decide) rfl kw_3_21 rfl dX8_many_85 ?_
  refine xg (ci := 5) S inX5 rfl hK hP (q0 := 13) rfl 0 (by decide) rfl kw_1_110 rfl dX8_many_88 ?_
  exact wEnd S hr hlocks hP hD hS (Nat.le_of_ble_eq_true rfl) (Nat.le_of_ble_eq_true rfl) dX8_many_91 rfl

set_option maxHeartbeats 8000000 in
set_option maxRecDepth 100000 in
theorem c_X8_many_15 (l : Launch) (D : va_G) (cI cZ cJ : ClassId) (o : Nat) (u : Nat → Nat) (ra ga : Nat → Nat) (sz : Nat) : Met l yX8_many (uW yX8_many cX8_many 2 (some .int)) ({ frames := 1, cells := 0, slots := 0, locals := 20 }) (va_Pc [.ref o, .int 2] (aS ra ga D (tyL cI cZ cJ) (((((((xW o u cI cZ cJ).set 0 (o, .inr (8, ((xF u).set 9 (.int 0))))).set 32 ((u 31), .inl (cZ, 10, .inl (upd (upd (upd (upd (upd (upd (upd (upd (upd (upd (fun _ => 0) (0 : Int32).toNatClampNeg 0) (1 : Int32).toNatClampNeg 0) (2 : Int32).toNatClampNeg 0) (3 : Int32).toNatClampNeg 0) (4 : Int32).toNatClampNeg 0) (5 : Int32).toNatClampNeg 0) (6 : Int32).toNatClampNeg 0) (7 : Int32).toNatClampNeg 0) (8 : Int32).toNatClampNeg 0) (9 : Int32).toNatClampNeg 0)))).set 34 ((u 33), .inr (2, ([.ref (u 0), .ref (u 12), .ref (u 19), .int 0, .ref (u 34), .ref (u 35), .ref (u 36), .ref (u 37), .int 0].set 3 (.int 1))))).set 35 ((u 34), .inl (cI, 120, .inl (upd (fun _ => 0) (0 : Int32).toNatClampNeg 10)))).set 36 ((u 35), .inl (cI, 120, .inl (upd (fun _ => 0) (0 : Int32).toNatClampNeg 0)))).set 37 ((u 36), .inl (cI, 120, .inl (upd (fun _ => 0) (0 : Int32).toNatClampNeg (-1))))) sz)) (wQi (0) D (((((((xW o u cI cZ cJ).set 0 (o, .inr (8, ((xF u).set 9 (.int 0))))).set 32 ((u 31), .inl (cZ, 10, .inl (upd (upd (upd (upd (upd (upd (upd (upd (upd (upd (fun _ => 0) (0 : Int32).toNatClampNeg 0) (1 : Int32).toNatClampNeg 0) (2 : Int32).toNatClampNeg 0) (3 : Int32).toNatClampNeg 0) (4 : Int32).toNatClampNeg 0) (5 : Int32).toNatClampNeg 0) (6 : Int32).toNatClampNeg 0) (7 : Int32).toNatClampNeg 0) (8 : Int32).toNatClampNeg 0) (9 : Int32).toNatClampNeg 0)))).set 34 ((u 33), .inr (2, ([.ref (u 0), .ref (u 12), .ref (u 19), .int 0, .ref (u 34), .ref (u 35), .ref (u 36), .ref (u 37), .int 0].set 3 (.int 1))))).set 35 ((u 34), .inl (cI, 120, .inl (upd (fun _ => 0) (0 : Int32).toNatClampNeg 10)))).set 36 ((u 35), .inl (cI, 120, .inl (upd (fun _ => 0) (0 : Int32).toNatClampNeg 0)))).set 37 ((u 36), .inl (cI, 120, .inl (upd (fun _ => 0) (0 : Int32).toNatClampNeg (-1))))) (va_A (((((((xW o u cI cZ cJ).set 0 (o, .inr (8, ((xF u).set 9 (.int 0))))).set 32 ((u 31), .inl (cZ, 10, .inl (upd (upd (upd (upd (upd (upd (upd (upd (upd (upd (fun _ => 0) (0 : Int32).toNatClampNeg 0) (1 : Int32).toNatClampNeg 0) (2 : Int32).toNatClampNeg 0) (3 : Int32).toNatClampNeg 0) (4 : Int32).toNatClampNeg 0) (5 : Int32).toNatClampNeg 0) (6 : Int32).toNatClampNeg 0) (7 : Int32).toNatClampNeg 0) (8 : Int32).toNatClampNeg 0) (9 : Int32).toNatClampNeg 0)))).set 34 ((u 33), .inr (2, ([.ref (u 0), .ref (u 12), .ref (u 19), .int 0, .ref (u 34), .ref (u 35), .ref (u 36), .ref (u 37), .int 0].set 3 (.int 1))))).set 35 ((u 34), .inl (cI, 120, .inl (upd (fun _ => 0) (0 : Int32).toNatClampNeg 10)))).set 36 ((u 35), .inl (cI, 120, .inl (upd (fun _ => 0) (0 : Int32).toNatClampNeg 0)))).set 37 ((u 36), .inl (cI, 120, .inl (upd (fun _ => 0) (0 : Int32).toNatClampNeg (-1))))) sz)) 0 0 (va_A (((((((xW o u cI cZ cJ).set 0 (o, .inr (8, ((xF u).set 9 (.int 0))))).set 32 ((u 31), .inl (cZ, 10, .inl (upd (upd (upd (upd (upd (upd (upd (upd (upd (upd (fun _ => 0) (0 : Int32).toNatClampNeg 0) (1 : Int32).toNatClampNeg 0) (2 : Int32).toNatClampNeg 0) (3 : Int32).toNatClampNeg 0) (4 : Int32).toNatClampNeg 0) (5 : Int32).toNatClampNeg 0) (6 : Int32).toNatClampNeg 0) (7 : Int32).toNatClampNeg 0) (8 : Int32).toNatClampNeg 0) (9 : Int32).toNatClampNeg 0)))).set 34 ((u 33), .inr (2, ([.ref (u 0), .ref (u 12), .ref (u 19), .int 0, .ref (u 34), .ref (u 35), .ref (u 36), .ref (u 37), .int 0].set 3 (.int 1))))).set 35 ((u 34), .inl (cI, 120, .inl (upd (fun _ => 0) (0 : Int32).toNatClampNeg 10)))).set 36 ((u 35), .inl (cI, 120, .inl (upd (fun _ => 0) (0 : Int32).toNatClampNeg 0)))).set 37 ((u 36), .inl (cI, 120, .inl (upd (fun _ => 0) (0 : Int32).toNatClampNeg (-1))))) sz) := by
  refine aStart (lv := [(0, .ref o), (1, .int 2)]) (Qc := fun A => wQi (0) D (((((((xW o u cI cZ cJ).set 0 (o, .inr (8, ((xF u).set 9 (.int 0))))).set 32 ((u 31), .inl (cZ, 10, .inl (upd (upd (upd (upd (upd (upd (upd (upd (upd (upd (fun _ => 0) (0 : Int32).toNatClampNeg 0) (1 : Int32).toNatClampNeg 0) (2 : Int32).toNatClampNeg 0) (3 : Int32).toNatClampNeg 0) (4 : Int32).toNatClampNeg 0) (5 : Int32).toNatClampNeg 0) (6 : Int32).toNatClampNeg 0) (7 : Int32).toNatClampNeg 0) (8 : Int32).toNatClampNeg 0) (9 : Int32).toNatClampNeg 0)))).set 34 ((u 33), .inr (2, ([.ref (u 0), .ref (u 12), .ref (u 19), .int 0, .ref (u 34), .ref (u 35), .ref (u 36), .ref (u 37), .int 0].set 3 (.int 1))))).set 35 ((u 34), .inl (cI, 120, .inl (upd (fun _ => 0) (0 : Int32).toNatClampNeg 10)))).set 36 ((u 35), .inl (cI, 120, .inl (upd (fun _ => 0) (0 : Int32).toNatClampNeg 0)))).set 37 ((u 36), .inl (cI, 120, .inl (upd (fun _ => 0) (0 : Int32).toNatClampNeg (-1))))) A) (by decide) (Nat.le_of_ble_eq_true rfl) rfl ?_
  intro p e s m args below meth c ls A H S hr hlocks hnm hl hK hP hD hS hA hB
  have hx := S.1
  have hb := S.2.1
  refine lv_iload_n hx hb dX8_many_0 rfl (lv_at hl 1 rfl) ?_
  refine lv_if_lt (tgt := 14) hx hb dX8_many_1 (by decide) (fun c => absurd c (by decide)) (fun _ => ?_)
  refine lv_iload_n hx hb dX8_many_4 rfl (lv_at hl 1 rfl) ?_
  refine lv_bipush (v := 10) hx hb dX8_many_5 (by decide) ?_
  refine lv_icmp_gt (tgt := 14) hx hb dX8_many_7 (by decide) (fun c => absurd c (by decide)) (fun _ => ?_)
  refine lv_iconst (v := 1) hx hb dX8_many_10 (by decide) ?_
  refine lv_goto (tgt := 15) hx hb dX8_many_11 (by decide) ?_
  refine aSv (As := [.int 1]) S (c_X8_needArgument_3 l D cI cZ cJ o u ra ga H.size) ms_X8_needArgument kw_4_4 rfl rfl ⟨Nat.le_of_ble_eq_true rfl, Nat.le_of_ble_eq_true rfl⟩ hP hD hK hS hA hB hl.1 (Nat.le_of_ble_eq_true rfl) ⟨Nat.le_of_ble_eq_true rfl, Nat.le_of_ble_eq_true rfl⟩ dX8_many_15 (fun H locs hz hP hD hS => ?_)
  refine lv_aload_n hx hb dX8_many_18 rfl (lv_at hl 0 rfl) ?_
  refine aVv (As := []) (ci := 8) S (c_X8_refresh_1 l D cI cZ cJ o u ra ga H.size) mi_X8_refresh kw_3_71 rfl rfl ⟨Nat.le_of_ble_eq_true rfl, Nat.le_of_ble_eq_true rfl⟩ hP hD hK hS hA hB (k := 0) rfl rfl rfl hl.1 (Nat.le_of_ble_eq_true rfl) ⟨Nat.le_of_ble_eq_true rfl, Nat.le_of_ble_eq_true rfl⟩ dX8_many_19 (fun H locs hz hP hD hS => ?_)
  refine lv_iload_n hx hb dX8_many_22 rfl (lv_at hl 1 rfl) ?_
  refine lv_tableIn (off := 69) (tgt := 92) hx hb dX8_many_23 (by decide) (by decide) (by decide) (by decide) ?_
  refine lv_aload_n hx hb dX8_many_92 rfl (lv_at hl 0 rfl) ?_
  refine xg (ci := 8) S inX8 rfl hK hP (q0 := 0) rfl 2 (by decide) rfl kw_3_22 rfl dX8_many_93 ?_
  refine xg (ci := 4) S inX4 rfl hK hP (q0 := 20) rfl 15 (by decide) rfl kw_1_197 rfl dX8_many_96 ?_
  exact wEnd S hr hlocks hP hD hS (Nat.le_of_ble_eq_true rfl) (Nat.le_of_ble_eq_true rfl) dX8_many_99 rfl

set_option maxHeartbeats 8000000 in
set_option maxRecDepth 100000 in
theorem c_X8_many_16 (l : Launch) (D : va_G) (cI cZ cJ : ClassId) (o : Nat) (u : Nat → Nat) (ra ga : Nat → Nat) (sz : Nat) : Met l yX8_many (uW yX8_many cX8_many 2 (some .int)) ({ frames := 1, cells := 0, slots := 0, locals := 20 }) (va_Pc [.ref o, .int 3] (aS ra ga D (tyL cI cZ cJ) (((((((xW o u cI cZ cJ).set 0 (o, .inr (8, ((xF u).set 9 (.int 0))))).set 32 ((u 31), .inl (cZ, 10, .inl (upd (upd (upd (upd (upd (upd (upd (upd (upd (upd (fun _ => 0) (0 : Int32).toNatClampNeg 0) (1 : Int32).toNatClampNeg 0) (2 : Int32).toNatClampNeg 0) (3 : Int32).toNatClampNeg 0) (4 : Int32).toNatClampNeg 0) (5 : Int32).toNatClampNeg 0) (6 : Int32).toNatClampNeg 0) (7 : Int32).toNatClampNeg 0) (8 : Int32).toNatClampNeg 0) (9 : Int32).toNatClampNeg 0)))).set 34 ((u 33), .inr (2, ([.ref (u 0), .ref (u 12), .ref (u 19), .int 0, .ref (u 34), .ref (u 35), .ref (u 36), .ref (u 37), .int 0].set 3 (.int 1))))).set 35 ((u 34), .inl (cI, 120, .inl (upd (fun _ => 0) (0 : Int32).toNatClampNeg 10)))).set 36 ((u 35), .inl (cI, 120, .inl (upd (fun _ => 0) (0 : Int32).toNatClampNeg 0)))).set 37 ((u 36), .inl (cI, 120, .inl (upd (fun _ => 0) (0 : Int32).toNatClampNeg (-1))))) sz)) (wQi (1) D (((((((xW o u cI cZ cJ).set 0 (o, .inr (8, ((xF u).set 9 (.int 0))))).set 32 ((u 31), .inl (cZ, 10, .inl (upd (upd (upd (upd (upd (upd (upd (upd (upd (upd (fun _ => 0) (0 : Int32).toNatClampNeg 0) (1 : Int32).toNatClampNeg 0) (2 : Int32).toNatClampNeg 0) (3 : Int32).toNatClampNeg 0) (4 : Int32).toNatClampNeg 0) (5 : Int32).toNatClampNeg 0) (6 : Int32).toNatClampNeg 0) (7 : Int32).toNatClampNeg 0) (8 : Int32).toNatClampNeg 0) (9 : Int32).toNatClampNeg 0)))).set 34 ((u 33), .inr (2, ([.ref (u 0), .ref (u 12), .ref (u 19), .int 0, .ref (u 34), .ref (u 35), .ref (u 36), .ref (u 37), .int 0].set 3 (.int 1))))).set 35 ((u 34), .inl (cI, 120, .inl (upd (fun _ => 0) (0 : Int32).toNatClampNeg 10)))).set 36 ((u 35), .inl (cI, 120, .inl (upd (fun _ => 0) (0 : Int32).toNatClampNeg 0)))).set 37 ((u 36), .inl (cI, 120, .inl (upd (fun _ => 0) (0 : Int32).toNatClampNeg (-1))))) (va_A (((((((xW o u cI cZ cJ).set 0 (o, .inr (8, ((xF u).set 9 (.int 0))))).set 32 ((u 31), .inl (cZ, 10, .inl (upd (upd (upd (upd (upd (upd (upd (upd (upd (upd (fun _ => 0) (0 : Int32).toNatClampNeg 0) (1 : Int32).toNatClampNeg 0) (2 : Int32).toNatClampNeg 0) (3 : Int32).toNatClampNeg 0) (4 : Int32).toNatClampNeg 0) (5 : Int32).toNatClampNeg 0) (6 : Int32).toNatClampNeg 0) (7 : Int32).toNatClampNeg 0) (8 : Int32).toNatClampNeg 0) (9 : Int32).toNatClampNeg 0)))).set 34 ((u 33), .inr (2, ([.ref (u 0), .ref (u 12), .ref (u 19), .int 0, .ref (u 34), .ref (u 35), .ref (u 36), .ref (u 37), .int 0].set 3 (.int 1))))).set 35 ((u 34), .inl (cI, 120, .inl (upd (fun _ => 0) (0 : Int32).toNatClampNeg 10)))).set 36 ((u 35), .inl (cI, 120, .inl (upd (fun _ => 0) (0 : Int32).toNatClampNeg 0)))).set 37 ((u 36), .inl (cI, 120, .inl (upd (fun _ => 0) (0 : Int32).toNatClampNeg (-1))))) sz)) 0 0 (va_A (((((((xW o u cI cZ cJ).set 0 (o, .inr (8, ((xF u).set 9 (.int 0))))).set 32 ((u 31), .inl (cZ, 10, .inl (upd (upd (upd (upd (upd (upd (upd (upd (upd (upd (fun _ => 0) (0 : Int32).toNatClampNeg 0) (1 : Int32).toNatClampNeg 0) (2 : Int32).toNatClampNeg 0) (3 : Int32).toNatClampNeg 0) (4 : Int32).toNatClampNeg 0) (5 : Int32).toNatClampNeg 0) (6 : Int32).toNatClampNeg 0) (7 : Int32).toNatClampNeg 0) (8 : Int32).toNatClampNeg 0) (9 : Int32).toNatClampNeg 0)))).set 34 ((u 33), .inr (2, ([.ref (u 0), .ref (u 12), .ref (u 19), .int 0, .ref (u 34), .ref (u 35), .ref (u 36), .ref (u 37), .int 0].set 3 (.int 1))))).set 35 ((u 34), .inl (cI, 120, .inl (upd (fun _ => 0) (0 : Int32).toNatClampNeg 10)))).set 36 ((u 35), .inl (cI, 120, .inl (upd (fun _ => 0) (0 : Int32).toNatClampNeg 0)))).set 37 ((u 36), .inl (cI, 120, .inl (upd (fun _ => 0) (0 : Int32).toNatClampNeg (-1))))) sz) := by
  refine aStart (lv := [(0, .ref o), (1, .int 3)]) (Qc := fun A => wQi (1) D (((((((xW o u cI cZ cJ).set 0 (o, .inr (8, ((xF u).set 9 (.int 0))))).set 32 ((u 31), .inl (cZ, 10, .inl (upd (upd (upd (upd (upd (upd (upd (upd (upd (upd (fun _ => 0) (0 : Int32).toNatClampNeg 0) (1 : Int32).toNatClampNeg 0) (2 : Int32).toNatClampNeg 0) (3 : Int32).toNatClampNeg 0) (4 : Int32).toNatClampNeg 0) (5 : Int32).toNatClampNeg 0) (6 : Int32).toNatClampNeg 0) (7 : Int32).toNatClampNeg 0) (8 : Int32).toNatClampNeg 0) (9 : Int32).toNatClampNeg 0)))).set 34 ((u 33), .inr (2, ([.ref (u 0), .ref (u 12), .ref (u 19), .int 0, .ref (u 34), .ref (u 35), .ref (u 36), .ref (u 37), .int 0].set 3 (.int 1))))).set 35 ((u 34), .inl (cI, 120, .inl (upd (fun _ => 0) (0 : Int32).toNatClampNeg 10)))).set 36 ((u 35), .inl (cI, 120, .inl (upd (fun _ => 0) (0 : Int32).toNatClampNeg 0)))).set 37 ((u 36), .inl (cI, 120, .inl (upd (fun _ => 0) (0 : Int32).toNatClampNeg (-1))))) A) (by decide) (Nat.le_of_ble_eq_true rfl) rfl ?_
  intro p e s m args below meth c ls A H S hr hlocks hnm hl hK hP hD hS hA hB
  have hx := S.1
  have hb := S.2.1
  refine lv_iload_n hx hb dX8_many_0 rfl (lv_at hl 1 rfl) ?_
  refine lv_if_lt (tgt := 14) hx hb dX8_many_1 (by decide) (fun c => absurd c (by decide)) (fun _ => ?_)
  refine lv_iload_n hx hb dX8_many_4 rfl (lv_at hl 1 rfl) ?_
  refine lv_bipush (v := 10) hx hb dX8_many_5 (by decide) ?_
  refine lv_icmp_gt (tgt := 14) hx hb dX8_many_7 (by decide) (fun c => absurd c (by decide)) (fun _ => ?_)
  refine lv_iconst (v := 1) hx hb dX8_many_10 (by decide) ?_
  refine lv_goto (tgt := 15) hx hb dX8_many_11 (by decide) ?_
  refine aSv (As := [.int 1]) S (c_X8_needArgument_3 l D cI cZ cJ o u ra ga H.size) ms_X8_needArgument kw_4_4 rfl rfl ⟨Nat.le_of_ble_eq_true rfl, Nat.le_of_ble_eq_true rfl⟩ hP hD hK hS hA hB hl.1 (Nat.le_of_ble_eq_true rfl) ⟨Nat.le_of_ble_eq_true rfl, Nat.le_of_ble_eq_true rfl⟩ dX8_many_15 (fun H locs hz hP hD hS => ?_)
  refine lv_aload_n hx hb dX8_many_18 rfl (lv_at hl 0 rfl) ?_
  refine aVv (As := []) (ci := 8) S (c_X8_refresh_1 l D cI cZ cJ o u ra ga H.size) mi_X8_refresh kw_3_71 rfl rfl ⟨Nat.le_of_ble_eq_true rfl, Nat.le_of_ble_eq_true rfl⟩ hP hD hK hS hA hB (k := 0) rfl rfl rfl hl.1 (Nat.le_of_ble_eq_true rfl) ⟨Nat.le_of_ble_eq_true rfl, Nat.le_of_ble_eq_true rfl⟩ dX8_many_19 (fun H locs hz hP hD hS => ?_)
  refine lv_iload_n hx hb dX8_many_22 rfl (lv_at hl 1 rfl) ?_
  refine lv_tableIn (off := 77) (tgt := 100) hx hb dX8_many_23 (by decide) (by decide) (by decide) (by decide) ?_
  refine lv_aload_n hx hb dX8_many_100 rfl (lv_at hl 0 rfl) ?_
  refine xg (ci := 8) S inX8 rfl hK hP (q0 := 0) rfl 3 (by decide) rfl kw_3_23 rfl dX8_many_101 ?_
  refine xg (ci := 2) S inX2 rfl hK hP (q0 := 34) rfl 3 (by decide) rfl kw_2_14 rfl dX8_many_104 ?_
  exact wEnd S hr hlocks hP hD hS (Nat.le_of_ble_eq_true rfl) (Nat.le_of_ble_eq_true rfl) dX8_many_107 rfl

set_option maxHeartbeats 8000000 in
set_option maxRecDepth 100000 in
theorem c_X8_many_17 (l : Launch) (D : va_G) (cI cZ cJ : ClassId) (o : Nat) (u : Nat → Nat) (ra ga : Nat → Nat) (sz : Nat) : Met l yX8_many (uW yX8_many cX8_many 2 (some .int)) ({ frames := 1, cells := 0, slots := 0, locals := 20 }) (va_Pc [.ref o, .int 4] (aS ra ga D (tyL cI cZ cJ) (((((((xW o u cI cZ cJ).set 0 (o, .inr (8, ((xF u).set 9 (.int 0))))).set 32 ((u 31), .inl (cZ, 10, .inl (upd (upd (upd (upd (upd (upd (upd (upd (upd (upd (fun _ => 0) (0 : Int32).toNatClampNeg 0) (1 : Int32).toNatClampNeg 0) (2 : Int32).toNatClampNeg 0) (3 : Int32).toNatClampNeg 0) (4 : Int32).toNatClampNeg 0) (5 : Int32).toNatClampNeg 0) (6 : Int32).toNatClampNeg 0) (7 : Int32).toNatClampNeg 0) (8 : Int32).toNatClampNeg 0) (9 : Int32).toNatClampNeg 0)))).set 34 ((u 33), .inr (2, ([.ref (u 0), .ref (u 12), .ref (u 19), .int 0, .ref (u 34), .ref (u 35), .ref (u 36), .ref (u 37), .int 0].set 3 (.int 1))))).set 35 ((u 34), .inl (cI, 120, .inl (upd (fun _ => 0) (0 : Int32).toNatClampNeg 10)))).set 36 ((u 35), .inl (cI, 120, .inl (upd (fun _ => 0) (0 : Int32).toNatClampNeg 0)))).set 37 ((u 36), .inl (cI, 120, .inl (upd (fun _ => 0) (0 : Int32).toNatClampNeg (-1))))) sz)) (wQi (0) D (((((((xW o u cI cZ cJ).set 0 (o, .inr (8, ((xF u).set 9 (.int 0))))).set 32 ((u 31), .inl (cZ, 10, .inl (upd (upd (upd (upd (upd (upd (upd (upd (upd (upd (fun _ => 0) (0 : Int32).toNatClampNeg 0) (1 : Int32).toNatClampNeg 0) (2 : Int32).toNatClampNeg 0) (3 : Int32).toNatClampNeg 0) (4 : Int32).toNatClampNeg 0) (5 : Int32).toNatClampNeg 0) (6 : Int32).toNatClampNeg 0) (7 : Int32).toNatClampNeg 0) (8 : Int32).toNatClampNeg 0) (9 : Int32).toNatClampNeg 0)))).set 34 ((u 33), .inr (2, ([.ref (u 0), .ref (u 12), .ref (u 19), .int 0, .ref (u 34), .ref (u 35), .ref (u 36), .ref (u 37), .int 0].set 3 (.int 1))))).set 35 ((u 34), .inl (cI, 120, .inl (upd (fun _ => 0) (0 : Int32).toNatClampNeg 10)))).set 36 ((u 35), .inl (cI, 120, .inl (upd (fun _ => 0) (0 : Int32).toNatClampNeg 0)))).set 37 ((u 36), .inl (cI, 120, .inl (upd (fun _ => 0) (0 : Int32).toNatClampNeg (-1))))) (va_A (((((((xW o u cI cZ cJ).set 0 (o, .inr (8, ((xF u).set 9 (.int 0))))).set 32 ((u 31), .inl (cZ, 10, .inl (upd (upd (upd (upd (upd (upd (upd (upd (upd (upd (fun _ => 0) (0 : Int32).toNatClampNeg 0) (1 : Int32).toNatClampNeg 0) (2 : Int32).toNatClampNeg 0) (3 : Int32).toNatClampNeg 0) (4 : Int32).toNatClampNeg 0) (5 : Int32).toNatClampNeg 0) (6 : Int32).toNatClampNeg 0) (7 : Int32).toNatClampNeg 0) (8 : Int32).toNatClampNeg 0) (9 : Int32).toNatClampNeg 0)))).set 34 ((u 33), .inr (2, ([.ref (u 0), .ref (u 12), .ref (u 19), .int 0, .ref (u 34), .ref (u 35), .ref (u 36), .ref (u 37), .int 0].set 3 (.int 1))))).set 35 ((u 34), .inl (cI, 120, .inl (upd (fun _ => 0) (0 : Int32).toNatClampNeg 10)))).set 36 ((u 35), .inl (cI, 120, .inl (upd (fun _ => 0) (0 : Int32).toNatClampNeg 0)))).set 37 ((u 36), .inl (cI, 120, .inl (upd (fun _ => 0) (0 : Int32).toNatClampNeg (-1))))) sz)) 0 0 (va_A (((((((xW o u cI cZ cJ).set 0 (o, .inr (8, ((xF u).set 9 (.int 0))))).set 32 ((u 31), .inl (cZ, 10, .inl (upd (upd (upd (upd (upd (upd (upd (upd (upd (upd (fun _ => 0) (0 : Int32).toNatClampNeg 0) (1 : Int32).toNatClampNeg 0) (2 : Int32).toNatClampNeg 0) (3 : Int32).toNatClampNeg 0) (4 : Int32).toNatClampNeg 0) (5 : Int32).toNatClampNeg 0) (6 : Int32).toNatClampNeg 0) (7 : Int32).toNatClampNeg 0) (8 : Int32).toNatClampNeg 0) (9 : Int32).toNatClampNeg 0)))).set 34 ((u 33), .inr (2, ([.ref (u 0), .ref (u 12), .ref (u 19), .int 0, .ref (u 34), .ref (u 35), .ref (u 36), .ref (u 37), .int 0].set 3 (.int 1))))).set 35 ((u 34), .inl (cI, 120, .inl (upd (fun _ => 0) (0 : Int32).toNatClampNeg 10)))).set 36 ((u 35), .inl (cI, 120, .inl (upd (fun _ => 0) (0 : Int32).toNatClampNeg 0)))).set 37 ((u 36), .inl (cI, 120, .inl (upd (fun _ => 0) (0 : Int32).toNatClampNeg (-1))))) sz) := by
  refine aStart (lv := [(0, .ref o), (1, .int 4)]) (Qc := fun A => wQi (0) D (((((((xW o u cI cZ cJ).set 0 (o, .inr (8, ((xF u).set 9 (.int 0))))).set 32 ((u 31), .inl (cZ, 10, .inl (upd (upd (upd (upd (upd (upd (upd (upd (upd (upd (fun _ => 0) (0 : Int32).toNatClampNeg 0) (1 : Int32).toNatClampNeg 0) (2 : Int32).toNatClampNeg 0) (3 : Int32).toNatClampNeg 0) (4 : Int32).toNatClampNeg 0) (5 : Int32).toNatClampNeg 0) (6 : Int32).toNatClampNeg 0) (7 : Int32).toNatClampNeg 0) (8 : Int32).toNatClampNeg 0) (9 : Int32).toNatClampNeg 0)))).set 34 ((u 33), .inr (2, ([.ref (u 0), .ref (u 12), .ref (u 19), .int 0, .ref (u 34), .ref (u 35), .ref (u 36), .ref (u 37), .int 0].set 3 (.int 1))))).set 35 ((u 34), .inl (cI, 120, .inl (upd (fun _ => 0) (0 : Int32).toNatClampNeg 10)))).set 36 ((u 35), .inl (cI, 120, .inl (upd (fun _ => 0) (0 : Int32).toNatClampNeg 0)))).set 37 ((u 36), .inl (cI, 120, .inl (upd (fun _ => 0) (0 : Int32).toNatClampNeg (-1))))) A) (by decide) (Nat.le_of_ble_eq_true rfl) rfl ?_
  intro p e s m args below meth c ls A H S hr hlocks hnm hl hK hP hD hS hA hB
  have hx := S.1
  have hb := S.2.1
  refine lv_iload_n hx hb dX8_many_0 rfl (lv_at hl 1 rfl) ?_
  refine lv_if_lt (tgt := 14) hx hb dX8_many_1 (by decide) (fun c => absurd c (by decide)) (fun _ => ?_)
  refine lv_iload_n hx hb dX8_many_4 rfl (lv_at hl 1 rfl) ?_
  refine lv_bipush (v := 10) hx hb dX8_many_5 (by decide) ?_
  refine lv_icmp_gt (tgt := 14) hx hb dX8_many_7 (by decide) (fun c => absurd c (by decide)) (fun _ => ?_)
  refine lv_iconst (v := 1) hx hb dX8_many_10 (by decide) ?_
  refine lv_goto (tgt := 15) hx hb dX8_many_11 (by decide) ?_
  refine aSv (As := [.int 1]) S (c_X8_needArgument_3 l D cI cZ cJ o u ra ga H.size) ms_X8_needArgument kw_4_4 rfl rfl ⟨Nat.le_of_ble_eq_true rfl, Nat.le_of_ble_eq_true rfl⟩ hP hD hK hS hA hB hl.1 (Nat.le_of_ble_eq_true rfl) ⟨Nat.le_of_ble_eq_true rfl, Nat.le_of_ble_eq_true rfl⟩ dX8_many_15 (fun H locs hz hP hD hS => ?_)
  refine lv_aload_n hx hb dX8_many_18 rfl (lv_at hl 0 rfl) ?_
  refine aVv (As := []) (ci := 8) S (c_X8_refresh_1 l D cI cZ cJ o u ra ga H.size) mi_X8_refresh kw_3_71 rfl rfl ⟨Nat.le_of_ble_eq_true rfl, Nat.le_of_ble_eq_true rfl⟩ hP hD hK hS hA hB (k := 0) rfl rfl rfl hl.1 (Nat.le_of_ble_eq_true rfl) ⟨Nat.le_of_ble_eq_true rfl, Nat.le_of_ble_eq_true rfl⟩ dX8_many_19 (fun H locs hz hP hD hS => ?_)
  refine lv_iload_n hx hb dX8_many_22 rfl (lv_at hl 1 rfl) ?_
  refine lv_tableIn (off := 85) (tgt := 108) hx hb dX8_many_23 (by decide) (by decide) (by decide) (by decide) ?_
  refine lv_aload_n hx hb dX8_many_108 rfl (lv_at hl 0 rfl) ?_
  refine xg (ci := 8) S inX8 rfl hK hP (q0 := 0) rfl 2 (by decide) rfl kw_3_22 rfl dX8_many_109 ?_
  refine xg (ci := 4) S inX4 rfl hK hP (q0 := 20) rfl 17 (by decide) rfl kw_1_201 rfl dX8_many_112 ?_
  exact wEnd S hr hlocks hP hD hS (Nat.le_of_ble_eq_true rfl) (Nat.le_of_ble_eq_true rfl) dX8_many_115 rfl

set_option maxHeartbeats 8000000 in
set_option maxRecDepth 100000 in
theorem c_X8_many_18 (l : Launch) (D : va_G) (cI cZ cJ : ClassId) (o : Nat) (u : Nat → Nat) (ra ga : Nat → Nat) (sz : Nat) : Met l yX8_many (uW yX8_many cX8_many 2 (some .int)) ({ frames := 1, cells := 0, slots := 0, locals := 20 }) (va_Pc [.ref o, .int 5] (aS ra ga D (tyL cI cZ cJ) (((((((xW o u cI cZ cJ).set 0 (o, .inr (8, ((xF u).set 9 (.int 0))))).set 32 ((u 31), .inl (cZ, 10, .inl (upd (upd (upd (upd (upd (upd (upd (upd (upd (upd (fun _ => 0) (0 : Int32).toNatClampNeg 0) (1 : Int32).toNatClampNeg 0) (2 : Int32).toNatClampNeg 0) (3 : Int32).toNatClampNeg 0) (4 : Int32).toNatClampNeg 0) (5 : Int32).toNatClampNeg 0) (6 : Int32).toNatClampNeg 0) (7 : Int32).toNatClampNeg 0) (8 : Int32).toNatClampNeg 0) (9 : Int32).toNatClampNeg 0)))).set 34 ((u 33), .inr (2, ([.ref (u 0), .ref (u 12), .ref (u 19), .int 0, .ref (u 34), .ref (u 35), .ref (u 36), .ref (u 37), .int 0].set 3 (.int 1))))).set 35 ((u 34), .inl (cI, 120, .inl (upd (fun _ => 0) (0 : Int32).toNatClampNeg 10)))).set 36 ((u 35), .inl (cI, 120, .inl (upd (fun _ => 0) (0 : Int32).toNatClampNeg 0)))).set 37 ((u 36), .inl (cI, 120, .inl (upd (fun _ => 0) (0 : Int32).toNatClampNeg (-1))))) sz)) (wQi (0) D (((((((xW o u cI cZ cJ).set 0 (o, .inr (8, ((xF u).set 9 (.int 0))))).set 32 ((u 31), .inl (cZ, 10, .inl (upd (upd (upd (upd (upd (upd (upd (upd (upd (upd (fun _ => 0) (0 : Int32).toNatClampNeg 0) (1 : Int32).toNatClampNeg 0) (2 : Int32).toNatClampNeg 0) (3 : Int32).toNatClampNeg 0) (4 : Int32).toNatClampNeg 0) (5 : Int32).toNatClampNeg 0) (6 : Int32).toNatClampNeg 0) (7 : Int32).toNatClampNeg 0) (8 : Int32).toNatClampNeg 0) (9 : Int32).toNatClampNeg 0)))).set 34 ((u 33), .inr (2, ([.ref (u 0), .ref (u 12), .ref (u 19), .int 0, .ref (u 34), .ref (u 35), .ref (u 36), .ref (u 37), .int 0].set 3 (.int 1))))).set 35 ((u 34), .inl (cI, 120, .inl (upd (fun _ => 0) (0 : Int32).toNatClampNeg 10)))).set 36 ((u 35), .inl (cI, 120, .inl (upd (fun _ => 0) (0 : Int32).toNatClampNeg 0)))).set 37 ((u 36), .inl (cI, 120, .inl (upd (fun _ => 0) (0 : Int32).toNatClampNeg (-1))))) (va_A (((((((xW o u cI cZ cJ).set 0 (o, .inr (8, ((xF u).set 9 (.int 0))))).set 32 ((u 31), .inl (cZ, 10, .inl (upd (upd (upd (upd (upd (upd (upd (upd (upd (upd (fun _ => 0) (0 : Int32).toNatClampNeg 0) (1 : Int32).toNatClampNeg 0) (2 : Int32).toNatClampNeg 0) (3 : Int32).toNatClampNeg 0) (4 : Int32).toNatClampNeg 0) (5 : Int32).toNatClampNeg 0) (6 : Int32).toNatClampNeg 0) (7 : Int32).toNatClampNeg 0) (8 : Int32).toNatClampNeg 0) (9 : Int32).toNatClampNeg 0)))).set 34 ((u 33), .inr (2, ([.ref (u 0), .ref (u 12), .ref (u 19), .int 0, .ref (u 34), .ref (u 35), .ref (u 36), .ref (u 37), .int 0].set 3 (.int 1))))).set 35 ((u 34), .inl (cI, 120, .inl (upd (fun _ => 0) (0 : Int32).toNatClampNeg 10)))).set 36 ((u 35), .inl (cI, 120, .inl (upd (fun _ => 0) (0 : Int32).toNatClampNeg 0)))).set 37 ((u 36), .inl (cI, 120, .inl (upd (fun _ => 0) (0 : Int32).toNatClampNeg (-1))))) sz)) 0 0 (va_A (((((((xW o u cI cZ cJ).set 0 (o, .inr (8, ((xF u).set 9 (.int 0))))).set 32 ((u 31), .inl (cZ, 10, .inl (upd (upd (upd (upd (upd (upd (upd (upd (upd (upd (fun _ => 0) (0 : Int32).toNatClampNeg 0) (1 : Int32).toNatClampNeg 0) (2 : Int32).toNatClampNeg 0) (3 : Int32).toNatClampNeg 0) (4 : Int32).toNatClampNeg 0) (5 : Int32).toNatClampNeg 0) (6 : Int32).toNatClampNeg 0) (7 : Int32).toNatClampNeg 0) (8 : Int32).toNatClampNeg 0) (9 : Int32).toNatClampNeg 0)))).set 34 ((u 33), .inr (2, ([.ref (u 0), .ref (u 12), .ref (u 19), .int 0, .ref (u 34), .ref (u 35), .ref (u 36), .ref (u 37), .int 0].set 3 (.int 1))))).set 35 ((u 34), .inl (cI, 120, .inl (upd (fun _ => 0) (0 : Int32).toNatClampNeg 10)))).set 36 ((u 35), .inl (cI, 120, .inl (upd (fun _ => 0) (0 : Int32).toNatClampNeg 0)))).set 37 ((u 36), .inl (cI, 120, .inl (upd (fun _ => 0) (0 : Int32).toNatClampNeg (-1))))) sz) := by
  refine aStart (lv := [(0, .ref o), (1, .int 5)]) (Qc := fun A => wQi (0) D (((((((xW o u cI cZ cJ).set 0 (o, .inr (8, ((xF u).set 9 (.int 0))))).set 32 ((u 31), .inl (cZ, 10, .inl (upd (upd (upd (upd (upd (upd (upd (upd (upd (upd (fun _ => 0) (0 : Int32).toNatClampNeg 0) (1 : Int32).toNatClampNeg 0) (2 : Int32).toNatClampNeg 0) (3 : Int32).toNatClampNeg 0) (4 : Int32).toNatClampNeg 0) (5 : Int32).toNatClampNeg 0) (6 : Int32).toNatClampNeg 0) (7 : Int32).toNatClampNeg 0) (8 : Int32).toNatClampNeg 0) (9 : Int32).toNatClampNeg 0)))).set 34 ((u 33), .inr (2, ([.ref (u 0), .ref (u 12), .ref (u 19), .int 0, .ref (u 34), .ref (u 35), .ref (u 36), .ref (u 37), .int 0].set 3 (.int 1))))).set 35 ((u 34), .inl (cI, 120, .inl (upd (fun _ => 0) (0 : Int32).toNatClampNeg 10)))).set 36 ((u 35), .inl (cI, 120, .inl (upd (fun _ => 0) (0 : Int32).toNatClampNeg 0)))).set 37 ((u 36), .inl (cI, 120, .inl (upd (fun _ => 0) (0 : Int32).toNatClampNeg (-1))))) A) (by decide) (Nat.le_of_ble_eq_true rfl) rfl ?_
  intro p e s m args below meth c ls A H S hr hlocks hnm hl hK hP hD hS hA hB
  have hx := S.1
  have hb := S.2.1
  refine lv_iload_n hx hb dX8_many_0 rfl (lv_at hl 1 rfl) ?_
  refine lv_if_lt (tgt := 14) hx hb dX8_many_1 (by decide) (fun c => absurd c (by decide)) (fun _ => ?_)
  refine lv_iload_n hx hb dX8_many_4 rfl (lv_at hl 1 rfl) ?_
  refine lv_bipush (v := 10) hx hb dX8_many_5 (by decide) ?_
  refine lv_icmp_gt (tgt := 14) hx hb dX8_many_7 (by decide) (fun c => absurd c (by decide)) (fun _ => ?_)
  refine lv_iconst (v := 1) hx hb dX8_many_10 (by decide) ?_
  refine lv_goto (tgt := 15) hx hb dX8_many_11 (by decide) ?_
  refine aSv (As := [.int 1]) S (c_X8_needArgument_3 l D cI cZ cJ o u ra ga H.size) ms_X8_needArgument kw_4_4 rfl rfl ⟨Nat.le_of_ble_eq_true rfl, Nat.le_of_ble_eq_true rfl⟩ hP hD hK hS hA hB hl.1 (Nat.le_of_ble_eq_true rfl) ⟨Nat.le_of_ble_eq_true rfl, Nat.le_of_ble_eq_true rfl⟩ dX8_many_15 (fun H locs hz hP hD hS => ?_)
  refine lv_aload_n hx hb dX8_many_18 rfl (lv_at hl 0 rfl) ?_
  refine aVv (As := []) (ci := 8) S (c_X8_refresh_1 l D cI cZ cJ o u ra ga H.size) mi_X8_refresh kw_3_71 rfl rfl ⟨Nat.le_of_ble_eq_true rfl, Nat.le_of_ble_eq_true rfl⟩ hP hD hK hS hA hB (k := 0) rfl rfl rfl hl.1 (Nat.le_of_ble_eq_true rfl) ⟨Nat.le_of_ble_eq_true rfl, Nat.le_of_ble_eq_true rfl⟩ dX8_many_19 (fun H locs hz hP hD hS => ?_)
  refine lv_iload_n hx hb dX8_many_22 rfl (lv_at hl 1 rfl) ?_
  refine lv_tableIn (off := 93) (tgt := 116) hx hb dX8_many_23 (by decide) (by decide) (by decide) (by decide) ?_
  refine lv_aload_n hx hb dX8_many_116 rfl (lv_at hl 0 rfl) ?_
  refine xg (ci := 8) S inX8 rfl hK hP (q0 := 0) rfl 2 (by decide) rfl kw_3_22 rfl dX8_many_117 ?_
  refine xg (ci := 4) S inX4 rfl hK hP (q0 := 20) rfl 16 (by decide) rfl kw_1_199 rfl dX8_many_120 ?_
  exact wEnd S hr hlocks hP hD hS (Nat.le_of_ble_eq_true rfl) (Nat.le_of_ble_eq_true rfl) dX8_many_123 rfl

set_option maxHeartbeats 8000000 in
set_option maxRecDepth 100000 in
theorem c_X8_many_19 (l : Launch) (D : va_G) (cI cZ cJ : ClassId) (o : Nat) (u : Nat → Nat) (ra ga : Nat → Nat) (sz : Nat) : Met l yX8_many (uW yX8_many cX8_many 2 (some .int)) ({ frames := 1, cells := 0, slots := 0, locals := 20 }) (va_Pc [.ref o, .int 6] (aS ra ga D (tyL cI cZ cJ) (((((((xW o u cI cZ cJ).set 0 (o, .inr (8, ((xF u).set 9 (.int 0))))).set 32 ((u 31), .inl (cZ, 10, .inl (upd (upd (upd (upd (upd (upd (upd (upd (upd (upd (fun _ => 0) (0 : Int32).toNatClampNeg 0) (1 : Int32).toNatClampNeg 0) (2 : Int32).toNatClampNeg 0) (3 : Int32).toNatClampNeg 0) (4 : Int32).toNatClampNeg 0) (5 : Int32).toNatClampNeg 0) (6 : Int32).toNatClampNeg 0) (7 : Int32).toNatClampNeg 0) (8 : Int32).toNatClampNeg 0) (9 : Int32).toNatClampNeg 0)))).set 34 ((u 33), .inr (2, ([.ref (u 0), .ref (u 12), .ref (u 19), .int 0, .ref (u 34), .ref (u 35), .ref (u 36), .ref (u 37), .int 0].set 3 (.int 1))))).set 35 ((u 34), .inl (cI, 120, .inl (upd (fun _ => 0) (0 : Int32).toNatClampNeg 10)))).set 36 ((u 35), .inl (cI, 120, .inl (upd (fun _ => 0) (0 : Int32).toNatClampNeg 0)))).set 37 ((u 36), .inl (cI, 120, .inl (upd (fun _ => 0) (0 : Int32).toNatClampNeg (-1))))) sz)) (wQi (0) D (((((((xW o u cI cZ cJ).set 0 (o, .inr (8, ((xF u).set 9 (.int 0))))).set 32 ((u 31), .inl (cZ, 10, .inl (upd (upd (upd (upd (upd (upd (upd (upd (upd (upd (fun _ => 0) (0 : Int32).toNatClampNeg 0) (1 : Int32).toNatClampNeg 0) (2 : Int32).toNatClampNeg 0) (3 : Int32).toNatClampNeg 0) (4 : Int32).toNatClampNeg 0) (5 : Int32).toNatClampNeg 0) (6 : Int32).toNatClampNeg 0) (7 : Int32).toNatClampNeg 0) (8 : Int32).toNatClampNeg 0) (9 : Int32).toNatClampNeg 0)))).set 34 ((u 33), .inr (2, ([.ref (u 0), .ref (u 12), .ref (u 19), .int 0, .ref (u 34), .ref (u 35), .ref (u 36), .ref (u 37), .int 0].set 3 (.int 1))))).set 35 ((u 34), .inl (cI, 120, .inl (upd (fun _ => 0) (0 : Int32).toNatClampNeg 10)))).set 36 ((u 35), .inl (cI, 120, .inl (upd (fun _ => 0) (0 : Int32).toNatClampNeg 0)))).set 37 ((u 36), .inl (cI, 120, .inl (upd (fun _ => 0) (0 : Int32).toNatClampNeg (-1))))) (va_A (((((((xW o u cI cZ cJ).set 0 (o, .inr (8, ((xF u).set 9 (.int 0))))).set 32 ((u 31), .inl (cZ, 10, .inl (upd (upd (upd (upd (upd (upd (upd (upd (upd (upd (fun _ => 0) (0 : Int32).toNatClampNeg 0) (1 : Int32).toNatClampNeg 0) (2 : Int32).toNatClampNeg 0) (3 : Int32).toNatClampNeg 0) (4 : Int32).toNatClampNeg 0) (5 : Int32).toNatClampNeg 0) (6 : Int32).toNatClampNeg 0) (7 : Int32).toNatClampNeg 0) (8 : Int32).toNatClampNeg 0) (9 : Int32).toNatClampNeg 0)))).set 34 ((u 33), .inr (2, ([.ref (u 0), .ref (u 12), .ref (u 19), .int 0, .ref (u 34), .ref (u 35), .ref (u 36), .ref (u 37), .int 0].set 3 (.int 1))))).set 35 ((u 34), .inl (cI, 120, .inl (upd (fun _ => 0) (0 : Int32).toNatClampNeg 10)))).set 36 ((u 35), .inl (cI, 120, .inl (upd (fun _ => 0) (0 : Int32).toNatClampNeg 0)))).set 37 ((u 36), .inl (cI, 120, .inl (upd (fun _ => 0) (0 : Int32).toNatClampNeg (-1))))) sz)) 0 0 (va_A (((((((xW o u cI cZ cJ).set 0 (o, .inr (8, ((xF u).set 9 (.int 0))))).set 32 ((u 31), .inl (cZ, 10, .inl (upd (upd (upd (upd (upd (upd (upd (upd (upd (upd (fun _ => 0) (0 : Int32).toNatClampNeg 0) (1 : Int32).toNatClampNeg 0) (2 : Int32).toNatClampNeg 0) (3 : Int32).toNatClampNeg 0) (4 : Int32).toNatClampNeg 0) (5 : Int32).toNatClampNeg 0) (6 : Int32).toNatClampNeg 0) (7 : Int32).toNatClampNeg 0) (8 : Int32).toNatClampNeg 0) (9 : Int32).toNatClampNeg 0)))).set 34 ((u 33), .inr (2, ([.ref (u 0), .ref (u 12), .ref (u 19), .int 0, .ref (u 34), .ref (u 35), .ref (u 36), .ref (u 37), .int 0].set 3 (.int 1))))).set 35 ((u 34), .inl (cI, 120, .inl (upd (fun _ => 0) (0 : Int32).toNatClampNeg 10)))).set 36 ((u 35), .inl (cI, 120, .inl (upd (fun _ => 0) (0 : Int32).toNatClampNeg 0)))).set 37 ((u 36), .inl (cI, 120, .inl (upd (fun _ => 0) (0 : Int32).toNatClampNeg (-1))))) sz) := by
  refine aStart (lv := [(0, .ref o), (1, .int 6)]) (Qc := fun A => wQi (0) D (((((((xW o u cI cZ cJ).set 0 (o, .inr (8, ((xF u).set 9 (.int 0))))).set 32 ((u 31), .inl (cZ, 10, .inl (upd (upd (upd (upd (upd (upd (upd (upd (upd (upd (fun _ => 0) (0 : Int32).toNatClampNeg 0) (1 : Int32).toNatClampNeg 0) (2 : Int32).toNatClampNeg 0) (3 : Int32).toNatClampNeg 0) (4 : Int32).toNatClampNeg 0) (5 : Int32).toNatClampNeg 0) (6 : Int32).toNatClampNeg 0) (7 : Int32).toNatClampNeg 0) (8 : Int32).toNatClampNeg 0) (9 : Int32).toNatClampNeg 0)))).set 34 ((u 33), .inr (2, ([.ref (u 0), .ref (u 12), .ref (u 19), .int 0, .ref (u 34), .ref (u 35), .ref (u 36), .ref (u 37), .int 0].set 3 (.int 1))))).set 35 ((u 34), .inl (cI, 120, .inl (upd (fun _ => 0) (0 : Int32).toNatClampNeg 10)))).set 36 ((u 35), .inl (cI, 120, .inl (upd (fun _ => 0) (0 : Int32).toNatClampNeg 0)))).set 37 ((u 36), .inl (cI, 120, .inl (upd (fun _ => 0) (0 : Int32).toNatClampNeg (-1))))) A) (by decide) (Nat.le_of_ble_eq_true rfl) rfl ?_
  intro p e s m args below meth c ls A H S hr hlocks hnm hl hK hP hD hS hA hB
  have hx := S.1
  have hb := S.2.1
  refine lv_iload_n hx hb dX8_many_0 rfl (lv_at hl 1 rfl) ?_
  refine lv_if_lt (tgt := 14) hx hb dX8_many_1 (by decide) (fun c => absurd c (by decide)) (fun _ => ?_)
  refine lv_iload_n hx hb dX8_many_4 rfl (lv_at hl 1 rfl) ?_
  refine lv_bipush (v := 10) hx hb dX8_many_5 (by decide) ?_
  refine lv_icmp_gt (tgt := 14) hx hb dX8_many_7 (by decide) (fun c => absurd c (by decide)) (fun _ => ?_)
  refine lv_iconst (v := 1) hx hb dX8_many_10 (by decide) ?_
  refine lv_goto (tgt := 15) hx hb dX8_many_11 (by decide) ?_
  refine aSv (As := [.int 1]) S (c_X8_needArgument_3 l D cI cZ cJ o u ra ga H.size) ms_X8_needArgument kw_4_4 rfl rfl ⟨Nat.le_of_ble_eq_true rfl, Nat.le_of_ble_eq_true rfl⟩ hP hD hK hS hA hB hl.1 (Nat.le_of_ble_eq_true rfl) ⟨Nat.le_of_ble_eq_true rfl, Nat.le_of_ble_eq_true rfl⟩ dX8_many_15 (fun H locs hz hP hD hS => ?_)
  refine lv_aload_n hx hb dX8_many_18 rfl (lv_at hl 0 rfl) ?_
  refine aVv (As := []) (ci := 8) S (c_X8_refresh_1 l D cI cZ cJ o u ra ga H.size) mi_X8_refresh kw_3_71 rfl rfl ⟨Nat.le_of_ble_eq_true rfl, Nat.le_of_ble_eq_true rfl⟩ hP hD hK hS hA hB (k := 0) rfl rfl rfl hl.1 (Nat.le_of_ble_eq_true rfl) ⟨Nat.le_of_ble_eq_true rfl, Nat.le_of_ble_eq_true rfl⟩ dX8_many_19 (fun H locs hz hP hD hS => ?_)
  refine lv_iload_n hx hb dX8_many_22 rfl (lv_at hl 1 rfl) ?_
  refine lv_tableIn (off := 101) (tgt := 124) hx hb dX8_many_23 (by decide) (by decide) (by decide) (by decide) ?_
  refine lv_aload_n hx hb dX8_many_124 rfl (lv_at hl 0 rfl) ?_
  refine xg (ci := 8) S inX8 rfl hK hP (q0 := 0) rfl 2 (by decide) rfl kw_3_22 rfl dX8_many_125 ?_
  refine xg (ci := 4) S inX4 rfl hK hP (q0 := 20) rfl 18 (by decide) rfl kw_1_203 rfl dX8_many_128 ?_
  exact wEnd S hr hlocks hP hD hS (Nat.le_of_ble_eq_true rfl) (Nat.le_of_ble_eq_true rfl) dX8_many_131 rfl

set_option maxHeartbeats 8000000 in
set_option maxRecDepth 100000 in
theorem c_X8_many_20 (l : Launch) (D : va_G) (cI cZ cJ : ClassId) (o : Nat) (u : Nat → Nat) (ra ga : Nat → Nat) (sz : Nat) : Met l yX8_many (uW yX8_many cX8_many 2 (some .int)) ({ frames := 1, cells := 0, slots := 0, locals := 20 }) (va_Pc [.ref o, .int 7] (aS ra ga D (tyL cI cZ cJ) (((((((xW o u cI cZ cJ).set 0 (o, .inr (8, ((xF u).set 9 (.int 0))))).set 32 ((u 31), .inl (cZ, 10, .inl (upd (upd (upd (upd (upd (upd (upd (upd (upd (upd (fun _ => 0) (0 : Int32).toNatClampNeg 0) (1 : Int32).toNatClampNeg 0) (2 : Int32).toNatClampNeg 0) (3 : Int32).toNatClampNeg 0) (4 : Int32).toNatClampNeg 0) (5 : Int32).toNatClampNeg 0) (6 : Int32).toNatClampNeg 0) (7 : Int32).toNatClampNeg 0) (8 : Int32).toNatClampNeg 0) (9 : Int32).toNatClampNeg 0)))).set 34 ((u 33), .inr (2, ([.ref (u 0), .ref (u 12), .ref (u 19), .int 0, .ref (u 34), .ref (u 35), .ref (u 36), .ref (u 37), .int 0].set 3 (.int 1))))).set 35 ((u 34), .inl (cI, 120, .inl (upd (fun _ => 0) (0 : Int32).toNatClampNeg 10)))).set 36 ((u 35), .inl (cI, 120, .inl (upd (fun _ => 0) (0 : Int32).toNatClampNeg 0)))).set 37 ((u 36), .inl (cI, 120, .inl (upd (fun _ => 0) (0 : Int32).toNatClampNeg (-1))))) sz)) (wQi (7) D (((((((xW o u cI cZ cJ).set 0 (o, .inr (8, ((xF u).set 9 (.int 0))))).set 32 ((u 31), .inl (cZ, 10, .inl (upd (upd (upd (upd (upd (upd (upd (upd (upd (upd (fun _ => 0) (0 : Int32).toNatClampNeg 0) (1 : Int32).toNatClampNeg 0) (2 : Int32).toNatClampNeg 0) (3 : Int32).toNatClampNeg 0) (4 : Int32).toNatClampNeg 0) (5 : Int32).toNatClampNeg 0) (6 : Int32).toNatClampNeg 0) (7 : Int32).toNatClampNeg 0) (8 : Int32).toNatClampNeg 0) (9 : Int32).toNatClampNeg 0)))).set 34 ((u 33), .inr (2, ([.ref (u 0), .ref (u 12), .ref (u 19), .int 0, .ref (u 34), .ref (u 35), .ref (u 36), .ref (u 37), .int 0].set 3 (.int 1))))).set 35 ((u 34), .inl (cI, 120, .inl (upd (fun _ => 0) (0 : Int32).toNatClampNeg 10)))).set 36 ((u 35), .inl (cI, 120, .inl (upd (fun _ => 0) (0 : Int32).toNatClampNeg 0)))).set 37 ((u 36), .inl (cI, 120, .inl (upd (fun _ => 0) (0 : Int32).toNatClampNeg (-1))))) (va_A (((((((xW o u cI cZ cJ).set 0 (o, .inr (8, ((xF u).set 9 (.int 0))))).set 32 ((u 31), .inl (cZ, 10, .inl (upd (upd (upd (upd (upd (upd (upd (upd (upd (upd (fun _ => 0) (0 : Int32).toNatClampNeg 0) (1 : Int32).toNatClampNeg 0) (2 : Int32).toNatClampNeg 0) (3 : Int32).toNatClampNeg 0) (4 : Int32).toNatClampNeg 0) (5 : Int32).toNatClampNeg 0) (6 : Int32).toNatClampNeg 0) (7 : Int32).toNatClampNeg 0) (8 : Int32).toNatClampNeg 0) (9 : Int32).toNatClampNeg 0)))).set 34 ((u 33), .inr (2, ([.ref (u 0), .ref (u 12), .ref (u 19), .int 0, .ref (u 34), .ref (u 35), .ref (u 36), .ref (u 37), .int 0].set 3 (.int 1))))).set 35 ((u 34), .inl (cI, 120, .inl (upd (fun _ => 0) (0 : Int32).toNatClampNeg 10)))).set 36 ((u 35), .inl (cI, 120, .inl (upd (fun _ => 0) (0 : Int32).toNatClampNeg 0)))).set 37 ((u 36), .inl (cI, 120, .inl (upd (fun _ => 0) (0 : Int32).toNatClampNeg (-1))))) sz)) 0 0 (va_A (((((((xW o u cI cZ cJ).set 0 (o, .inr (8, ((xF u).set 9 (.int 0))))).set 32 ((u 31), .inl (cZ, 10, .inl (upd (upd (upd (upd (upd (upd (upd (upd (upd (upd (fun _ => 0) (0 : Int32).toNatClampNeg 0) (1 : Int32).toNatClampNeg 0) (2 : Int32).toNatClampNeg 0) (3 : Int32).toNatClampNeg 0) (4 : Int32).toNatClampNeg 0) (5 : Int32).toNatClampNeg 0) (6 : Int32).toNatClampNeg 0) (7 : Int32).toNatClampNeg 0) (8 : Int32).toNatClampNeg 0) (9 : Int32).toNatClampNeg 0)))).set 34 ((u 33), .inr (2, ([.ref (u 0), .ref (u 12), .ref (u 19), .int 0, .ref (u 34), .ref (u 35), .ref (u 36), .ref (u 37), .int 0].set 3 (.int 1))))).set 35 ((u 34), .inl (cI, 120, .inl (upd (fun _ => 0) (0 : Int32).toNatClampNeg 10)))).set 36 ((u 35), .inl (cI, 120, .inl (upd (fun _ => 0) (0 : Int32).toNatClampNeg 0)))).set 37 ((u 36), .inl (cI, 120, .inl (upd (fun _ => 0) (0 : Int32).toNatClampNeg (-1))))) sz) := by
  refine aStart (lv := [(0, .ref o), (1, .int 7)]) (Qc := fun A => wQi (7) D (((((((xW o u cI cZ cJ).set 0 (o, .inr (8, ((xF u).set 9 (.int 0))))).set 32 ((u 31), .inl (cZ, 10, .inl (upd (upd (upd (upd (upd (upd (upd (upd (upd (upd (fun _ => 0) (0 : Int32).toNatClampNeg 0) (1 : Int32).toNatClampNeg 0) (2 : Int32).toNatClampNeg 0) (3 : Int32).toNatClampNeg 0) (4 : Int32).toNatClampNeg 0) (5 : Int32).toNatClampNeg 0) (6 : Int32).toNatClampNeg 0) (7 : Int32).toNatClampNeg 0) (8 : Int32).toNatClampNeg 0) (9 : Int32).toNatClampNeg 0)))).set 34 ((u 33), .inr (2, ([.ref (u 0), .ref (u 12), .ref (u 19), .int 0, .ref (u 34), .ref (u 35), .ref (u 36), .ref (u 37), .int 0].set 3 (.int 1))))).set 35 ((u 34), .inl (cI, 120, .inl (upd (fun _ => 0) (0 : Int32).toNatClampNeg 10)))).set 36 ((u 35), .inl (cI, 120, .inl (upd (fun _ => 0) (0 : Int32).toNatClampNeg 0)))).set 37 ((u 36), .inl (cI, 120, .inl (upd (fun _ => 0) (0 : Int32).toNatClampNeg (-1))))) A) (by decide) (Nat.le_of_ble_eq_true rfl) rfl ?_
  intro p e s m args below meth c ls A H S hr hlocks hnm hl hK hP hD hS hA hB
  have hx := S.1
  have hb := S.2.1
  refine lv_iload_n hx hb dX8_many_0 rfl (lv_at hl 1 rfl) ?_
  refine lv_if_lt (tgt := 14) hx hb dX8_many_1 (by decide) (fun c => absurd c (by decide)) (fun _ => ?_)
  refine lv_iload_n hx hb dX8_many_4 rfl (lv_at hl 1 rfl) ?_
  refine lv_bipush (v := 10) hx hb dX8_many_5 (by decide) ?_
  refine lv_icmp_gt (tgt := 14) hx hb dX8_many_7 (by decide) (fun c => absurd c (by decide)) (fun _ => ?_)
  refine lv_iconst (v := 1) hx hb dX8_many_10 (by decide) ?_
  refine lv_goto (tgt := 15) hx hb dX8_many_11 (by decide) ?_
  refine aSv (As := [.int 1]) S (c_X8_needArgument_3 l D cI cZ cJ o u ra ga H.size) ms_X8_needArgument kw_4_4 rfl rfl ⟨Nat.le_of_ble_eq_true rfl, Nat.le_of_ble_eq_true rfl⟩ hP hD hK hS hA hB hl.1 (Nat.le_of_ble_eq_true rfl) ⟨Nat.le_of_ble_eq_true rfl, Nat.le_of_ble_eq_true rfl⟩ dX8_many_15 (fun H locs hz hP hD hS => ?_)
  refine lv_aload_n hx hb dX8_many_18 rfl (lv_at hl 0 rfl) ?_
  refine aVv (As := []) (ci := 8) S (c_X8_refresh_1 l D cI cZ cJ o u ra ga H.size) mi_X8_refresh kw_3_71 rfl rfl ⟨Nat.le_of_ble_eq_true rfl, Nat.le_of_ble_eq_true rfl⟩ hP hD hK hS hA hB (k := 0) rfl rfl rfl hl.1 (Nat.le_of_ble_eq_true rfl) ⟨Nat.le_of_ble_eq_true rfl, Nat.le_of_ble_eq_true rfl⟩ dX8_many_19 (fun H locs hz hP hD hS => ?_)
  refine lv_iload_n hx hb dX8_many_22 rfl (lv_at hl 1 rfl) ?_
  refine lv_tableIn (off := 109) (tgt := 132) hx hb dX8_many_23 (by decide) (by decide) (by decide) (by decide) ?_
  refine lv_aload_n hx hb dX8_many_132 rfl (lv_at hl 0 rfl) ?_
  refine xg (ci := 8) S inX8 rfl hK hP (q0 := 0) rfl 10 (by decide) rfl kw_3_30 rfl dX8_many_133 ?_
  exact wEnd S hr hlocks hP hD hS (Nat.le_of_ble_eq_true rfl) (Nat.le_of_ble_eq_true rfl) dX8_many_136 rfl

set_option maxHeartbeats 8000000 in
set_option maxRecDepth 100000 in
theorem c_X8_many_21 (l : Launch) (D : va_G) (cI cZ cJ : ClassId) (o : Nat) (u : Nat → Nat) (ra ga : Nat → Nat) (sz : Nat) : Met l yX8_many (uW yX8_many cX8_many 2 (some .int)) ({ frames := 1, cells := 0, slots := 0, locals := 20 }) (va_Pc [.ref o, .int 8] (aS ra ga D (tyL cI cZ cJ) (((((((xW o u cI cZ cJ).set 0 (o, .inr (8, ((xF u).set 9 (.int 0))))).set 32 ((u 31), .inl (cZ, 10, .inl (upd (upd (upd (upd (upd (upd (upd (upd (upd (upd (fun _ => 0) (0 : Int32).toNatClampNeg 0) (1 : Int32).toNatClampNeg 0) (2 : Int32).toNatClampNeg 0) (3 : Int32).toNatClampNeg 0) (4 : Int32).toNatClampNeg 0) (5 : Int32).toNatClampNeg 0) (6 : Int32).toNatClampNeg 0) (7 : Int32).toNatClampNeg 0) (8 : Int32).toNatClampNeg 0) (9 : Int32).toNatClampNeg 0)))).set 34 ((u 33), .inr (2, ([.ref (u 0), .ref (u 12), .ref (u 19), .int 0, .ref (u 34), .ref (u 35), .ref (u 36), .ref (u 37), .int 0].set 3 (.int 1))))).set 35 ((u 34), .inl (cI, 120, .inl (upd (fun _ => 0) (0 : Int32).toNatClampNeg 10)))).set 36 ((u 35), .inl (cI, 120, .inl (upd (fun _ => 0) (0 : Int32).toNatClampNeg 0)))).set 37 ((u 36), .inl (cI, 120, .inl (upd (fun _ => 0) (0 : Int32).toNatClampNeg (-1))))) sz)) (wQi (1000) D (((((((xW o u cI cZ cJ).set 0 (o, .inr (8, ((xF u).set 9 (.int 0))))).set 32 ((u 31), .inl (cZ, 10, .inl (upd (upd (upd (upd (upd (upd (upd (upd (upd (upd (fun _ => 0) (0 : Int32).toNatClampNeg 0) (1 : Int32).toNatClampNeg 0) (2 : Int32).toNatClampNeg 0) (3 : Int32).toNatClampNeg 0) (4 : Int32).toNatClampNeg 0) (5 : Int32).toNatClampNeg 0) (6 : Int32).toNatClampNeg 0) (7 : Int32).toNatClampNeg 0) (8 : Int32).toNatClampNeg 0) (9 : Int32).toNatClampNeg 0)))).set 34 ((u 33), .inr (2, ([.ref (u 0), .ref (u 12), .ref (u 19), .int 0, .ref (u 34), .ref (u 35), .ref (u 36), .ref (u 37), .int 0].set 3 (.int 1))))).set 35 ((u 34), .inl (cI, 120, .inl (upd (fun _ => 0) (0 : Int32).toNatClampNeg 10)))).set 36 ((u 35), .inl (cI, 120, .inl (upd (fun _ => 0) (0 : Int32).toNatClampNeg 0)))).set 37 ((u 36), .inl (cI, 120, .inl (upd (fun _ => 0) (0 : Int32).toNatClampNeg (-1))))) (va_A (((((((xW o u cI cZ cJ).set 0 (o, .inr (8, ((xF u).set 9 (.int 0))))).set 32 ((u 31), .inl (cZ, 10, .inl (upd (upd (upd (upd (upd (upd (upd (upd (upd (upd (fun _ => 0) (0 : Int32).toNatClampNeg 0) (1 : Int32).toNatClampNeg 0) (2 : Int32).toNatClampNeg 0) (3 : Int32).toNatClampNeg 0) (4 : Int32).toNatClampNeg 0) (5 : Int32).toNatClampNeg 0) (6 : Int32).toNatClampNeg 0) (7 : Int32).toNatClampNeg 0) (8 : Int32).toNatClampNeg 0) (9 : Int32).toNatClampNeg 0)))).set 34 ((u 33), .inr (2, ([.ref (u 0), .ref (u 12), .ref (u 19), .int 0, .ref (u 34), .ref (u 35), .ref (u 36), .ref (u 37), .int 0].set 3 (.int 1))))).set 35 ((u 34), .inl (cI, 120, .inl (upd (fun _ => 0) (0 : Int32).toNatClampNeg 10)))).set 36 ((u 35), .inl (cI, 120, .inl (upd (fun _ => 0) (0 : Int32).toNatClampNeg 0)))).set 37 ((u 36), .inl (cI, 120, .inl (upd (fun _ => 0) (0 : Int32).toNatClampNeg (-1))))) sz)) 0 0 (va_A (((((((xW o u cI cZ cJ).set 0 (o, .inr (8, ((xF u).set 9 (.int 0))))).set 32 ((u 31), .inl (cZ, 10, .inl (upd (upd (upd (upd (upd (upd (upd (upd (upd (upd (fun _ => 0) (0 : Int32).toNatClampNeg 0) (1 : Int32).toNatClampNeg 0) (2 : Int32).toNatClampNeg 0) (3 : Int32).toNatClampNeg 0) (4 : Int32).toNatClampNeg 0) (5 : Int32).toNatClampNeg 0) (6 : Int32).toNatClampNeg 0) (7 : Int32).toNatClampNeg 0) (8 : Int32).toNatClampNeg 0) (9 : Int32).toNatClampNeg 0)))).set 34 ((u 33), .inr (2, ([.ref (u 0), .ref (u 12), .ref (u 19), .int 0, .ref (u 34), .ref (u 35), .ref (u 36), .ref (u 37), .int 0].set 3 (.int 1))))).set 35 ((u 34), .inl (cI, 120, .inl (upd (fun _ => 0) (0 : Int32).toNatClampNeg 10)))).set 36 ((u 35), .inl (cI, 120, .inl (upd (fun _ => 0) (0 : Int32).toNatClampNeg 0)))).set 37 ((u 36), .inl (cI, 120, .inl (upd (fun _ => 0) (0 : Int32).toNatClampNeg (-1))))) sz) := by
  refine aStart (lv := [(0, .ref o), (1, .int 8)]) (Qc := fun A => wQi (1000) D (((((((xW o u cI cZ cJ).set 0 (o, .inr (8, ((xF u).set 9 (.int 0))))).set 32 ((u 31), .inl (cZ, 10, .inl (upd (upd (upd (upd (upd (upd (upd (upd (upd (upd (fun _ => 0) (0 : Int32).toNatClampNeg 0) (1 : Int32).toNatClampNeg 0) (2 : Int32).toNatClampNeg 0) (3 : Int32).toNatClampNeg 0) (4 : Int32).toNatClampNeg 0) (5 : Int32).toNatClampNeg 0) (6 : Int32).toNatClampNeg 0) (7 : Int32).toNatClampNeg 0) (8 : Int32).toNatClampNeg 0) (9 : Int32).toNatClampNeg 0)))).set 34 ((u 33), .inr (2, ([.ref (u 0), .ref (u 12), .ref (u 19), .int 0, .ref (u 34), .ref (u 35), .ref (u 36), .ref (u 37), .int 0].set 3 (.int 1))))).set 35 ((u 34), .inl (cI, 120, .inl (upd (fun _ => 0) (0 : Int32).toNatClampNeg 10)))).set 36 ((u 35), .inl (cI, 120, .inl (upd (fun _ => 0) (0 : Int32).toNatClampNeg 0)))).set 37 ((u 36), .inl (cI, 120, .inl (upd (fun _ => 0) (0 : Int32).toNatClampNeg (-1))))) A) (by decide) (Nat.le_of_ble_eq_true rfl) rfl ?_
  intro p e s m args below meth c ls A H S hr hlocks hnm hl hK hP hD hS hA hB
  have hx := S.1
  have hb := S.2.1
  refine lv_iload_n hx hb dX8_many_0 rfl (lv_at hl 1 rfl) ?_
  refine lv_if_lt (tgt := 14) hx hb dX8_many_1 (by decide) (fun c => absurd c (by decide)) (fun _ => ?_)
  refine lv_iload_n hx hb dX8_many_4 rfl (lv_at hl 1 rfl) ?_
  refine lv_bipush (v := 10) hx hb dX8_many_5 (by decide) ?_
  refine lv_icmp_gt (tgt := 14) hx hb dX8_many_7 (by decide) (fun c => absurd c (by decide)) (fun _ => ?_)
  refine lv_iconst (v := 1) hx hb dX8_many_10 (by decide) ?_
  refine lv_goto (tgt := 15) hx hb dX8_many_11 (by decide) ?_
  refine aSv (As := [.int 1]) S (c_X8_needArgument_3 l D cI cZ cJ o u ra ga H.size) ms_X8_needArgument kw_4_4 rfl rfl ⟨Nat.le_of_ble_eq_true rfl, Nat.le_of_ble_eq_true rfl⟩ hP hD hK hS hA hB hl.1 (Nat.le_of_ble_eq_true rfl) ⟨Nat.le_of_ble_eq_true rfl, Nat.le_of_ble_eq_true rfl⟩ dX8_many_15 (fun H locs hz hP hD hS => ?_)
  refine lv_aload_n hx hb dX8_many_18 rfl (lv_at hl 0 rfl) ?_
  refine aVv (As := []) (ci := 8) S (c_X8_refresh_1 l D cI cZ cJ o u ra ga H.size) mi_X8_refresh kw_3_71 rfl rfl ⟨Nat.le_of_ble_eq_true rfl, Nat.le_of_ble_eq_true rfl⟩ hP hD hK hS hA hB (k := 0) rfl rfl rfl hl.1 (Nat.le_of_ble_eq_true rfl) ⟨Nat.le_of_ble_eq_true rfl, Nat.le_of_ble_eq_true rfl⟩ dX8_many_19 (fun H locs hz hP hD hS => ?_)
  refine lv_iload_n hx hb dX8_many_22 rfl (lv_at hl 1 rfl) ?_
  refine lv_tableIn (off := 114) (tgt := 137) hx hb dX8_many_23 (by decide) (by decide) (by decide) (by decide) ?_
  refine lv_aload_n hx hb dX8_many_137 rfl (lv_at hl 0 rfl) ?_
  refine xg (ci := 8) S inX8 rfl hK hP (q0 := 0) rfl 11 (by decide) rfl kw_3_31 rfl dX8_many_138 ?_
  exact wEnd S hr hlocks hP hD hS (Nat.le_of_ble_eq_true rfl) (Nat.le_of_ble_eq_true rfl) dX8_many_141 rfl

set_option maxHeartbeats 8000000 in
set_option maxRecDepth 100000 in
theorem c_X8_many_22 (l : Launch) (D : va_G) (cI cZ cJ : ClassId) (o : Nat) (u : Nat → Nat) (ra ga : Nat → Nat) (sz : Nat) : Met l yX8_many (uW yX8_many cX8_many 2 (some .int)) ({ frames := 1, cells := 0, slots := 0, locals := 20 }) (va_Pc [.ref o, .int 9] (aS ra ga D (tyL cI cZ cJ) (((((((xW o u cI cZ cJ).set 0 (o, .inr (8, ((xF u).set 9 (.int 0))))).set 32 ((u 31), .inl (cZ, 10, .inl (upd (upd (upd (upd (upd (upd (upd (upd (upd (upd (fun _ => 0) (0 : Int32).toNatClampNeg 0) (1 : Int32).toNatClampNeg 0) (2 : Int32).toNatClampNeg 0) (3 : Int32).toNatClampNeg 0) (4 : Int32).toNatClampNeg 0) (5 : Int32).toNatClampNeg 0) (6 : Int32).toNatClampNeg 0) (7 : Int32).toNatClampNeg 0) (8 : Int32).toNatClampNeg 0) (9 : Int32).toNatClampNeg 0)))).set 34 ((u 33), .inr (2, ([.ref (u 0), .ref (u 12), .ref (u 19), .int 0, .ref (u 34), .ref (u 35), .ref (u 36), .ref (u 37), .int 0].set 3 (.int 1))))).set 35 ((u 34), .inl (cI, 120, .inl (upd (fun _ => 0) (0 : Int32).toNatClampNeg 10)))).set 36 ((u 35), .inl (cI, 120, .inl (upd (fun _ => 0) (0 : Int32).toNatClampNeg 0)))).set 37 ((u 36), .inl (cI, 120, .inl (upd (fun _ => 0) (0 : Int32).toNatClampNeg (-1))))) sz)) (wQi (20) D (((((((xW o u cI cZ cJ).set 0 (o, .inr (8, ((xF u).set 9 (.int 0))))).set 32 ((u 31), .inl (cZ, 10, .inl (upd (upd (upd (upd (upd (upd (upd (upd (upd (upd (fun _ => 0) (0 : Int32).toNatClampNeg 0) (1 : Int32).toNatClampNeg 0) (2 : Int32).toNatClampNeg 0) (3 : Int32).toNatClampNeg 0) (4 : Int32).toNatClampNeg 0) (5 : Int32).toNatClampNeg 0) (6 : Int32).toNatClampNeg 0) (7 : Int32).toNatClampNeg 0) (8 : Int32).toNatClampNeg 0) (9 : Int32).toNatClampNeg 0)))).set 34 ((u 33), .inr (2, ([.ref (u 0), .ref (u 12), .ref (u 19), .int 0, .ref (u 34), .ref (u 35), .ref (u 36), .ref (u 37), .int 0].set 3 (.int 1))))).set 35 ((u 34), .inl (cI, 120, .inl (upd (fun _ => 0) (0 : Int32).toNatClampNeg 10)))).set 36 ((u 35), .inl (cI, 120, .inl (upd (fun _ => 0) (0 : Int32).toNatClampNeg 0)))).set 37 ((u 36), .inl (cI, 120, .inl (upd (fun _ => 0) (0 : Int32).toNatClampNeg (-1))))) (va_A (((((((xW o u cI cZ cJ).set 0 (o, .inr (8, ((xF u).set 9 (.int 0))))).set 32 ((u 31), .inl (cZ, 10, .inl (upd (upd (upd (upd (upd (upd (upd (upd (upd (upd (fun _ => 0) (0 : Int32).toNatClampNeg 0) (1 : Int32).toNatClampNeg 0) (2 : Int32).toNatClampNeg 0) (3 : Int32).toNatClampNeg 0) (4 : Int32).toNatClampNeg 0) (5 : Int32).toNatClampNeg 0) (6 : Int32).toNatClampNeg 0) (7 : Int32).toNatClampNeg 0) (8 : Int32).toNatClampNeg 0) (9 : Int32).toNatClampNeg 0)))).set 34 ((u 33), .inr (2, ([.ref (u 0), .ref (u 12), .ref (u 19), .int 0, .ref (u 34), .ref (u 35), .ref (u 36), .ref (u 37), .int 0].set 3 (.int 1))))).set 35 ((u 34), .inl (cI, 120, .inl (upd (fun _ => 0) (0 : Int32).toNatClampNeg 10)))).set 36 ((u 35), .inl (cI, 120, .inl (upd (fun _ => 0) (0 : Int32).toNatClampNeg 0)))).set 37 ((u 36), .inl (cI, 120, .inl (upd (fun _ => 0) (0 : Int32).toNatClampNeg (-1))))) sz)) 0 0 (va_A (((((((xW o u cI cZ cJ).set 0 (o, .inr (8, ((xF u).set 9 (.int 0))))).set 32 ((u 31), .inl (cZ, 10, .inl (upd (upd (upd (upd (upd (upd (upd (upd (upd (upd (fun _ => 0) (0 : Int32).toNatClampNeg 0) (1 : Int32).toNatClampNeg 0) (2 : Int32).toNatClampNeg 0) (3 : Int32).toNatClampNeg 0) (4 : Int32).toNatClampNeg 0) (5 : Int32).toNatClampNeg 0) (6 : Int32).toNatClampNeg 0) (7 : Int32).toNatClampNeg 0) (8 : Int32).toNatClampNeg 0) (9 : Int32).toNatClampNeg 0)))).set 34 ((u 33), .inr (2, ([.ref (u 0), .ref (u 12), .ref (u 19), .int 0, .ref (u 34), .ref (u 35), .ref (u 36), .ref (u 37), .int 0].set 3 (.int 1))))).set 35 ((u 34), .inl (cI, 120, .inl (upd (fun _ => 0) (0 : Int32).toNatClampNeg 10)))).set 36 ((u 35), .inl (cI, 120, .inl (upd (fun _ => 0) (0 : Int32).toNatClampNeg 0)))).set 37 ((u 36), .inl (cI, 120, .inl (upd (fun _ => 0) (0 : Int32).toNatClampNeg (-1))))) sz) := by
  refine aStart (lv := [(0, .ref o), (1, .int 9)]) (Qc := fun A => wQi (20) D (((((((xW o u cI cZ cJ).set 0 (o, .inr (8, ((xF u).set 9 (.int 0))))).set 32 ((u 31), .inl (cZ, 10, .inl (upd (upd (upd (upd (upd (upd (upd (upd (upd (upd (fun _ => 0) (0 : Int32).toNatClampNeg 0) (1 : Int32).toNatClampNeg 0) (2 : Int32).toNatClampNeg 0) (3 : Int32).toNatClampNeg 0) (4 : Int32).toNatClampNeg 0) (5 : Int32).toNatClampNeg 0) (6 : Int32).toNatClampNeg 0) (7 : Int32).toNatClampNeg 0) (8 : Int32).toNatClampNeg 0) (9 : Int32).toNatClampNeg 0)))).set 34 ((u 33), .inr (2, ([.ref (u 0), .ref (u 12), .ref (u 19), .int 0, .ref (u 34), .ref (u 35), .ref (u 36), .ref (u 37), .int 0].set 3 (.int 1))))).set 35 ((u 34), .inl (cI, 120, .inl (upd (fun _ => 0) (0 : Int32).toNatClampNeg 10)))).set 36 ((u 35), .inl (cI, 120, .inl (upd (fun _ => 0) (0 : Int32).toNatClampNeg 0)))).set 37 ((u 36), .inl (cI, 120, .inl (upd (fun _ => 0) (0 : Int32).toNatClampNeg (-1))))) A) (by decide) (Nat.le_of_ble_eq_true rfl) rfl ?_
  intro p e s m args below meth c ls A H S hr hlocks hnm hl hK hP hD hS hA hB
  have hx := S.1
  have hb := S.2.1
  refine lv_iload_n hx hb dX8_many_0 rfl (lv_at hl 1 rfl) ?_
  refine lv_if_lt (tgt := 14) hx hb dX8_many_1 (by decide) (fun c => absurd c (by decide)) (fun _ => ?_)
  refine lv_iload_n hx hb dX8_many_4 rfl (lv_at hl 1 rfl) ?_
  refine lv_bipush (v := 10) hx hb dX8_many_5 (by decide) ?_
  refine lv_icmp_gt (tgt := 14) hx hb dX8_many_7 (by decide) (fun c => absurd c (by decide)) (fun _ => ?_)
  refine lv_iconst (v := 1) hx hb dX8_many_10 (by decide) ?_
  refine lv_goto (tgt := 15) hx hb dX8_many_11 (by decide) ?_
  refine aSv (As := [.int 1]) S (c_X8_needArgument_3 l D cI cZ cJ o u ra ga H.size) ms_X8_needArgument kw_4_4 rfl rfl ⟨Nat.le_of_ble_eq_true rfl, Nat.le_of_ble_eq_true rfl⟩ hP hD hK hS hA hB hl.1 (Nat.le_of_ble_eq_true rfl) ⟨Nat.le_of_ble_eq_true rfl, Nat.le_of_ble_eq_true rfl⟩ dX8_many_15 (fun H locs hz hP hD hS => ?_)
  refine lv_aload_n hx hb dX8_many_18 rfl (lv_at hl 0 rfl) ?_
  refine aVv (As := []) (ci := 8) S (c_X8_refresh_1 l D cI cZ cJ o u ra ga H.size) mi_X8_refresh kw_3_71 rfl rfl ⟨Nat.le_of_ble_eq_true rfl, Nat.le_of_ble_eq_true rfl⟩ hP hD hK hS hA hB (k := 0) rfl rfl rfl hl.1 (Nat.le_of_ble_eq_true rfl) ⟨Nat.le_of_ble_eq_true rfl, Nat.le_of_ble_eq_true rfl⟩ dX8_many_19 (fun H locs hz hP hD hS => ?_)
  refine lv_iload_n hx hb dX8_many_22 rfl (lv_at hl 1 rfl) ?_
  refine lv_tableIn (off := 119) (tgt := 142) hx hb dX8_many_23 (by decide) (by decide) (by decide) (by decide) ?_
  refine lv_aload_n hx hb dX8_many_142 rfl (lv_at hl 0 rfl) ?_
  refine xg (ci := 8) S inX8 rfl hK hP (q0 := 0) rfl 12 (by decide) rfl kw_3_32 rfl dX8_many_143 ?_
  exact wEnd S hr hlocks hP hD hS (Nat.le_of_ble_eq_true rfl) (Nat.le_of_ble_eq_true rfl) dX8_many_146 rfl

set_option maxHeartbeats 8000000 in
set_option maxRecDepth 100000 in
theorem c_X8_many_23 (l : Launch) (D : va_G) (cI cZ cJ : ClassId) (o : Nat) (u : Nat → Nat) (ra ga : Nat → Nat) (sz : Nat) : Met l yX8_many (uW yX8_many cX8_many 2 (some .int)) ({ frames := 1, cells := 0, slots := 0, locals := 21 }) (va_Pc [.ref o, .int 10] (aS ra ga D (tyL cI cZ cJ) (((((((xW o u cI cZ cJ).set 0 (o, .inr (8, ((xF u).set 9 (.int 0))))).set 32 ((u 31), .inl (cZ, 10, .inl (upd (upd (upd (upd (upd (upd (upd (upd (upd (upd (fun _ => 0) (0 : Int32).toNatClampNeg 0) (1 : Int32).toNatClampNeg 0) (2 : Int32).toNatClampNeg 0) (3 : Int32).toNatClampNeg 0) (4 : Int32).toNatClampNeg 0) (5 : Int32).toNatClampNeg 0) (6 : Int32).toNatClampNeg 0) (7 : Int32).toNatClampNeg 0) (8 : Int32).toNatClampNeg 0) (9 : Int32).toNatClampNeg 0)))).set 34 ((u 33), .inr (2, ([.ref (u 0), .ref (u 12), .ref (u 19), .int 0, .ref (u 34), .ref (u 35), .ref (u 36), .ref (u 37), .int 0].set 3 (.int 1))))).set 35 ((u 34), .inl (cI, 120, .inl (upd (fun _ => 0) (0 : Int32).toNatClampNeg 10)))).set 36 ((u 35), .inl (cI, 120, .inl (upd (fun _ => 0) (0 : Int32).toNatClampNeg 0)))).set 37 ((u 36), .inl (cI, 120, .inl (upd (fun _ => 0) (0 : Int32).toNatClampNeg (-1))))) sz)) (wQi (0) D (((((((xW o u cI cZ cJ).set 0 (o, .inr (8, ((xF u).set 9 (.int 0))))).set 32 ((u 31), .inl (cZ, 10, .inl (upd (upd (upd (upd (upd (upd (upd (upd (upd (upd (fun _ => 0) (0 : Int32).toNatClampNeg 0) (1 : Int32).toNatClampNeg 0) (2 : Int32).toNatClampNeg 0) (3 : Int32).toNatClampNeg 0) (4 : Int32).toNatClampNeg 0) (5 : Int32).toNatClampNeg 0) (6 : Int32).toNatClampNeg 0) (7 : Int32).toNatClampNeg 0) (8 : Int32).toNatClampNeg 0) (9 : Int32).toNatClampNeg 0)))).set 34 ((u 33), .inr (2, ([.ref (u 0), .ref (u 12), .ref (u 19), .int 0, .ref (u 34), .ref (u 35), .ref (u 36), .ref (u 37), .int 0].set 3 (.int 1))))).set 35 ((u 34), .inl (cI, 120, .inl (upd (fun _ => 0) (0 : Int32).toNatClampNeg 10)))).set 36 ((u 35), .inl (cI, 120, .inl (upd (fun _ => 0) (0 : Int32).toNatClampNeg 0)))).set 37 ((u 36), .inl (cI, 120, .inl (upd (fun _ => 0) (0 : Int32).toNatClampNeg (-1))))) (va_A (((((((xW o u cI cZ cJ).set 0 (o, .inr (8, ((xF u).set 9 (.int 0))))).set 32 ((u 31), .inl (cZ, 10, .inl (upd (upd (upd (upd (upd (upd (upd (upd (upd (upd (fun _ => 0) (0 : Int32).toNatClampNeg 0) (1 : Int32).toNatClampNeg 0) (2 : Int32).toNatClampNeg 0) (3 : Int32).toNatClampNeg 0) (4 : Int32).toNatClampNeg 0) (5 : Int32).toNatClampNeg 0) (6 : Int32).toNatClampNeg 0) (7 : Int32).toNatClampNeg 0) (8 : Int32).toNatClampNeg 0) (9 : Int32).toNatClampNeg 0)))).set 34 ((u 33), .inr (2, ([.ref (u 0), .ref (u 12), .ref (u 19), .int 0, .ref (u 34), .ref (u 35), .ref (u 36), .ref (u 37), .int 0].set 3 (.int 1))))).set 35 ((u 34), .inl (cI, 120, .inl (upd (fun _ => 0) (0 : Int32).toNatClampNeg 10)))).set 36 ((u 35), .inl (cI, 120, .inl (upd (fun _ => 0) (0 : Int32).toNatClampNeg 0)))).set 37 ((u 36), .inl (cI, 120, .inl (upd (fun _ => 0) (0 : Int32).toNatClampNeg (-1))))) sz)) 0 0 (va_A (((((((xW o u cI cZ cJ).set 0 (o, .inr (8, ((xF u).set 9 (.int 0))))).set 32 ((u 31), .inl (cZ, 10, .inl (upd (upd (upd (upd (upd (upd (upd (upd (upd (upd (fun _ => 0) (0 : Int32).toNatClampNeg 0) (1 : Int32).toNatClampNeg 0) (2 : Int32).toNatClampNeg 0) (3 : Int32).toNatClampNeg 0) (4 : Int32).toNatClampNeg 0) (5 : Int32).toNatClampNeg 0) (6 : Int32).toNatClampNeg 0) (7 : Int32).toNatClampNeg 0) (8 : Int32).toNatClampNeg 0) (9 : Int32).toNatClampNeg 0)))).set 34 ((u 33), .inr (2, ([.ref (u 0), .ref (u 12), .ref (u 19), .int 0, .ref (u 34), .ref (u 35), .ref (u 36), .ref (u 37), .int 0].set 3 (.int 1))))).set 35 ((u 34), .inl (cI, 120, .inl (upd (fun _ => 0) (0 : Int32).toNatClampNeg 10)))).set 36 ((u 35), .inl (cI, 120, .inl (upd (fun _ => 0) (0 : Int32).toNatClampNeg 0)))).set 37 ((u 36), .inl (cI, 120, .inl (upd (fun _ => 0) (0 : Int32).toNatClampNeg (-1))))) sz) := by
  refine aStart (lv := [(0, .ref o), (1, .int 10)]) (Qc := fun A => wQi (0) D (((((((xW o u cI cZ cJ).set 0 (o, .inr (8, ((xF u).set 9 (.int 0))))).set 32 ((u 31), .inl (cZ, 10, .inl (upd (upd (upd (upd (upd (upd (upd (upd (upd (upd (fun _ => 0) (0 : Int32).toNatClampNeg 0) (1 : Int32).toNatClampNeg 0) (2 : Int32).toNatClampNeg 0) (3 : Int32).toNatClampNeg 0) (4 : Int32).toNatClampNeg 0) (5 : Int32).toNatClampNeg 0) (6 : Int32).toNatClampNeg 0) (7 : Int32).toNatClampNeg 0) (8 : Int32).toNatClampNeg 0) (9 : Int32).toNatClampNeg 0)))).set 34 ((u 33), .inr (2, ([.ref (u 0), .ref (u 12), .ref (u 19), .int 0, .ref (u 34), .ref (u 35), .ref (u 36), .ref (u 37), .int 0].set 3 (.int 1))))).set 35 ((u 34), .inl (cI, 120, .inl (upd (fun _ => 0) (0 : Int32).toNatClampNeg 10)))).set 36 ((u 35), .inl (cI, 120, .inl (upd (fun _ => 0) (0 : Int32).toNatClampNeg 0)))).set 37 ((u 36), .inl (cI, 120, .inl (upd (fun _ => 0) (0 : Int32).toNatClampNeg (-1))))) A) (by decide) (Nat.le_of_ble_eq_true rfl) rfl ?_
  intro p e s m args below meth c ls A H S hr hlocks hnm hl hK hP hD hS hA hB
  have hx := S.1
  have hb := S.2.1
  refine lv_iload_n hx hb dX8_many_0 rfl (lv_at hl 1 rfl) ?_
  refine lv_if_lt (tgt := 14) hx hb dX8_many_1 (by decide) (fun c => absurd c (by decide)) (fun _ => ?_)
  refine lv_iload_n hx hb dX8_many_4 rfl (lv_at hl 1 rfl) ?_
  refine lv_bipush (v := 10) hx hb dX8_many_5 (by decide) ?_
  refine lv_icmp_gt (tgt := 14) hx hb dX8_many_7 (by decide) (fun c => absurd c (by decide)) (fun _ => ?_)
  refine lv_iconst (v := 1) hx hb dX8_many_10 (by decide) ?_
  refine lv_goto (tgt := 15) hx hb dX8_many_11 (by decide) ?_
  refine aSv (As := [.int 1]) S (c_X8_needArgument_3 l D cI cZ cJ o u ra ga H.size) ms_X8_needArgument kw_4_4 rfl rfl ⟨Nat.le_of_ble_eq_true rfl, Nat.le_of_ble_eq_true rfl⟩ hP hD hK hS hA hB hl.1 (Nat.le_of_ble_eq_true rfl) ⟨Nat.le_of_ble_eq_true rfl, Nat.le_of_ble_eq_true rfl⟩ dX8_many_15 (fun H locs hz hP hD hS => ?_)
  refine lv_aload_n hx hb dX8_many_18 rfl (lv_at hl 0 rfl) ?_
  refine aVv (As := []) (ci := 8) S (c_X8_refresh_1 l D cI cZ cJ o u ra ga H.size) mi_X8_refresh kw_3_71 rfl rfl ⟨Nat.le_of_ble_eq_true rfl, Nat.le_of_ble_eq_true rfl⟩ hP hD hK hS hA hB (k := 0) rfl rfl rfl hl.1 (Nat.le_of_ble_eq_true rfl) ⟨Nat.le_of_ble_eq_true rfl, Nat.le_of_ble_eq_true rfl⟩ dX8_many_19 (fun H locs hz hP hD hS => ?_)
  refine lv_iload_n hx hb dX8_many_22 rfl (lv_at hl 1 rfl) ?_
  refine lv_tableOut (tgt := 147) hx hb dX8_many_23 (by decide) (by decide) ?_
  refine lv_aload_n hx hb dX8_many_147 rfl (lv_at hl 0 rfl) ?_
  refine lv_aload_n hx hb dX8_many_148 rfl (lv_at hl 0 rfl) ?_
  refine xg (ci := 8) S inX8 rfl hK hP (q0 := 0) rfl 10 (by decide) rfl kw_3_30 rfl dX8_many_149 ?_
  refine rdV (As := [.int 7]) (ci := 8) S (c_X8_wholeCodeLength_0 l D cI cZ cJ o u) mi_X8_wholeCodeLength kw_4_75 ⟨rfl, rfl⟩ ⟨Nat.le_of_ble_eq_true rfl, Nat.le_of_ble_eq_true rfl⟩ hP hK (k := 0) rfl rfl rfl hl.1 (Nat.le_of_ble_eq_true rfl) ⟨Nat.le_of_ble_eq_true rfl, Nat.le_of_ble_eq_true rfl⟩ dX8_many_152 ?_
  exact wEnd S hr hlocks hP hD hS (Nat.le_of_ble_eq_true rfl) (Nat.le_of_ble_eq_true rfl) dX8_many_155 rfl

set_option maxHeartbeats 8000000 in
set_option maxRecDepth 100000 in
theorem c_X1_has_3 (l : Launch) (D : va_G) (cI cZ cJ : ClassId) (o : Nat) (u : Nat → Nat) : Met l yX1_has (uW yX1_has cX1_has 2 (some .boolean)) ({ frames := 0, cells := 0, slots := 0, locals := 0 }) (va_Pc [.ref (u 0), .int 0] (pS D (tyL cI cZ cJ) (((((((xW o u cI cZ cJ).set 0 (o, .inr (8, ((xF u).set 9 (.int 0))))).set 32 ((u 31), .inl (cZ, 10, .inl (upd (upd (upd (upd (upd (upd (upd (upd (upd (upd (fun _ => 0) (0 : Int32).toNatClampNeg 0) (1 : Int32).toNatClampNeg 0) (2 : Int32).toNatClampNeg 0) (3 : Int32).toNatClampNeg 0) (4 : Int32).toNatClampNeg 0) (5 : Int32).toNatClampNeg 0) (6 : Int32).toNatClampNeg 0) (7 : Int32).toNatClampNeg 0) (8 : Int32).toNatClampNeg 0) (9 : Int32).toNatClampNeg 0)))).set 34 ((u 33), .inr (2, ([.ref (u 0), .ref (u 12), .ref (u 19), .int 0, .ref (u 34), .ref (u 35), .ref (u 36), .ref (u 37), .int 0].set 3 (.int 1))))).set 35 ((u 34), .inl (cI, 120, .inl (upd (fun _ => 0) (0 : Int32).toNatClampNeg 10)))).set 36 ((u 35), .inl (cI, 120, .inl (upd (fun _ => 0) (0 : Int32).toNatClampNeg 0)))).set 37 ((u 36), .inl (cI, 120, .inl (upd (fun _ => 0) (0 : Int32).toNatClampNeg (-1))))))) (QcRead (1)) 0 0 (fun _ => False) := by
  refine rdStart (lv := [(0, .ref (u 0)), (1, .int 0)]) (by decide) (Nat.le_of_ble_eq_true rfl) rfl ?_
  intro p e s m args below meth c ls S hr hlocks hl hP hK
  have hx := S.1
  have hb := S.2.1
  refine lv_iload_n hx hb dX1_has_0 rfl (lv_at hl 1 rfl) ?_
  refine lv_if_lt (tgt := 16) hx hb dX1_has_1 (by decide) (fun c => absurd c (by decide)) (fun _ => ?_)
  refine lv_iload_n hx hb dX1_has_4 rfl (lv_at hl 1 rfl) ?_
  refine lv_aload_n hx hb dX1_has_5 rfl (lv_at hl 0 rfl) ?_
  refine xg (ci := 1) S inX1 rfl hK hP (q0 := 1) rfl 0 (by decide) rfl kw_1_38 rfl dX1_has_6 ?_
  refine lv_icmp_ge (tgt := 16) hx hb dX1_has_9 (by decide) (fun c => absurd c (by decide)) (fun _ => ?_)
  refine lv_iconst (v := 1) hx hb dX1_has_12 (by decide) ?_
  refine lv_goto (tgt := 17) hx hb dX1_has_13 (by decide) ?_
  exact rdEndZ S hr hlocks dX1_has_17 rfl rfl

set_option maxHeartbeats 8000000 in
set_option maxRecDepth 100000 in
theorem c_X8_needProcedure_3 (l : Launch) (D : va_G) (cI cZ cJ : ClassId) (o : Nat) (u : Nat → Nat) (ra ga : Nat → Nat) (sz : Nat) : Met l yX8_needProcedure (uW yX8_needProcedure cX8_needProcedure 2 none) ({ frames := 1, cells := 0, slots := 0, locals := 21 }) (va_Pc [.ref o, .int 0] (aS ra ga D (tyL cI cZ cJ) (((((((xW o u cI cZ cJ).set 0 (o, .inr (8, ((xF u).set 9 (.int 0))))).set 32 ((u 31), .inl (cZ, 10, .inl (upd (upd (upd (upd (upd (upd (upd (upd (upd (upd (fun _ => 0) (0 : Int32).toNatClampNeg 0) (1 : Int32).toNatClampNeg 0) (2 : Int32).toNatClampNeg 0) (3 : Int32).toNatClampNeg 0) (4 : Int32).toNatClampNeg 0) (5 : Int32).toNatClampNeg 0) (6 : Int32).toNatClampNeg 0) (7 : Int32).toNatClampNeg 0) (8 : Int32).toNatClampNeg 0) (9 : Int32).toNatClampNeg 0)))).set 34 ((u 33), .inr (2, ([.ref (u 0), .ref (u 12), .ref (u 19), .int 0, .ref (u 34), .ref (u 35), .ref (u 36), .ref (u 37), .int 0].set 3 (.int 1))))).set 35 ((u 34), .inl (cI, 120, .inl (upd (fun _ => 0) (0 : Int32).toNatClampNeg 10)))).set 36 ((u 35), .inl (cI, 120, .inl (upd (fun _ => 0) (0 : Int32).toNatClampNeg 0)))).set 37 ((u 36), .inl (cI, 120, .inl (upd (fun _ => 0) (0 : Int32).toNatClampNeg (-1))))) sz)) (wQv D (((((((xW o u cI cZ cJ).set 0 (o, .inr (8, ((xF u).set 9 (.int 0))))).set 32 ((u 31), .inl (cZ, 10, .inl (upd (upd (upd (upd (upd (upd (upd (upd (upd (upd (fun _ => 0) (0 : Int32).toNatClampNeg 0) (1 : Int32).toNatClampNeg 0) (2 : Int32).toNatClampNeg 0) (3 : Int32).toNatClampNeg 0) (4 : Int32).toNatClampNeg 0) (5 : Int32).toNatClampNeg 0) (6 : Int32).toNatClampNeg 0) (7 : Int32).toNatClampNeg 0) (8 : Int32).toNatClampNeg 0) (9 : Int32).toNatClampNeg 0)))).set 34 ((u 33), .inr (2, ([.ref (u 0), .ref (u 12), .ref (u 19), .int 0, .ref (u 34), .ref (u 35), .ref (u 36), .ref (u 37), .int 0].set 3 (.int 1))))).set 35 ((u 34), .inl (cI, 120, .inl (upd (fun _ => 0) (0 : Int32).toNatClampNeg 10)))).set 36 ((u 35), .inl (cI, 120, .inl (upd (fun _ => 0) (0 : Int32).toNatClampNeg 0)))).set 37 ((u 36), .inl (cI, 120, .inl (upd (fun _ => 0) (0 : Int32).toNatClampNeg (-1))))) (va_A (((((((xW o u cI cZ cJ).set 0 (o, .inr (8, ((xF u).set 9 (.int 0))))).set 32 ((u 31), .inl (cZ, 10, .inl (upd (upd (upd (upd (upd (upd (upd (upd (upd (upd (fun _ => 0) (0 : Int32).toNatClampNeg 0) (1 : Int32).toNatClampNeg 0) (2 : Int32).toNatClampNeg 0) (3 : Int32).toNatClampNeg 0) (4 : Int32).toNatClampNeg 0) (5 : Int32).toNatClampNeg 0) (6 : Int32).toNatClampNeg 0) (7 : Int32).toNatClampNeg 0) (8 : Int32).toNatClampNeg 0) (9 : Int32).toNatClampNeg 0)))).set 34 ((u 33), .inr (2, ([.ref (u 0), .ref (u 12), .ref (u 19), .int 0, .ref (u 34), .ref (u 35), .ref (u 36), .ref (u 37), .int 0].set 3 (.int 1))))).set 35 ((u 34), .inl (cI, 120, .inl (upd (fun _ => 0) (0 : Int32).toNatClampNeg 10)))).set 36 ((u 35), .inl (cI, 120, .inl (upd (fun _ => 0) (0 : Int32).toNatClampNeg 0)))).set 37 ((u 36), .inl (cI, 120, .inl (upd (fun _ => 0) (0 : Int32).toNatClampNeg (-1))))) sz)) 0 0 (va_A (((((((xW o u cI cZ cJ).set 0 (o, .inr (8, ((xF u).set 9 (.int 0))))).set 32 ((u 31), .inl (cZ, 10, .inl (upd (upd (upd (upd (upd (upd (upd (upd (upd (upd (fun _ => 0) (0 : Int32).toNatClampNeg 0) (1 : Int32).toNatClampNeg 0) (2 : Int32).toNatClampNeg 0) (3 : Int32).toNatClampNeg 0) (4 : Int32).toNatClampNeg 0) (5 : Int32).toNatClampNeg 0) (6 : Int32).toNatClampNeg 0) (7 : Int32).toNatClampNeg 0) (8 : Int32).toNatClampNeg 0) (9 : Int32).toNatClampNeg 0)))).set 34 ((u 33), .inr (2, ([.ref (u 0), .ref (u 12), .ref (u 19), .int 0, .ref (u 34), .ref (u 35), .ref (u 36), .ref (u 37), .int 0].set 3 (.int 1))))).set 35 ((u 34), .inl (cI, 120, .inl (upd (fun _ => 0) (0 : Int32).toNatClampNeg 10)))).set 36 ((u 35), .inl (cI, 120, .inl (upd (fun _ => 0) (0 : Int32).toNatClampNeg 0)))).set 37 ((u 36), .inl (cI, 120, .inl (upd (fun _ => 0) (0 : Int32).toNatClampNeg (-1))))) sz) := by
  refine aStart (lv := [(0, .ref o), (1, .int 0)]) (Qc := fun A => wQv D (((((((xW o u cI cZ cJ).set 0 (o, .inr (8, ((xF u).set 9 (.int 0))))).set 32 ((u 31), .inl (cZ, 10, .inl (upd (upd (upd (upd (upd (upd (upd (upd (upd (upd (fun _ => 0) (0 : Int32).toNatClampNeg 0) (1 : Int32).toNatClampNeg 0) (2 : Int32).toNatClampNeg 0) (3 : Int32).toNatClampNeg 0) (4 : Int32).toNatClampNeg 0) (5 : Int32).toNatClampNeg 0) (6 : Int32).toNatClampNeg 0) (7 : Int32).toNatClampNeg 0) (8 : Int32).toNatClampNeg 0) (9 : Int32).toNatClampNeg 0)))).set 34 ((u 33), .inr (2, ([.ref (u 0), .ref (u 12), .ref (u 19), .int 0, .ref (u 34), .ref (u 35), .ref (u 36), .ref (u 37), .int 0].set 3 (.int 1))))).set 35 ((u 34), .inl (cI, 120, .inl (upd (fun _ => 0) (0 : Int32).toNatClampNeg 10)))).set 36 ((u 35), .inl (cI, 120, .inl (upd (fun _ => 0) (0 : Int32).toNatClampNeg 0)))).set 37 ((u 36), .inl (cI, 120, .inl (upd (fun _ => 0) (0 : Int32).toNatClampNeg (-1))))) A) (by decide) (Nat.le_of_ble_eq_true rfl) rfl ?_
  intro p e s m args below meth c ls A H S hr hlocks hnm hl hK hP hD hS hA hB
  have hx := S.1
  have hb := S.2.1
  refine lv_aload_n hx hb dX8_needProcedure_0 rfl (lv_at hl 0 rfl) ?_
  refine xg (ci := 8) S inX8 rfl hK hP (q0 := 0) rfl 0 (by decide) rfl kw_3_20 rfl dX8_needProcedure_1 ?_
  refine lv_iload_n hx hb dX8_needProcedure_4 rfl (lv_at hl 1 rfl) ?_
  refine rdV (As := [.int 0]) (ci := 1) S (c_X1_has_3 l D cI cZ cJ o u) mi_X1_has kw_4_170 ⟨rfl, rfl⟩ ⟨Nat.le_of_ble_eq_true rfl, Nat.le_of_ble_eq_true rfl⟩ hP hK (k := 1) rfl rfl rfl hl.1 (Nat.le_of_ble_eq_true rfl) ⟨Nat.le_of_ble_eq_true rfl, Nat.le_of_ble_eq_true rfl⟩ dX8_needProcedure_5 ?_
  refine lv_if_ne (tgt := 22) hx hb dX8_needProcedure_8 (by decide) (fun _ => ?_) (fun c => absurd c (by decide))
  exact wEndv S hr hlocks hP hD hS (Nat.le_of_ble_eq_true rfl) (Nat.le_of_ble_eq_true rfl) dX8_needProcedure_22

set_option maxHeartbeats 8000000 in
set_option maxRecDepth 100000 in
theorem c_X8_ofProcedure_26 (l : Launch) (D : va_G) (cI cZ cJ : ClassId) (o : Nat) (u : Nat → Nat) (ra ga : Nat → Nat) (sz : Nat) : Met l yX8_ofProcedure (uW yX8_ofProcedure cX8_ofProcedure 3 (some .int)) ({ frames := 2, cells := 0, slots := 0, locals := 42 }) (va_Pc [.ref o, .int 0, .int 0] (aS ra ga D (tyL cI cZ cJ) (((((((xW o u cI cZ cJ).set 0 (o, .inr (8, ((xF u).set 9 (.int 0))))).set 32 ((u 31), .inl (cZ, 10, .inl (upd (upd (upd (upd (upd (upd (upd (upd (upd (upd (fun _ => 0) (0 : Int32).toNatClampNeg 0) (1 : Int32).toNatClampNeg 0) (2 : Int32).toNatClampNeg 0) (3 : Int32).toNatClampNeg 0) (4 : Int32).toNatClampNeg 0) (5 : Int32).toNatClampNeg 0) (6 : Int32).toNatClampNeg 0) (7 : Int32).toNatClampNeg 0) (8 : Int32).toNatClampNeg 0) (9 : Int32).toNatClampNeg 0)))).set 34 ((u 33), .inr (2, ([.ref (u 0), .ref (u 12), .ref (u 19), .int 0, .ref (u 34), .ref (u 35), .ref (u 36), .ref (u 37), .int 0].set 3 (.int 1))))).set 35 ((u 34), .inl (cI, 120, .inl (upd (fun _ => 0) (0 : Int32).toNatClampNeg 10)))).set 36 ((u 35), .inl (cI, 120, .inl (upd (fun _ => 0) (0 : Int32).toNatClampNeg 0)))).set 37 ((u 36), .inl (cI, 120, .inl (upd (fun _ => 0) (0 : Int32).toNatClampNeg (-1))))) sz)) (wQi ((-1)) D (((((((xW o u cI cZ cJ).set 0 (o, .inr (8, ((xF u).set 9 (.int 0))))).set 32 ((u 31), .inl (cZ, 10, .inl (upd (upd (upd (upd (upd (upd (upd (upd (upd (upd (fun _ => 0) (0 : Int32).toNatClampNeg 0) (1 : Int32).toNatClampNeg 0) (2 : Int32).toNatClampNeg 0) (3 : Int32).toNatClampNeg 0) (4 : Int32).toNatClampNeg 0) (5 : Int32).toNatClampNeg 0) (6 : Int32).toNatClampNeg 0) (7 : Int32).toNatClampNeg 0) (8 : Int32).toNatClampNeg 0) (9 : Int32).toNatClampNeg 0)))).set 34 ((u 33), .inr (2, ([.ref (u 0), .ref (u 12), .ref (u 19), .int 0, .ref (u 34), .ref (u 35), .ref (u 36), .ref (u 37), .int 0].set 3 (.int 1))))).set 35 ((u 34), .inl (cI, 120, .inl (upd (fun _ => 0) (0 : Int32).toNatClampNeg 10)))).set 36 ((u 35), .inl (cI, 120, .inl (upd (fun _ => 0) (0 : Int32).toNatClampNeg 0)))).set 37 ((u 36), .inl (cI, 120, .inl (upd (fun _ => 0) (0 : Int32).toNatClampNeg (-1))))) (va_A (((((((xW o u cI cZ cJ).set 0 (o, .inr (8, ((xF u).set 9 (.int 0))))).set 32 ((u 31), .inl (cZ, 10, .inl (upd (upd (upd (upd (upd (upd (upd (upd (upd (upd (fun _ => 0) (0 : Int32).toNatClampNeg 0) (1 : Int32).toNatClampNeg 0) (2 : Int32).toNatClampNeg 0) (3 : Int32).toNatClampNeg 0) (4 : Int32).toNatClampNeg 0) (5 : Int32).toNatClampNeg 0) (6 : Int32).toNatClampNeg 0) (7 : Int32).toNatClampNeg 0) (8 : Int32).toNatClampNeg 0) (9 : Int32).toNatClampNeg 0)))).set 34 ((u 33), .inr (2, ([.ref (u 0), .ref (u 12), .ref (u 19), .int 0, .ref (u 34), .ref (u 35), .ref (u 36), .ref (u 37), .int 0].set 3 (.int 1))))).set 35 ((u 34), .inl (cI, 120, .inl (upd (fun _ => 0) (0 : Int32).toNatClampNeg 10)))).set 36 ((u 35), .inl (cI, 120, .inl (upd (fun _ => 0) (0 : Int32).toNatClampNeg 0)))).set 37 ((u 36), .inl (cI, 120, .inl (upd (fun _ => 0) (0 : Int32).toNatClampNeg (-1))))) sz)) 0 0 (va_A (((((((xW o u cI cZ cJ).set 0 (o, .inr (8, ((xF u).set 9 (.int 0))))).set 32 ((u 31), .inl (cZ, 10, .inl (upd (upd (upd (upd (upd (upd (upd (upd (upd (upd (fun _ => 0) (0 : Int32).toNatClampNeg 0) (1 : Int32).toNatClampNeg 0) (2 : Int32).toNatClampNeg 0) (3 : Int32).toNatClampNeg 0) (4 : Int32).toNatClampNeg 0) (5 : Int32).toNatClampNeg 0) (6 : Int32).toNatClampNeg 0) (7 : Int32).toNatClampNeg 0) (8 : Int32).toNatClampNeg 0) (9 : Int32).toNatClampNeg 0)))).set 34 ((u 33), .inr (2, ([.ref (u 0), .ref (u 12), .ref (u 19), .int 0, .ref (u 34), .ref (u 35), .ref (u 36), .ref (u 37), .int 0].set 3 (.int 1))))).set 35 ((u 34), .inl (cI, 120, .inl (upd (fun _ => 0) (0 : Int32).toNatClampNeg 10)))).set 36 ((u 35), .inl (cI, 120, .inl (upd (fun _ => 0) (0 : Int32).toNatClampNeg 0)))).set 37 ((u 36), .inl (cI, 120, .inl (upd (fun _ => 0) (0 : Int32).toNatClampNeg (-1))))) sz) := by
  refine aStart (lv := [(0, .ref o), (1, .int 0), (2, .int 0)]) (Qc := fun A => wQi ((-1)) D (((((((xW o u cI cZ cJ).set 0 (o, .inr (8, ((xF u).set 9 (.int 0))))).set 32 ((u 31), .inl (cZ, 10, .inl (upd (upd (upd (upd (upd (upd (upd (upd (upd (upd (fun _ => 0) (0 : Int32).toNatClampNeg 0) (1 : Int32).toNatClampNeg 0) (2 : Int32).toNatClampNeg 0) (3 : Int32).toNatClampNeg 0) (4 : Int32).toNatClampNeg 0) (5 : Int32).toNatClampNeg 0) (6 : Int32).toNatClampNeg 0) (7 : Int32).toNatClampNeg 0) (8 : Int32).toNatClampNeg 0) (9 : Int32).toNatClampNeg 0)))).set 34 ((u 33), .inr (2, ([.ref (u 0), .ref (u 12), .ref (u 19), .int 0, .ref (u 34), .ref (u 35), .ref (u 36), .ref (u 37), .int 0].set 3 (.int 1))))).set 35 ((u 34), .inl (cI, 120, .inl (upd (fun _ => 0) (0 : Int32).toNatClampNeg 10)))).set 36 ((u 35), .inl (cI, 120, .inl (upd (fun _ => 0) (0 : Int32).toNatClampNeg 0)))).set 37 ((u 36), .inl (cI, 120, .inl (upd (fun _ => 0) (0 : Int32).toNatClampNeg (-1))))) A) (by decide) (Nat.le_of_ble_eq_true rfl) rfl ?_
  intro p e s m args below meth c ls A H S hr hlocks hnm hl hK hP hD hS hA hB
  have hx := S.1
  have hb := S.2.1
  refine lv_aload_n hx hb dX8_ofProcedure_0 rfl (lv_at hl 0 rfl) ?_
  refine lv_iload_n hx hb dX8_ofProcedure_1 rfl (lv_at hl 1 rfl) ?_
  refine aVv (As := [.int 0]) (ci := 8) S (c_X8_needProcedure_3 l D cI cZ cJ o u ra ga H.size) mi_X8_needProcedure kw_4_166 rfl rfl ⟨Nat.le_of_ble_eq_true rfl, Nat.le_of_ble_eq_true rfl⟩ hP hD hK hS hA hB (k := 0) rfl rfl rfl hl.1 (Nat.le_of_ble_eq_true rfl) ⟨Nat.le_of_ble_eq_true rfl, Nat.le_of_ble_eq_true rfl⟩ dX8_ofProcedure_2 (fun H locs hz hP hD hS => ?_)
  refine lv_iload_n hx hb dX8_ofProcedure_5 rfl (lv_at hl 2 rfl) ?_
  refine lv_if_lt (tgt := 19) hx hb dX8_ofProcedure_6 (by decide) (fun c => absurd c (by decide)) (fun _ => ?_)
  refine lv_iload_n hx hb dX8_ofProcedure_9 rfl (lv_at hl 2 rfl) ?_
  refine lv_bipush (v := 7) hx hb dX8_ofProcedure_10 (by decide) ?_
  refine lv_icmp_gt (tgt := 19) hx hb dX8_ofProcedure_12 (by decide) (fun c => absurd c (by decide)) (fun _ => ?_)
  refine lv_iconst (v := 1) hx hb dX8_ofProcedure_15 (by decide) ?_
  refine lv_goto (tgt := 20) hx hb dX8_ofProcedure_16 (by decide) ?_
  refine aSv (As := [.int 1]) S (c_X8_needArgument_3 l D cI cZ cJ o u ra ga H.size) ms_X8_needArgument kw_4_4 rfl rfl ⟨Nat.le_of_ble_eq_true rfl, Nat.le_of_ble_eq_true rfl⟩ hP hD hK hS hA hB hl.1 (Nat.le_of_ble_eq_true rfl) ⟨Nat.le_of_ble_eq_true rfl, Nat.le_of_ble_eq_true rfl⟩ dX8_ofProcedure_20 (fun H locs hz hP hD hS => ?_)
  refine lv_aload_n hx hb dX8_ofProcedure_23 rfl (lv_at hl 0 rfl) ?_
  refine aVv (As := []) (ci := 8) S (c_X8_refresh_1 l D cI cZ cJ o u ra ga H.size) mi_X8_refresh kw_3_71 rfl rfl ⟨Nat.le_of_ble_eq_true rfl, Nat.le_of_ble_eq_true rfl⟩ hP hD hK hS hA hB (k := 0) rfl rfl rfl hl.1 (Nat.le_of_ble_eq_true rfl) ⟨Nat.le_of_ble_eq_true rfl, Nat.le_of_ble_eq_true rfl⟩ dX8_ofProcedure_24 (fun H locs hz hP hD hS => ?_)
  refine lv_iload_n hx hb dX8_ofProcedure_27 rfl (lv_at hl 2 rfl) ?_
  refine lv_tableIn (off := 44) (tgt := 72) hx hb dX8_ofProcedure_28 (by decide) (by decide) (by decide) (by decide) ?_
  refine lv_aload_n hx hb dX8_ofProcedure_72 rfl (lv_at hl 0 rfl) ?_
  refine xg (ci := 8) S inX8 rfl hK hP (q0 := 0) rfl 0 (by decide) rfl kw_3_20 rfl dX8_ofProcedure_73 ?_
  refine xg (ci := 1) S inX1 rfl hK hP (q0 := 1) rfl 1 (by decide) rfl kw_1_44 rfl dX8_ofProcedure_76 ?_
  refine lv_iload_n hx hb dX8_ofProcedure_79 rfl (lv_at hl 1 rfl) ?_
  refine xiald (t0 := 0) (v := (-1)) S hK hP (q0 := 2) rfl rfl (vin rfl) rfl dX8_ofProcedure_80 ?_
  exact wEnd S hr hlocks hP hD hS (Nat.le_of_ble_eq_true rfl) (Nat.le_of_ble_eq_true rfl) dX8_ofProcedure_81 rfl

set_option maxHeartbeats 8000000 in
set_option maxRecDepth 100000 in
theorem c_X8_ofProcedure_27 (l : Launch) (D : va_G) (cI cZ cJ : ClassId) (o : Nat) (u : Nat → Nat) (ra ga : Nat → Nat) (sz : Nat) : Met l yX8_ofProcedure (uW yX8_ofProcedure cX8_ofProcedure 3 (some .int)) ({ frames := 2, cells := 0, slots := 0, locals := 42 }) (va_Pc [.ref o, .int 0, .int 1] (aS ra ga D (tyL cI cZ cJ) (((((((xW o u cI cZ cJ).set 0 (o, .inr (8, ((xF u).set 9 (.int 0))))).set 32 ((u 31), .inl (cZ, 10, .inl (upd (upd (upd (upd (upd (upd (upd (upd (upd (upd (fun _ => 0) (0 : Int32).toNatClampNeg 0) (1 : Int32).toNatClampNeg 0) (2 : Int32).toNatClampNeg 0) (3 : Int32).toNatClampNeg 0) (4 : Int32).toNatClampNeg 0) (5 : Int32).toNatClampNeg 0) (6 : Int32).toNatClampNeg 0) (7 : Int32).toNatClampNeg 0) (8 : Int32).toNatClampNeg 0) (9 : Int32).toNatClampNeg 0)))).set 34 ((u 33), .inr (2, ([.ref (u 0), .ref (u 12), .ref (u 19), .int 0, .ref (u 34), .ref (u 35), .ref (u 36), .ref (u 37), .int 0].set 3 (.int 1))))).set 35 ((u 34), .inl (cI, 120, .inl (upd (fun _ => 0) (0 : Int32).toNatClampNeg 10)))).set 36 ((u 35), .inl (cI, 120, .inl (upd (fun _ => 0) (0 : Int32).toNatClampNeg 0)))).set 37 ((u 36), .inl (cI, 120, .inl (upd (fun _ => 0) (0 : Int32).toNatClampNeg (-1))))) sz)) (wQi ((-1)) D (((((((xW o u cI cZ cJ).set 0 (o, .inr (8, ((xF u).set 9 (.int 0))))).set 32 ((u 31), .inl (cZ, 10, .inl (upd (upd (upd (upd (upd (upd (upd (upd (upd (upd (fun _ => 0) (0 : Int32).toNatClampNeg 0) (1 : Int32).toNatClampNeg 0) (2 : Int32).toNatClampNeg 0) (3 : Int32).toNatClampNeg 0) (4 : Int32).toNatClampNeg 0) (5 : Int32).toNatClampNeg 0) (6 : Int32).toNatClampNeg 0) (7 : Int32).toNatClampNeg 0) (8 : Int32).toNatClampNeg 0) (9 : Int32).toNatClampNeg 0)))).set 34 ((u 33), .inr (2, ([.ref (u 0), .ref (u 12), .ref (u 19), .int 0, .ref (u 34), .ref (u 35), .ref (u 36), .ref (u 37), .int 0].set 3 (.int 1))))).set 35 ((u 34), .inl (cI, 120, .inl (upd (fun _ => 0) (0 : Int32).toNatClampNeg 10)))).set 36 ((u 35), .inl (cI, 120, .inl (upd (fun _ => 0) (0 : Int32).toNatClampNeg 0)))).set 37 ((u 36), .inl (cI, 120, .inl (upd (fun _ => 0) (0 : Int32).toNatClampNeg (-1))))) (va_A (((((((xW o u cI cZ cJ).set 0 (o, .inr (8, ((xF u).set 9 (.int 0))))).set 32 ((u 31), .inl (cZ, 10, .inl (upd (upd (upd (upd (upd (upd (upd (upd (upd (upd (fun _ => 0) (0 : Int32).toNatClampNeg 0) (1 : Int32).toNatClampNeg 0) (2 : Int32).toNatClampNeg 0) (3 : Int32).toNatClampNeg 0) (4 : Int32).toNatClampNeg 0) (5 : Int32).toNatClampNeg 0) (6 : Int32).toNatClampNeg 0) (7 : Int32).toNatClampNeg 0) (8 : Int32).toNatClampNeg 0) (9 : Int32).toNatClampNeg 0)))).set 34 ((u 33), .inr (2, ([.ref (u 0), .ref (u 12), .ref (u 19), .int 0, .ref (u 34), .ref (u 35), .ref (u 36), .ref (u 37), .int 0].set 3 (.int 1))))).set 35 ((u 34), .inl (cI, 120, .inl (upd (fun _ => 0) (0 : Int32).toNatClampNeg 10)))).set 36 ((u 35), .inl (cI, 120, .inl (upd (fun _ => 0) (0 : Int32).toNatClampNeg 0)))).set 37 ((u 36), .inl (cI, 120, .inl (upd (fun _ => 0) (0 : Int32).toNatClampNeg (-1))))) sz)) 0 0 (va_A (((((((xW o u cI cZ cJ).set 0 (o, .inr (8, ((xF u).set 9 (.int 0))))).set 32 ((u 31), .inl (cZ, 10, .inl (upd (upd (upd (upd (upd (upd (upd (upd (upd (upd (fun _ => 0) (0 : Int32).toNatClampNeg 0) (1 : Int32).toNatClampNeg 0) (2 : Int32).toNatClampNeg 0) (3 : Int32).toNatClampNeg 0) (4 : Int32).toNatClampNeg 0) (5 : Int32).toNatClampNeg 0) (6 : Int32).toNatClampNeg 0) (7 : Int32).toNatClampNeg 0) (8 : Int32).toNatClampNeg 0) (9 : Int32).toNatClampNeg 0)))).set 34 ((u 33), .inr (2, ([.ref (u 0), .ref (u 12), .ref (u 19), .int 0, .ref (u 34), .ref (u 35), .ref (u 36), .ref (u 37), .int 0].set 3 (.int 1))))).set 35 ((u 34), .inl (cI, 120, .inl (upd (fun _ => 0) (0 : Int32).toNatClampNeg 10)))).set 36 ((u 35), .inl (cI, 120, .inl (upd (fun _ => 0) (0 : Int32).toNatClampNeg 0)))).set 37 ((u 36), .inl (cI, 120, .inl (upd (fun _ => 0) (0 : Int32).toNatClampNeg (-1))))) sz) := by
  refine aStart (lv := [(0, .ref o), (1, .int 0), (2, .int 1)]) (Qc := fun A => wQi ((-1)) D (((((((xW o u cI cZ cJ).set 0 (o, .inr (8, ((xF u).set 9 (.int 0))))).set 32 ((u 31), .inl (cZ, 10, .inl (upd (upd (upd (upd (upd (upd (upd (upd (upd (upd (fun _ => 0) (0 : Int32).toNatClampNeg 0) (1 : Int32).toNatClampNeg 0) (2 : Int32).toNatClampNeg 0) (3 : Int32).toNatClampNeg 0) (4 : Int32).toNatClampNeg 0) (5 : Int32).toNatClampNeg 0) (6 : Int32).toNatClampNeg 0) (7 : Int32).toNatClampNeg 0) (8 : Int32).toNatClampNeg 0) (9 : Int32).toNatClampNeg 0)))).set 34 ((u 33), .inr (2, ([.ref (u 0), .ref (u 12), .ref (u 19), .int 0, .ref (u 34), .ref (u 35), .ref (u 36), .ref (u 37), .int 0].set 3 (.int 1))))).set 35 ((u 34), .inl (cI, 120, .inl (upd (fun _ => 0) (0 : Int32).toNatClampNeg 10)))).set 36 ((u 35), .inl (cI, 120, .inl (upd (fun _ => 0) (0 : Int32).toNatClampNeg 0)))).set 37 ((u 36), .inl (cI, 120, .inl (upd (fun _ => 0) (0 : Int32).toNatClampNeg (-1))))) A) (by decide) (Nat.le_of_ble_eq_true rfl) rfl ?_
  intro p e s m args below meth c ls A H S hr hlocks hnm hl hK hP hD hS hA hB
  have hx := S.1
  have hb := S.2.1
  refine lv_aload_n hx hb dX8_ofProcedure_0 rfl (lv_at hl 0 rfl) ?_
  refine lv_iload_n hx hb dX8_ofProcedure_1 rfl (lv_at hl 1 rfl) ?_
  refine aVv (As := [.int 0]) (ci := 8) S (c_X8_needProcedure_3 l D cI cZ cJ o u ra ga H.size) mi_X8_needProcedure kw_4_166 rfl rfl ⟨Nat.le_of_ble_eq_true rfl, Nat.le_of_ble_eq_true rfl⟩ hP hD hK hS hA hB (k := 0) rfl rfl rfl hl.1 (Nat.le_of_ble_eq_true rfl) ⟨Nat.le_of_ble_eq_true rfl, Nat.le_of_ble_eq_true rfl⟩ dX8_ofProcedure_2 (fun H locs hz hP hD hS => ?_)
  refine lv_iload_n hx hb dX8_ofProcedure_5 rfl (lv_at hl 2 rfl) ?_
  refine lv_if_lt (tgt := 19) hx hb dX8_ofProcedure_6 (by decide) (fun c => absurd c (by decide)) (fun _ => ?_)
  refine lv_iload_n hx hb dX8_ofProcedure_9 rfl (lv_at hl 2 rfl) ?_
  refine lv_bipush (v := 7) hx hb dX8_ofProcedure_10 (by decide) ?_
  refine lv_icmp_gt (tgt := 19) hx hb dX8_ofProcedure_12 (by decide) (fun c => absurd c (by decide)) (fun _ => ?_)
  refine lv_iconst (v := 1) hx hb dX8_ofProcedure_15 (by decide) ?_
  refine lv_goto (tgt := 20) hx hb dX8_ofProcedure_16 (by decide) ?_
  refine aSv (As := [.int 1]) S (c_X8_needArgument_3 l D cI cZ cJ o u ra ga H.size) ms_X8_needArgument kw_4_4 rfl rfl ⟨Nat.le_of_ble_eq_true rfl, Nat.le_of_ble_eq_true rfl⟩ hP hD hK hS hA hB hl.1 (Nat.le_of_ble_eq_true rfl) ⟨Nat.le_of_ble_eq_true rfl, Nat.le_of_ble_eq_true rfl⟩ dX8_ofProcedure_20 (fun H locs hz hP hD hS => ?_)
  refine lv_aload_n hx hb dX8_ofProcedure_23 rfl (lv_at hl 0 rfl) ?_
  refine aVv (As := []) (ci := 8) S (c_X8_refresh_1 l D cI cZ cJ o u ra ga H.size) mi_X8_refresh kw_3_71 rfl rfl ⟨Nat.le_of_ble_eq_true rfl, Nat.le_of_ble_eq_true rfl⟩ hP hD hK hS hA hB (k := 0) rfl rfl rfl hl.1 (Nat.le_of_ble_eq_true rfl) ⟨Nat.le_of_ble_eq_true rfl, Nat.le_of_ble_eq_true rfl⟩ dX8_ofProcedure_24 (fun H locs hz hP hD hS => ?_)
  refine lv_iload_n hx hb dX8_ofProcedure_27 rfl (lv_at hl 2 rfl) ?_
  refine lv_tableIn (off := 54) (tgt := 82) hx hb dX8_ofProcedure_28 (by decide) (by decide) (by decide) (by decide) ?_
  refine lv_aload_n hx hb dX8_ofProcedure_82 rfl (lv_at hl 0 rfl) ?_
  refine xg (ci := 8) S inX8 rfl hK hP (q0 := 0) rfl 0 (by decide) rfl kw_3_20 rfl dX8_ofProcedure_83 ?_
  refine xg (ci := 1) S inX1 rfl hK hP (q0 := 1) rfl 2 (by decide) rfl kw_1_47 rfl dX8_ofProcedure_86 ?_
  refine lv_iload_n hx hb dX8_ofProcedure_89 rfl (lv_at hl 1 rfl) ?_
  refine xiald (t0 := 0) (v := (-1)) S hK hP (q0 := 3) rfl rfl (vin rfl) rfl dX8_ofProcedure_90 ?_
  exact wEnd S hr hlocks hP hD hS (Nat.le_of_ble_eq_true rfl) (Nat.le_of_ble_eq_true rfl) dX8_ofProcedure_91 rfl

set_option maxHeartbeats 8000000 in
set_option maxRecDepth 100000 in
theorem c_X8_ofProcedure_28 (l : Launch) (D : va_G) (cI cZ cJ : ClassId) (o : Nat) (u : Nat → Nat) (ra ga : Nat → Nat) (sz : Nat) : Met l yX8_ofProcedure (uW yX8_ofProcedure cX8_ofProcedure 3 (some .int)) ({ frames := 2, cells := 0, slots := 0, locals := 42 }) (va_Pc [.ref o, .int 0, .int 2] (aS ra ga D (tyL cI cZ cJ) (((((((xW o u cI cZ cJ).set 0 (o, .inr (8, ((xF u).set 9 (.int 0))))).set 32 ((u 31), .inl (cZ, 10, .inl (upd (upd (upd (upd (upd (upd (upd (upd (upd (upd (fun _ => 0) (0 : Int32).toNatClampNeg 0) (1 : Int32).toNatClampNeg 0) (2 : Int32).toNatClampNeg 0) (3 : Int32).toNatClampNeg 0) (4 : Int32).toNatClampNeg 0) (5 : Int32).toNatClampNeg 0) (6 : Int32).toNatClampNeg 0) (7 : Int32).toNatClampNeg 0) (8 : Int32).toNatClampNeg 0) (9 : Int32).toNatClampNeg 0)))).set 34 ((u 33), .inr (2, ([.ref (u 0), .ref (u 12), .ref (u 19), .int 0, .ref (u 34), .ref (u 35), .ref (u 36), .ref (u 37), .int 0].set 3 (.int 1))))).set 35 ((u 34), .inl (cI, 120, .inl (upd (fun _ => 0) (0 : Int32).toNatClampNeg 10)))).set 36 ((u 35), .inl (cI, 120, .inl (upd (fun _ => 0) (0 : Int32).toNatClampNeg 0)))).set 37 ((u 36), .inl (cI, 120, .inl (upd (fun _ => 0) (0 : Int32).toNatClampNeg (-1))))) sz)) (wQi (0) D (((((((xW o u cI cZ cJ).set 0 (o, .inr (8, ((xF u).set 9 (.int 0))))).set 32 ((u 31), .inl (cZ, 10, .inl (upd (upd (upd (upd (upd (upd (upd (upd (upd (upd (fun _ => 0) (0 : Int32).toNatClampNeg 0) (1 : Int32).toNatClampNeg 0) (2 : Int32).toNatClampNeg 0) (3 : Int32).toNatClampNeg 0) (4 : Int32).toNatClampNeg 0) (5 : Int32).toNatClampNeg 0) (6 : Int32).toNatClampNeg 0) (7 : Int32).toNatClampNeg 0) (8 : Int32).toNatClampNeg 0) (9 : Int32).toNatClampNeg 0)))).set 34 ((u 33), .inr (2, ([.ref (u 0), .ref (u 12), .ref (u 19), .int 0, .ref (u 34), .ref (u 35), .ref (u 36), .ref (u 37), .int 0].set 3 (.int 1))))).set 35 ((u 34), .inl (cI, 120, .inl (upd (fun _ => 0) (0 : Int32).toNatClampNeg 10)))).set 36 ((u 35), .inl (cI, 120, .inl (upd (fun _ => 0) (0 : Int32).toNatClampNeg 0)))).set 37 ((u 36), .inl (cI, 120, .inl (upd (fun _ => 0) (0 : Int32).toNatClampNeg (-1))))) (va_A (((((((xW o u cI cZ cJ).set 0 (o, .inr (8, ((xF u).set 9 (.int 0))))).set 32 ((u 31), .inl (cZ, 10, .inl (upd (upd (upd (upd (upd (upd (upd (upd (upd (upd (fun _ => 0) (0 : Int32).toNatClampNeg 0) (1 : Int32).toNatClampNeg 0) (2 : Int32).toNatClampNeg 0) (3 : Int32).toNatClampNeg 0) (4 : Int32).toNatClampNeg 0) (5 : Int32).toNatClampNeg 0) (6 : Int32).toNatClampNeg 0) (7 : Int32).toNatClampNeg 0) (8 : Int32).toNatClampNeg 0) (9 : Int32).toNatClampNeg 0)))).set 34 ((u 33), .inr (2, ([.ref (u 0), .ref (u 12), .ref (u 19), .int 0, .ref (u 34), .ref (u 35), .ref (u 36), .ref (u 37), .int 0].set 3 (.int 1))))).set 35 ((u 34), .inl (cI, 120, .inl (upd (fun _ => 0) (0 : Int32).toNatClampNeg 10)))).set 36 ((u 35), .inl (cI, 120, .inl (upd (fun _ => 0) (0 : Int32).toNatClampNeg 0)))).set 37 ((u 36), .inl (cI, 120, .inl (upd (fun _ => 0) (0 : Int32).toNatClampNeg (-1))))) sz)) 0 0 (va_A (((((((xW o u cI cZ cJ).set 0 (o, .inr (8, ((xF u).set 9 (.int 0))))).set 32 ((u 31), .inl (cZ, 10, .inl (upd (upd (upd (upd (upd (upd (upd (upd (upd (upd (fun _ => 0) (0 : Int32).toNatClampNeg 0) (1 : Int32).toNatClampNeg 0) (2 : Int32).toNatClampNeg 0) (3 : Int32).toNatClampNeg 0) (4 : Int32).toNatClampNeg 0) (5 : Int32).toNatClampNeg 0) (6 : Int32).toNatClampNeg 0) (7 : Int32).toNatClampNeg 0) (8 : Int32).toNatClampNeg 0) (9 : Int32).toNatClampNeg 0)))).set 34 ((u 33), .inr (2, ([.ref (u 0), .ref (u 12), .ref (u 19), .int 0, .ref (u 34), .ref (u 35), .ref (u 36), .ref (u 37), .int 0].set 3 (.int 1))))).set 35 ((u 34), .inl (cI, 120, .inl (upd (fun _ => 0) (0 : Int32).toNatClampNeg 10)))).set 36 ((u 35), .inl (cI, 120, .inl (upd (fun _ => 0) (0 : Int32).toNatClampNeg 0)))).set 37 ((u 36), .inl (cI, 120, .inl (upd (fun _ => 0) (0 : Int32).toNatClampNeg (-1))))) sz) := by
  refine aStart (lv := [(0, .ref o), (1, .int 0), (2, .int 2)]) (Qc := fun A => wQi (0) D (((((((xW o u cI cZ cJ).set 0 (o, .inr (8, ((xF u).set 9 (.int 0))))).set 32 ((u 31), .inl (cZ, 10, .inl (upd (upd (upd (upd (upd (upd (upd (upd (upd (upd (fun _ => 0) (0 : Int32).toNatClampNeg 0) (1 : Int32).toNatClampNeg 0) (2 : Int32).toNatClampNeg 0) (3 : Int32).toNatClampNeg 0) (4 : Int32).toNatClampNeg 0) (5 : Int32).toNatClampNeg 0) (6 : Int32).toNatClampNeg 0) (7 : Int32).toNatClampNeg 0) (8 : Int32).toNatClampNeg 0) (9 : Int32).toNatClampNeg 0)))).set 34 ((u 33), .inr (2, ([.ref (u 0), .ref (u 12), .ref (u 19), .int 0, .ref (u 34), .ref (u 35), .ref (u 36), .ref (u 37), .int 0].set 3 (.int 1))))).set 35 ((u 34), .inl (cI, 120, .inl (upd (fun _ => 0) (0 : Int32).toNatClampNeg 10)))).set 36 ((u 35), .inl (cI, 120, .inl (upd (fun _ => 0) (0 : Int32).toNatClampNeg 0)))).set 37 ((u 36), .inl (cI, 120, .inl (upd (fun _ => 0) (0 : Int32).toNatClampNeg (-1))))) A) (by decide) (Nat.le_of_ble_eq_true rfl) rfl ?_
  intro p e s m args below meth c ls A H S hr hlocks hnm hl hK hP hD hS hA hB
  have hx := S.1
  have hb := S.2.1
  refine lv_aload_n hx hb dX8_ofProcedure_0 rfl (lv_at hl 0 rfl) ?_
  refine lv_iload_n hx hb dX8_ofProcedure_1 rfl (lv_at hl 1 rfl) ?_
  refine aVv (As := [.int 0]) (ci := 8) S (c_X8_needProcedure_3 l D cI cZ cJ o u ra ga H.size) mi_X8_needProcedure kw_4_166 rfl rfl ⟨Nat.le_of_ble_eq_true rfl, Nat.le_of_ble_eq_true rfl⟩ hP hD hK hS hA hB (k := 0) rfl rfl rfl hl.1 (Nat.le_of_ble_eq_true rfl) ⟨Nat.le_of_ble_eq_true rfl, Nat.le_of_ble_eq_true rfl⟩ dX8_ofProcedure_2 (fun H locs hz hP hD hS => ?_)
  refine lv_iload_n hx hb dX8_ofProcedure_5 rfl (lv_at hl 2 rfl) ?_
  refine lv_if_lt (tgt := 19) hx hb dX8_ofProcedure_6 (by decide) (fun c => absurd c (by decide)) (fun _ => ?_)
  refine lv_iload_n hx hb dX8_ofProcedure_9 rfl (lv_at hl 2 rfl) ?_
  refine lv_bipush (v := 7) hx hb dX8_ofProcedure_10 (by decide) ?_
  refine lv_icmp_gt (tgt := 19) hx hb dX8_ofProcedure_12 (by decide) (fun c => absurd c (by decide)) (fun _ => ?_)
  refine lv_iconst (v := 1) hx hb dX8_ofProcedure_15 (by decide) ?_
  refine lv_goto (tgt := 20) hx hb dX8_ofProcedure_16 (by decide) ?_
  refine aSv (As := [.int 1]) S (c_X8_needArgument_3 l D cI cZ cJ o u ra ga H.size) ms_X8_needArgument kw_4_4 rfl rfl ⟨Nat.le_of_ble_eq_true rfl, Nat.le_of_ble_eq_true rfl⟩ hP hD hK hS hA hB hl.1 (Nat.le_of_ble_eq_true rfl) ⟨Nat.le_of_ble_eq_true rfl, Nat.le_of_ble_eq_true rfl⟩ dX8_ofProcedure_20 (fun H locs hz hP hD hS => ?_)
  refine lv_aload_n hx hb dX8_ofProcedure_23 rfl (lv_at hl 0 rfl) ?_
  refine aVv (As := []) (ci := 8) S (c_X8_refresh_1 l D cI cZ cJ o u ra ga H.size) mi_X8_refresh kw_3_71 rfl rfl ⟨Nat.le_of_ble_eq_true rfl, Nat.le_of_ble_eq_true rfl⟩ hP hD hK hS hA hB (k := 0) rfl rfl rfl hl.1 (Nat.le_of_ble_eq_true rfl) ⟨Nat.le_of_ble_eq_true rfl, Nat.le_of_ble_eq_true rfl⟩ dX8_ofProcedure_24 (fun H locs hz hP hD hS => ?_)
  refine lv_iload_n hx hb dX8_ofProcedure_27 rfl (lv_at hl 2 rfl) ?_
  refine lv_tableIn (off := 64) (tgt := 92) hx hb dX8_ofProcedure_28 (by decide) (by decide) (by decide) (by decide) ?_
  refine lv_aload_n hx hb dX8_ofProcedure_92 rfl (lv_at hl 0 rfl) ?_
  refine xg (ci := 8) S inX8 rfl hK hP (q0 := 0) rfl 0 (by decide) rfl kw_3_20 rfl dX8_ofProcedure_93 ?_
  refine xg (ci := 1) S inX1 rfl hK hP (q0 := 1) rfl 3 (by decide) rfl kw_1_49 rfl dX8_ofProcedure_96 ?_
  refine lv_iload_n hx hb dX8_ofProcedure_99 rfl (lv_at hl 1 rfl) ?_
  refine xiald (t0 := 0) (v := 0) S hK hP (q0 := 4) rfl rfl (vin rfl) rfl dX8_ofProcedure_100 ?_
  exact wEnd S hr hlocks hP hD hS (Nat.le_of_ble_eq_true rfl) (Nat.le_of_ble_eq_true rfl) dX8_ofProcedure_101 rfl

set_option maxHeartbeats 8000000 in
set_option maxRecDepth 100000 in
theorem c_X8_ofProcedure_29 (l : Launch) (D : va_G) (cI cZ cJ : ClassId) (o : Nat) (u : Nat → Nat) (ra ga : Nat → Nat) (sz : Nat) : Met l yX8_ofProcedure (uW yX8_ofProcedure cX8_ofProcedure 3 (some .int)) ({ frames := 2, cells := 0, slots := 0, locals := 42 }) (va_Pc [.ref o, .int 0, .int 3] (aS ra ga D (tyL cI cZ cJ) (((((((xW o u cI cZ cJ).set 0 (o, .inr (8, ((xF u).set 9 (.int 0))))).set 32 ((u 31), .inl (cZ, 10, .inl (upd (upd (upd (upd (upd (upd (upd (upd (upd (upd (fun _ => 0) (0 : Int32).toNatClampNeg 0) (1 : Int32).toNatClampNeg 0) (2 : Int32).toNatClampNeg 0) (3 : Int32).toNatClampNeg 0) (4 : Int32).toNatClampNeg 0) (5 : Int32).toNatClampNeg 0) (6 : Int32).toNatClampNeg 0) (7 : Int32).toNatClampNeg 0) (8 : Int32).toNatClampNeg 0) (9 : Int32).toNatClampNeg 0)))).set 34 ((u 33), .inr (2, ([.ref (u 0), .ref (u 12), .ref (u 19), .int 0, .ref (u 34), .ref (u 35), .ref (u 36), .ref (u 37), .int 0].set 3 (.int 1))))).set 35 ((u 34), .inl (cI, 120, .inl (upd (fun _ => 0) (0 : Int32).toNatClampNeg 10)))).set 36 ((u 35), .inl (cI, 120, .inl (upd (fun _ => 0) (0 : Int32).toNatClampNeg 0)))).set 37 ((u 36), .inl (cI, 120, .inl (upd (fun _ => 0) (0 : Int32).toNatClampNeg (-1))))) sz)) (wQi (0) D (((((((xW o u cI cZ cJ).set 0 (o, .inr (8, ((xF u).set 9 (.int 0))))).set 32 ((u 31), .inl (cZ, 10, .inl (upd (upd (upd (upd (upd (upd (upd (upd (upd (upd (fun _ => 0) (0 : Int32).toNatClampNeg 0) (1 : Int32).toNatClampNeg 0) (2 : Int32).toNatClampNeg 0) (3 : Int32).toNatClampNeg 0) (4 : Int32).toNatClampNeg 0) (5 : Int32).toNatClampNeg 0) (6 : Int32).toNatClampNeg 0) (7 : Int32).toNatClampNeg 0) (8 : Int32).toNatClampNeg 0) (9 : Int32).toNatClampNeg 0)))).set 34 ((u 33), .inr (2, ([.ref (u 0), .ref (u 12), .ref (u 19), .int 0, .ref (u 34), .ref (u 35), .ref (u 36), .ref (u 37), .int 0].set 3 (.int 1))))).set 35 ((u 34), .inl (cI, 120, .inl (upd (fun _ => 0) (0 : Int32).toNatClampNeg 10)))).set 36 ((u 35), .inl (cI, 120, .inl (upd (fun _ => 0) (0 : Int32).toNatClampNeg 0)))).set 37 ((u 36), .inl (cI, 120, .inl (upd (fun _ => 0) (0 : Int32).toNatClampNeg (-1))))) (va_A (((((((xW o u cI cZ cJ).set 0 (o, .inr (8, ((xF u).set 9 (.int 0))))).set 32 ((u 31), .inl (cZ, 10, .inl (upd (upd (upd (upd (upd (upd (upd (upd (upd (upd (fun _ => 0) (0 : Int32).toNatClampNeg 0) (1 : Int32).toNatClampNeg 0) (2 : Int32).toNatClampNeg 0) (3 : Int32).toNatClampNeg 0) (4 : Int32).toNatClampNeg 0) (5 : Int32).toNatClampNeg 0) (6 : Int32).toNatClampNeg 0) (7 : Int32).toNatClampNeg 0) (8 : Int32).toNatClampNeg 0) (9 : Int32).toNatClampNeg 0)))).set 34 ((u 33), .inr (2, ([.ref (u 0), .ref (u 12), .ref (u 19), .int 0, .ref (u 34), .ref (u 35), .ref (u 36), .ref (u 37), .int 0].set 3 (.int 1))))).set 35 ((u 34), .inl (cI, 120, .inl (upd (fun _ => 0) (0 : Int32).toNatClampNeg 10)))).set 36 ((u 35), .inl (cI, 120, .inl (upd (fun _ => 0) (0 : Int32).toNatClampNeg 0)))).set 37 ((u 36), .inl (cI, 120, .inl (upd (fun _ => 0) (0 : Int32).toNatClampNeg (-1))))) sz)) 0 0 (va_A (((((((xW o u cI cZ cJ).set 0 (o, .inr (8, ((xF u).set 9 (.int 0))))).set 32 ((u 31), .inl (cZ, 10, .inl (upd (upd (upd (upd (upd (upd (upd (upd (upd (upd (fun _ => 0) (0 : Int32).toNatClampNeg 0) (1 : Int32).toNatClampNeg 0) (2 : Int32).toNatClampNeg 0) (3 : Int32).toNatClampNeg 0) (4 : Int32).toNatClampNeg 0) (5 : Int32).toNatClampNeg 0) (6 : Int32).toNatClampNeg 0) (7 : Int32).toNatClampNeg 0) (8 : Int32).toNatClampNeg 0) (9 : Int32).toNatClampNeg 0)))).set 34 ((u 33), .inr (2, ([.ref (u 0), .ref (u 12), .ref (u 19), .int 0, .ref (u 34), .ref (u 35), .ref (u 36), .ref (u 37), .int 0].set 3 (.int 1))))).set 35 ((u 34), .inl (cI, 120, .inl (upd (fun _ => 0) (0 : Int32).toNatClampNeg 10)))).set 36 ((u 35), .inl (cI, 120, .inl (upd (fun _ => 0) (0 : Int32).toNatClampNeg 0)))).set 37 ((u 36), .inl (cI, 120, .inl (upd (fun _ => 0) (0 : Int32).toNatClampNeg (-1))))) sz) := by
  refine aStart (lv := [(0, .ref o), (1, .int 0), (2, .int 3)]) (Qc := fun A => wQi (0) D (((((((xW o u cI cZ cJ).set 0 (o, .inr (8, ((xF u).set 9 (.int 0))))).set 32 ((u 31), .inl (cZ, 10, .inl (upd (upd (upd (upd (upd (upd (upd (upd (upd (upd (fun _ => 0) (0 : Int32).toNatClampNeg 0) (1 : Int32).toNatClampNeg 0) (2 : Int32).toNatClampNeg 0) (3 : Int32).toNatClampNeg 0) (4 : Int32).toNatClampNeg 0) (5 : Int32).toNatClampNeg 0) (6 : Int32).toNatClampNeg 0) (7 : Int32).toNatClampNeg 0) (8 : Int32).toNatClampNeg 0) (9 : Int32).toNatClampNeg 0)))).set 34 ((u 33), .inr (2, ([.ref (u 0), .ref (u 12), .ref (u 19), .int 0, .ref (u 34), .ref (u 35), .ref (u 36), .ref (u 37), .int 0].set 3 (.int 1))))).set 35 ((u 34), .inl (cI, 120, .inl (upd (fun _ => 0) (0 : Int32).toNatClampNeg 10)))).set 36 ((u 35), .inl (cI, 120, .inl (upd (fun _ => 0) (0 : Int32).toNatClampNeg 0)))).set 37 ((u 36), .inl (cI, 120, .inl (upd (fun _ => 0) (0 : Int32).toNatClampNeg (-1))))) A) (by decide) (Nat.le_of_ble_eq_true rfl) rfl ?_
  intro p e s m args below meth c ls A H S hr hlocks hnm hl hK hP hD hS hA hB
  have hx := S.1
  have hb := S.2.1
  refine lv_aload_n hx hb dX8_ofProcedure_0 rfl (lv_at hl 0 rfl) ?_
  refine lv_iload_n hx hb dX8_ofProcedure_1 rfl (lv_at hl 1 rfl) ?_
  refine aVv (As := [.int 0]) (ci := 8) S (c_X8_needProcedure_3 l D cI cZ cJ o u ra ga H.size) mi_X8_needProcedure kw_4_166 rfl rfl ⟨Nat.le_of_ble_eq_true rfl, Nat.le_of_ble_eq_true rfl⟩ hP hD hK hS hA hB (k := 0) rfl rfl rfl hl.1 (Nat.le_of_ble_eq_true rfl) ⟨Nat.le_of_ble_eq_true rfl, Nat.le_of_ble_eq_true rfl⟩ dX8_ofProcedure_2 (fun H locs hz hP hD hS => ?_)
  refine lv_iload_n hx hb dX8_ofProcedure_5 rfl (lv_at hl 2 rfl) ?_
  refine lv_if_lt (tgt := 19) hx hb dX8_ofProcedure_6 (by decide) (fun c => absurd c (by decide)) (fun _ => ?_)
  refine lv_iload_n hx hb dX8_ofProcedure_9 rfl (lv_at hl 2 rfl) ?_
  refine lv_bipush (v := 7) hx hb dX8_ofProcedure_10 (by decide) ?_
  refine lv_icmp_gt (tgt := 19) hx hb dX8_ofProcedure_12 (by decide) (fun c => absurd c (by decide)) (fun _ => ?_)
  refine lv_iconst (v := 1) hx hb dX8_ofProcedure_15 (by decide) ?_
  refine lv_goto (tgt := 20) hx hb dX8_ofProcedure_16 (by decide) ?_
  refine aSv (As := [.int 1]) S (c_X8_needArgument_3 l D cI cZ cJ o u ra ga H.size) ms_X8_needArgument kw_4_4 rfl rfl ⟨Nat.le_of_ble_eq_true rfl, Nat.le_of_ble_eq_true rfl⟩ hP hD hK hS hA hB hl.1 (Nat.le_of_ble_eq_true rfl) ⟨Nat.le_of_ble_eq_true rfl, Nat.le_of_ble_eq_true rfl⟩ dX8_ofProcedure_20 (fun H locs hz hP hD hS => ?_)
  refine lv_aload_n hx hb dX8_ofProcedure_23 rfl (lv_at hl 0 rfl) ?_
  refine aVv (As := []) (ci := 8) S (c_X8_refresh_1 l D cI cZ cJ o u ra ga H.size) mi_X8_refresh kw_3_71 rfl rfl ⟨Nat.le_of_ble_eq_true rfl, Nat.le_of_ble_eq_true rfl⟩ hP hD hK hS hA hB (k := 0) rfl rfl rfl hl.1 (Nat.le_of_ble_eq_true rfl) ⟨Nat.le_of_ble_eq_true rfl, Nat.le_of_ble_eq_true rfl⟩ dX8_ofProcedure_24 (fun H locs hz hP hD hS => ?_)
  refine lv_iload_n hx hb dX8_ofProcedure_27 rfl (lv_at hl 2 rfl) ?_
  refine lv_tableIn (off := 74) (tgt := 102) hx hb dX8_ofProcedure_28 (by decide) (by decide) (by decide) (by decide) ?_
  refine lv_aload_n hx hb dX8_ofProcedure_102 rfl (lv_at hl 0 rfl) ?_
  refine xg (ci := 8) S inX8 rfl hK hP (q0 := 0) rfl 0 (by decide) rfl kw_3_20 rfl dX8_ofProcedure_103 ?_
  refine xg (ci := 1) S inX1 rfl hK hP (q0 := 1) rfl 4 (by decide) rfl kw_1_54 rfl dX8_ofProcedure_106 ?_
  refine lv_iload_n hx hb dX8_ofProcedure_109 rfl (lv_at hl 1 rfl) ?_
  refine xiald (t0 := 0) (v := 0) S hK hP (q0 := 5) rfl rfl (vin rfl) rfl dX8_ofProcedure_110 ?_
  exact wEnd S hr hlocks hP hD hS (Nat.le_of_ble_eq_true rfl) (Nat.le_of_ble_eq_true rfl) dX8_ofProcedure_111 rfl

set_option maxHeartbeats 8000000 in
set_option maxRecDepth 100000 in
theorem c_X8_ofProcedure_30 (l : Launch) (D : va_G) (cI cZ cJ : ClassId) (o : Nat) (u : Nat → Nat) (ra ga : Nat → Nat) (sz : Nat) : Met l yX8_ofProcedure (uW yX8_ofProcedure cX8_ofProcedure 3 (some .int)) ({ frames := 2, cells := 0, slots := 0, locals := 42 }) (va_Pc [.ref o, .int 0, .int 4] (aS ra ga D (tyL cI cZ cJ) (((((((xW o u cI cZ cJ).set 0 (o, .inr (8, ((xF u).set 9 (.int 0))))).set 32 ((u 31), .inl (cZ, 10, .inl (upd (upd (upd (upd (upd (upd (upd (upd (upd (upd (fun _ => 0) (0 : Int32).toNatClampNeg 0) (1 : Int32).toNatClampNeg 0) (2 : Int32).toNatClampNeg 0) (3 : Int32).toNatClampNeg 0) (4 : Int32).toNatClampNeg 0) (5 : Int32).toNatClampNeg 0) (6 : Int32).toNatClampNeg 0) (7 : Int32).toNatClampNeg 0) (8 : Int32).toNatClampNeg 0) (9 : Int32).toNatClampNeg 0)))).set 34 ((u 33), .inr (2, ([.ref (u 0), .ref (u 12), .ref (u 19), .int 0, .ref (u 34), .ref (u 35), .ref (u 36), .ref (u 37), .int 0].set 3 (.int 1))))).set 35 ((u 34), .inl (cI, 120, .inl (upd (fun _ => 0) (0 : Int32).toNatClampNeg 10)))).set 36 ((u 35), .inl (cI, 120, .inl (upd (fun _ => 0) (0 : Int32).toNatClampNeg 0)))).set 37 ((u 36), .inl (cI, 120, .inl (upd (fun _ => 0) (0 : Int32).toNatClampNeg (-1))))) sz)) (wQi (0) D (((((((xW o u cI cZ cJ).set 0 (o, .inr (8, ((xF u).set 9 (.int 0))))).set 32 ((u 31), .inl (cZ, 10, .inl (upd (upd (upd (upd (upd (upd (upd (upd (upd (upd (fun _ => 0) (0 : Int32).toNatClampNeg 0) (1 : Int32).toNatClampNeg 0) (2 : Int32).toNatClampNeg 0) (3 : Int32).toNatClampNeg 0) (4 : Int32).toNatClampNeg 0) (5 : Int32).toNatClampNeg 0) (6 : Int32).toNatClampNeg 0) (7 : Int32).toNatClampNeg 0) (8 : Int32).toNatClampNeg 0) (9 : Int32).toNatClampNeg 0)))).set 34 ((u 33), .inr (2, ([.ref (u 0), .ref (u 12), .ref (u 19), .int 0, .ref (u 34), .ref (u 35), .ref (u 36), .ref (u 37), .int 0].set 3 (.int 1))))).set 35 ((u 34), .inl (cI, 120, .inl (upd (fun _ => 0) (0 : Int32).toNatClampNeg 10)))).set 36 ((u 35), .inl (cI, 120, .inl (upd (fun _ => 0) (0 : Int32).toNatClampNeg 0)))).set 37 ((u 36), .inl (cI, 120, .inl (upd (fun _ => 0) (0 : Int32).toNatClampNeg (-1))))) (va_A (((((((xW o u cI cZ cJ).set 0 (o, .inr (8, ((xF u).set 9 (.int 0))))).set 32 ((u 31), .inl (cZ, 10, .inl (upd (upd (upd (upd (upd (upd (upd (upd (upd (upd (fun _ => 0) (0 : Int32).toNatClampNeg 0) (1 : Int32).toNatClampNeg 0) (2 : Int32).toNatClampNeg 0) (3 : Int32).toNatClampNeg 0) (4 : Int32).toNatClampNeg 0) (5 : Int32).toNatClampNeg 0) (6 : Int32).toNatClampNeg 0) (7 : Int32).toNatClampNeg 0) (8 : Int32).toNatClampNeg 0) (9 : Int32).toNatClampNeg 0)))).set 34 ((u 33), .inr (2, ([.ref (u 0), .ref (u 12), .ref (u 19), .int 0, .ref (u 34), .ref (u 35), .ref (u 36), .ref (u 37), .int 0].set 3 (.int 1))))).set 35 ((u 34), .inl (cI, 120, .inl (upd (fun _ => 0) (0 : Int32).toNatClampNeg 10)))).set 36 ((u 35), .inl (cI, 120, .inl (upd (fun _ => 0) (0 : Int32).toNatClampNeg 0)))).set 37 ((u 36), .inl (cI, 120, .inl (upd (fun _ => 0) (0 : Int32).toNatClampNeg (-1))))) sz)) 0 0 (va_A (((((((xW o u cI cZ cJ).set 0 (o, .inr (8, ((xF u).set 9 (.int 0))))).set 32 ((u 31), .inl (cZ, 10, .inl (upd (upd (upd (upd (upd (upd (upd (upd (upd (upd (fun _ => 0) (0 : Int32).toNatClampNeg 0) (1 : Int32).toNatClampNeg 0) (2 : Int32).toNatClampNeg 0) (3 : Int32).toNatClampNeg 0) (4 : Int32).toNatClampNeg 0) (5 : Int32).toNatClampNeg 0) (6 : Int32).toNatClampNeg 0) (7 : Int32).toNatClampNeg 0) (8 : Int32).toNatClampNeg 0) (9 : Int32).toNatClampNeg 0)))).set 34 ((u 33), .inr (2, ([.ref (u 0), .ref (u 12), .ref (u 19), .int 0, .ref (u 34), .ref (u 35), .ref (u 36), .ref (u 37), .int 0].set 3 (.int 1))))).set 35 ((u 34), .inl (cI, 120, .inl (upd (fun _ => 0) (0 : Int32).toNatClampNeg 10)))).set 36 ((u 35), .inl (cI, 120, .inl (upd (fun _ => 0) (0 : Int32).toNatClampNeg 0)))).set 37 ((u 36), .inl (cI, 120, .inl (upd (fun _ => 0) (0 : Int32).toNatClampNeg (-1))))) sz) := by
  refine aStart (lv := [(0, .ref o), (1, .int 0), (2, .int 4)]) (Qc := fun A => wQi (0) D (((((((xW o u cI cZ cJ).set 0 (o, .inr (8, ((xF u).set 9 (.int 0))))).set 32 ((u 31), .inl (cZ, 10, .inl (upd (upd (upd (upd (upd (upd (upd (upd (upd (upd (fun _ => 0) (0 : Int32).toNatClampNeg 0) (1 : Int32).toNatClampNeg 0) (2 : Int32).toNatClampNeg 0) (3 : Int32).toNatClampNeg 0) (4 : Int32).toNatClampNeg 0) (5 : Int32).toNatClampNeg 0) (6 : Int32).toNatClampNeg 0) (7 : Int32).toNatClampNeg 0) (8 : Int32).toNatClampNeg 0) (9 : Int32).toNatClampNeg 0)))).set 34 ((u 33), .inr (2, ([.ref (u 0), .ref (u 12), .ref (u 19), .int 0, .ref (u 34), .ref (u 35), .ref (u 36), .ref (u 37), .int 0].set 3 (.int 1))))).set 35 ((u 34), .inl (cI, 120, .inl (upd (fun _ => 0) (0 : Int32).toNatClampNeg 10)))).set 36 ((u 35), .inl (cI, 120, .inl (upd (fun _ => 0) (0 : Int32).toNatClampNeg 0)))).set 37 ((u 36), .inl (cI, 120, .inl (upd (fun _ => 0) (0 : Int32).toNatClampNeg (-1))))) A) (by decide) (Nat.le_of_ble_eq_true rfl) rfl ?_
  intro p e s m args below meth c ls A H S hr hlocks hnm hl hK hP hD hS hA hB
  have hx := S.1
  have hb := S.2.1
  refine lv_aload_n hx hb dX8_ofProcedure_0 rfl (lv_at hl 0 rfl) ?_
  refine lv_iload_n hx hb dX8_ofProcedure_1 rfl (lv_at hl 1 rfl) ?_
  refine aVv (As := [.int 0]) (ci := 8) S (c_X8_needProcedure_3 l D cI cZ cJ o u ra ga H.size) mi_X8_needProcedure kw_4_166 rfl rfl ⟨Nat.le_of_ble_eq_true rfl, Nat.le_of_ble_eq_true rfl⟩ hP hD hK hS hA hB (k := 0) rfl rfl rfl hl.1 (Nat.le_of_ble_eq_true rfl) ⟨Nat.le_of_ble_eq_true rfl, Nat.le_of_ble_eq_true rfl⟩ dX8_ofProcedure_2 (fun H locs hz hP hD hS => ?_)
  refine lv_iload_n hx hb dX8_ofProcedure_5 rfl (lv_at hl 2 rfl) ?_
  refine lv_if_lt (tgt := 19) hx hb dX8_ofProcedure_6 (by decide) (fun c => absurd c (by decide)) (fun _ => ?_)
  refine lv_iload_n hx hb dX8_ofProcedure_9 rfl (lv_at hl 2 rfl) ?_
  refine lv_bipush (v := 7) hx hb dX8_ofProcedure_10 (by decide) ?_
  refine lv_icmp_gt (tgt := 19) hx hb dX8_ofProcedure_12 (by decide) (fun c => absurd c (by decide)) (fun _ => ?_)
  refine lv_iconst (v := 1) hx hb dX8_ofProcedure_15 (by decide) ?_
  refine lv_goto (tgt := 20) hx hb dX8_ofProcedure_16 (by decide) ?_
  refine aSv (As := [.int 1]) S (c_X8_needArgument_3 l D cI cZ cJ o u ra ga H.size) ms_X8_needArgument kw_4_4 rfl rfl ⟨Nat.le_of_ble_eq_true rfl, Nat.le_of_ble_eq_true rfl⟩ hP hD hK hS hA hB hl.1 (Nat.le_of_ble_eq_true rfl) ⟨Nat.le_of_ble_eq_true rfl, Nat.le_of_ble_eq_true rfl⟩ dX8_ofProcedure_20 (fun H locs hz hP hD hS => ?_)
  refine lv_aload_n hx hb dX8_ofProcedure_23 rfl (lv_at hl 0 rfl) ?_
  refine aVv (As := []) (ci := 8) S (c_X8_refresh_1 l D cI cZ cJ o u ra ga H.size) mi_X8_refresh kw_3_71 rfl rfl ⟨Nat.le_of_ble_eq_true rfl, Nat.le_of_ble_eq_true rfl⟩ hP hD hK hS hA hB (k := 0) rfl rfl rfl hl.1 (Nat.le_of_ble_eq_true rfl) ⟨Nat.le_of_ble_eq_true rfl, Nat.le_of_ble_eq_true rfl⟩ dX8_ofProcedure_24 (fun H locs hz hP hD hS => ?_)
  refine lv_iload_n hx hb dX8_ofProcedure_27 rfl (lv_at hl 2 rfl) ?_
  refine lv_tableIn (off := 84) (tgt := 112) hx hb dX8_ofProcedure_28 (by decide) (by decide) (by decide) (by decide) ?_
  refine lv_aload_n hx hb dX8_ofProcedure_112 rfl (lv_at hl 0 rfl) ?_
  refine xg (ci := 8) S inX8 rfl hK hP (q0 := 0) rfl 2 (by decide) rfl kw_3_22 rfl dX8_ofProcedure_113 ?_
  refine xg (ci := 4) S inX4 rfl hK hP (q0 := 20) rfl 14 (by decide) rfl kw_1_194 rfl dX8_ofProcedure_116 ?_
  refine lv_iload_n hx hb dX8_ofProcedure_119 rfl (lv_at hl 1 rfl) ?_
  refine xiald (t0 := 0) (v := 0) S hK hP (q0 := 33) rfl rfl (vin rfl) rfl dX8_ofProcedure_120 ?_
  exact wEnd S hr hlocks hP hD hS (Nat.le_of_ble_eq_true rfl) (Nat.le_of_ble_eq_true rfl) dX8_ofProcedure_121 rfl

set_option maxHeartbeats 8000000 in
set_option maxRecDepth 100000 in
theorem c_X8_ofProcedure_31 (l : Launch) (D : va_G) (cI cZ cJ : ClassId) (o : Nat) (u : Nat → Nat) (ra ga : Nat → Nat) (sz : Nat) : Met l yX8_ofProcedure (uW yX8_ofProcedure cX8_ofProcedure 3 (some .int)) ({ frames := 2, cells := 0, slots := 0, locals := 42 }) (va_Pc [.ref o, .int 0, .int 5] (aS ra ga D (tyL cI cZ cJ) (((((((xW o u cI cZ cJ).set 0 (o, .inr (8, ((xF u).set 9 (.int 0))))).set 32 ((u 31), .inl (cZ, 10, .inl (upd (upd (upd (upd (upd (upd (upd (upd (upd (upd (fun _ => 0) (0 : Int32).toNatClampNeg 0) (1 : Int32).toNatClampNeg 0) (2 : Int32).toNatClampNeg 0) (3 : Int32).toNatClampNeg 0) (4 : Int32).toNatClampNeg 0) (5 : Int32).toNatClampNeg 0) (6 : Int32).toNatClampNeg 0) (7 : Int32).toNatClampNeg 0) (8 : Int32).toNatClampNeg 0) (9 : Int32).toNatClampNeg 0)))).set 34 ((u 33), .inr (2, ([.ref (u 0), .ref (u 12), .ref (u 19), .int 0, .ref (u 34), .ref (u 35), .ref (u 36), .ref (u 37), .int 0].set 3 (.int 1))))).set 35 ((u 34), .inl (cI, 120, .inl (upd (fun _ => 0) (0 : Int32).toNatClampNeg 10)))).set 36 ((u 35), .inl (cI, 120, .inl (upd (fun _ => 0) (0 : Int32).toNatClampNeg 0)))).set 37 ((u 36), .inl (cI, 120, .inl (upd (fun _ => 0) (0 : Int32).toNatClampNeg (-1))))) sz)) (wQi (0) D (((((((xW o u cI cZ cJ).set 0 (o, .inr (8, ((xF u).set 9 (.int 0))))).set 32 ((u 31), .inl (cZ, 10, .inl (upd (upd (upd (upd (upd (upd (upd (upd (upd (upd (fun _ => 0) (0 : Int32).toNatClampNeg 0) (1 : Int32).toNatClampNeg 0) (2 : Int32).toNatClampNeg 0) (3 : Int32).toNatClampNeg 0) (4 : Int32).toNatClampNeg 0) (5 : Int32).toNatClampNeg 0) (6 : Int32).toNatClampNeg 0) (7 : Int32).toNatClampNeg 0) (8 : Int32).toNatClampNeg 0) (9 : Int32).toNatClampNeg 0)))).set 34 ((u 33), .inr (2, ([.ref (u 0), .ref (u 12), .ref (u 19), .int 0, .ref (u 34), .ref (u 35), .ref (u 36), .ref (u 37), .int 0].set 3 (.int 1))))).set 35 ((u 34), .inl (cI, 120, .inl (upd (fun _ => 0) (0 : Int32).toNatClampNeg 10)))).set 36 ((u 35), .inl (cI, 120, .inl (upd (fun _ => 0) (0 : Int32).toNatClampNeg 0)))).set 37 ((u 36), .inl (cI, 120, .inl (upd (fun _ => 0) (0 : Int32).toNatClampNeg (-1))))) (va_A (((((((xW o u cI cZ cJ).set 0 (o, .inr (8, ((xF u).set 9 (.int 0))))).set 32 ((u 31), .inl (cZ, 10, .inl (upd (upd (upd (upd (upd (upd (upd (upd (upd (upd (fun _ => 0) (0 : Int32).toNatClampNeg 0) (1 : Int32).toNatClampNeg 0) (2 : Int32).toNatClampNeg 0) (3 : Int32).toNatClampNeg 0) (4 : Int32).toNatClampNeg 0) (5 : Int32).toNatClampNeg 0) (6 : Int32).toNatClampNeg 0) (7 : Int32).toNatClampNeg 0) (8 : Int32).toNatClampNeg 0) (9 : Int32).toNatClampNeg 0)))).set 34 ((u 33), .inr (2, ([.ref (u 0), .ref (u 12), .ref (u 19), .int 0, .ref (u 34), .ref (u 35), .ref (u 36), .ref (u 37), .int 0].set 3 (.int 1))))).set 35 ((u 34), .inl (cI, 120, .inl (upd (fun _ => 0) (0 : Int32).toNatClampNeg 10)))).set 36 ((u 35), .inl (cI, 120, .inl (upd (fun _ => 0) (0 : Int32).toNatClampNeg 0)))).set 37 ((u 36), .inl (cI, 120, .inl (upd (fun _ => 0) (0 : Int32).toNatClampNeg (-1))))) sz)) 0 0 (va_A (((((((xW o u cI cZ cJ).set 0 (o, .inr (8, ((xF u).set 9 (.int 0))))).set 32 ((u 31), .inl (cZ, 10, .inl (upd (upd (upd (upd (upd (upd (upd (upd (upd (upd (fun _ => 0) (0 : Int32).toNatClampNeg 0) (1 : Int32).toNatClampNeg 0) (2 : Int32).toNatClampNeg 0) (3 : Int32).toNatClampNeg 0) (4 : Int32).toNatClampNeg 0) (5 : Int32).toNatClampNeg 0) (6 : Int32).toNatClampNeg 0) (7 : Int32).toNatClampNeg 0) (8 : Int32).toNatClampNeg 0) (9 : Int32).toNatClampNeg 0)))).set 34 ((u 33), .inr (2, ([.ref (u 0), .ref (u 12), .ref (u 19), .int 0, .ref (u 34), .ref (u 35), .ref (u 36), .ref (u 37), .int 0].set 3 (.int 1))))).set 35 ((u 34), .inl (cI, 120, .inl (upd (fun _ => 0) (0 : Int32).toNatClampNeg 10)))).set 36 ((u 35), .inl (cI, 120, .inl (upd (fun _ => 0) (0 : Int32).toNatClampNeg 0)))).set 37 ((u 36), .inl (cI, 120, .inl (upd (fun _ => 0) (0 : Int32).toNatClampNeg (-1))))) sz) := by
  refine aStart (lv := [(0, .ref o), (1, .int 0), (2, .int 5)]) (Qc := fun A => wQi (0) D (((((((xW o u cI cZ cJ).set 0 (o, .inr (8, ((xF u).set 9 (.int 0))))).set 32 ((u 31), .inl (cZ, 10, .inl (upd (upd (upd (upd (upd (upd (upd (upd (upd (upd (fun _ => 0) (0 : Int32).toNatClampNeg 0) (1 : Int32).toNatClampNeg 0) (2 : Int32).toNatClampNeg 0) (3 : Int32).toNatClampNeg 0) (4 : Int32).toNatClampNeg 0) (5 : Int32).toNatClampNeg 0) (6 : Int32).toNatClampNeg 0) (7 : Int32).toNatClampNeg 0) (8 : Int32).toNatClampNeg 0) (9 : Int32).toNatClampNeg 0)))).set 34 ((u 33), .inr (2, ([.ref (u 0), .ref (u 12), .ref (u 19), .int 0, .ref (u 34), .ref (u 35), .ref (u 36), .ref (u 37), .int 0].set 3 (.int 1))))).set 35 ((u 34), .inl (cI, 120, .inl (upd (fun _ => 0) (0 : Int32).toNatClampNeg 10)))).set 36 ((u 35), .inl (cI, 120, .inl (upd (fun _ => 0) (0 : Int32).toNatClampNeg 0)))).set 37 ((u 36), .inl (cI, 120, .inl (upd (fun _ => 0) (0 : Int32).toNatClampNeg (-1))))) A) (by decide) (Nat.le_of_ble_eq_true rfl) rfl ?_
  intro p e s m args below meth c ls A H S hr hlocks hnm hl hK hP hD hS hA hB
  have hx := S.1
  have hb := S.2.1
  refine lv_aload_n hx hb dX8_ofProcedure_0 rfl (lv_at hl 0 rfl) ?_
  refine lv_iload_n hx hb dX8_ofProcedure_1 rfl (lv_at hl 1 rfl) ?_
  refine aVv (As := [.int 0]) (ci := 8) S (c_X8_needProcedure_3 l D cI cZ cJ o u ra ga H.size) mi_X8_needProcedure kw_4_166 rfl rfl ⟨Nat.le_of_ble_eq_true rfl, Nat.le_of_ble_eq_true rfl⟩ hP hD hK hS hA hB (k := 0) rfl rfl rfl hl.1 (Nat.le_of_ble_eq_true rfl) ⟨Nat.le_of_ble_eq_true rfl, Nat.le_of_ble_eq_true rfl⟩ dX8_ofProcedure_2 (fun H locs hz hP hD hS => ?_)
  refine lv_iload_n hx hb dX8_ofProcedure_5 rfl (lv_at hl 2 rfl) ?_
  refine lv_if_lt (tgt := 19) hx hb dX8_ofProcedure_6 (by decide) (fun c => absurd c (by decide)) (fun _ => ?_)
  refine lv_iload_n hx hb dX8_ofProcedure_9 rfl (lv_at hl 2 rfl) ?_
  refine lv_bipush (v := 7) hx hb dX8_ofProcedure_10 (by decide) ?_
  refine lv_icmp_gt (tgt := 19) hx hb dX8_ofProcedure_12 (by decide) (fun c => absurd c (by decide)) (fun _ => ?_)
  refine lv_iconst (v := 1) hx hb dX8_ofProcedure_15 (by decide) ?_
  refine lv_goto (tgt := 20) hx hb dX8_ofProcedure_16 (by decide) ?_
  refine aSv (As := [.int 1]) S (c_X8_needArgument_3 l D cI cZ cJ o u ra ga H.size) ms_X8_needArgument kw_4_4 rfl rfl ⟨Nat.le_of_ble_eq_true rfl, Nat.le_of_ble_eq_true rfl⟩ hP hD hK hS hA hB hl.1 (Nat.le_of_ble_eq_true rfl) ⟨Nat.le_of_ble_eq_true rfl, Nat.le_of_ble_eq_true rfl⟩ dX8_ofProcedure_20 (fun H locs hz hP hD hS => ?_)
  refine lv_aload_n hx hb dX8_ofProcedure_23 rfl (lv_at hl 0 rfl) ?_
  refine aVv (As := []) (ci := 8) S (c_X8_refresh_1 l D cI cZ cJ o u ra ga H.size) mi_X8_refresh kw_3_71 rfl rfl ⟨Nat.le_of_ble_eq_true rfl, Nat.le_of_ble_eq_true rfl⟩ hP hD hK hS hA hB (k := 0) rfl rfl rfl hl.1 (Nat.le_of_ble_eq_true rfl) ⟨Nat.le_of_ble_eq_true rfl, Nat.le_of_ble_eq_true rfl⟩ dX8_ofProcedure_24 (fun H locs hz hP hD hS => ?_)
  refine lv_iload_n hx hb dX8_ofProcedure_27 rfl (lv_at hl 2 rfl) ?_
  refine lv_tableIn (off := 94) (tgt := 122) hx hb dX8_ofProcedure_28 (by decide) (by decide) (by decide) (by decide) ?_
  refine lv_aload_n hx hb dX8_ofProcedure_122 rfl (lv_at hl 0 rfl) ?_
  refine xg (ci := 8) S inX8 rfl hK hP (q0 := 0) rfl 2 (by decide) rfl kw_3_22 rfl dX8_ofProcedure_123 ?_
  refine xg (ci := 4) S inX4 rfl hK hP (q0 := 20) rfl 13 (by decide) rfl kw_1_192 rfl dX8_ofProcedure_126 ?_
  refine lv_iload_n hx hb dX8_ofProcedure_129 rfl (lv_at hl 1 rfl) ?_
  refine xzald (t0 := 1) (v := 0) S hK hP (q0 := 32) rfl rfl (vin rfl) rfl dX8_ofProcedure_130 ?_
  refine lv_if_eq (tgt := 138) hx hb dX8_ofProcedure_131 (by decide) (fun _ => ?_) (fun c => absurd c (by decide))
  refine lv_iconst (v := 0) hx hb dX8_ofProcedure_138 (by decide) ?_
  exact wEnd S hr hlocks hP hD hS (Nat.le_of_ble_eq_true rfl) (Nat.le_of_ble_eq_true rfl) dX8_ofProcedure_139 rfl

set_option maxHeartbeats 8000000 in
set_option maxRecDepth 100000 in
theorem c_X8_ofProcedure_32 (l : Launch) (D : va_G) (cI cZ cJ : ClassId) (o : Nat) (u : Nat → Nat) (ra ga : Nat → Nat) (sz : Nat) : Met l yX8_ofProcedure (uW yX8_ofProcedure cX8_ofProcedure 3 (some .int)) ({ frames := 2, cells := 0, slots := 0, locals := 42 }) (va_Pc [.ref o, .int 0, .int 6] (aS ra ga D (tyL cI cZ cJ) (((((((xW o u cI cZ cJ).set 0 (o, .inr (8, ((xF u).set 9 (.int 0))))).set 32 ((u 31), .inl (cZ, 10, .inl (upd (upd (upd (upd (upd (upd (upd (upd (upd (upd (fun _ => 0) (0 : Int32).toNatClampNeg 0) (1 : Int32).toNatClampNeg 0) (2 : Int32).toNatClampNeg 0) (3 : Int32).toNatClampNeg 0) (4 : Int32).toNatClampNeg 0) (5 : Int32).toNatClampNeg 0) (6 : Int32).toNatClampNeg 0) (7 : Int32).toNatClampNeg 0) (8 : Int32).toNatClampNeg 0) (9 : Int32).toNatClampNeg 0)))).set 34 ((u 33), .inr (2, ([.ref (u 0), .ref (u 12), .ref (u 19), .int 0, .ref (u 34), .ref (u 35), .ref (u 36), .ref (u 37), .int 0].set 3 (.int 1))))).set 35 ((u 34), .inl (cI, 120, .inl (upd (fun _ => 0) (0 : Int32).toNatClampNeg 10)))).set 36 ((u 35), .inl (cI, 120, .inl (upd (fun _ => 0) (0 : Int32).toNatClampNeg 0)))).set 37 ((u 36), .inl (cI, 120, .inl (upd (fun _ => 0) (0 : Int32).toNatClampNeg (-1))))) sz)) (wQi ((-1)) D (((((((xW o u cI cZ cJ).set 0 (o, .inr (8, ((xF u).set 9 (.int 0))))).set 32 ((u 31), .inl (cZ, 10, .inl (upd (upd (upd (upd (upd (upd (upd (upd (upd (upd (fun _ => 0) (0 : Int32).toNatClampNeg 0) (1 : Int32).toNatClampNeg 0) (2 : Int32).toNatClampNeg 0) (3 : Int32).toNatClampNeg 0) (4 : Int32).toNatClampNeg 0) (5 : Int32).toNatClampNeg 0) (6 : Int32).toNatClampNeg 0) (7 : Int32).toNatClampNeg 0) (8 : Int32).toNatClampNeg 0) (9 : Int32).toNatClampNeg 0)))).set 34 ((u 33), .inr (2, ([.ref (u 0), .ref (u 12), .ref (u 19), .int 0, .ref (u 34), .ref (u 35), .ref (u 36), .ref (u 37), .int 0].set 3 (.int 1))))).set 35 ((u 34), .inl (cI, 120, .inl (upd (fun _ => 0) (0 : Int32).toNatClampNeg 10)))).set 36 ((u 35), .inl (cI, 120, .inl (upd (fun _ => 0) (0 : Int32).toNatClampNeg 0)))).set 37 ((u 36), .inl (cI, 120, .inl (upd (fun _ => 0) (0 : Int32).toNatClampNeg (-1))))) (va_A (((((((xW o u cI cZ cJ).set 0 (o, .inr (8, ((xF u).set 9 (.int 0))))).set 32 ((u 31), .inl (cZ, 10, .inl (upd (upd (upd (upd (upd (upd (upd (upd (upd (upd (fun _ => 0) (0 : Int32).toNatClampNeg 0) (1 : Int32).toNatClampNeg 0) (2 : Int32).toNatClampNeg 0) (3 : Int32).toNatClampNeg 0) (4 : Int32).toNatClampNeg 0) (5 : Int32).toNatClampNeg 0) (6 : Int32).toNatClampNeg 0) (7 : Int32).toNatClampNeg 0) (8 : Int32).toNatClampNeg 0) (9 : Int32).toNatClampNeg 0)))).set 34 ((u 33), .inr (2, ([.ref (u 0), .ref (u 12), .ref (u 19), .int 0, .ref (u 34), .ref (u 35), .ref (u 36), .ref (u 37), .int 0].set 3 (.int 1))))).set 35 ((u 34), .inl (cI, 120, .inl (upd (fun _ => 0) (0 : Int32).toNatClampNeg 10)))).set 36 ((u 35), .inl (cI, 120, .inl (upd (fun _ => 0) (0 : Int32).toNatClampNeg 0)))).set 37 ((u 36), .inl (cI, 120, .inl (upd (fun _ => 0) (0 : Int32).toNatClampNeg (-1))))) sz)) 0 0 (va_A (((((((xW o u cI cZ cJ).set 0 (o, .inr (8, ((xF u).set 9 (.int 0))))).set 32 ((u 31), .inl (cZ, 10, .inl (upd (upd (upd (upd (upd (upd (upd (upd (upd (upd (fun _ => 0) (0 : Int32).toNatClampNeg 0) (1 : Int32).toNatClampNeg 0) (2 : Int32).toNatClampNeg 0) (3 : Int32).toNatClampNeg 0) (4 : Int32).toNatClampNeg 0) (5 : Int32).toNatClampNeg 0) (6 : Int32).toNatClampNeg 0) (7 : Int32).toNatClampNeg 0) (8 : Int32).toNatClampNeg 0) (9 : Int32).toNatClampNeg 0)))).set 34 ((u 33), .inr (2, ([.ref (u 0), .ref (u 12), .ref (u 19), .int 0, .ref (u 34), .ref (u 35), .ref (u 36), .ref (u 37), .int 0].set 3 (.int 1))))).set 35 ((u 34), .inl (cI, 120, .inl (upd (fun _ => 0) (0 : Int32).toNatClampNeg 10)))).set 36 ((u 35), .inl (cI, 120, .inl (upd (fun _ => 0) (0 : Int32).toNatClampNeg 0)))).set 37 ((u 36), .inl (cI, 120, .inl (upd (fun _ => 0) (0 : Int32).toNatClampNeg (-1))))) sz) := by
  refine aStart (lv := [(0, .ref o), (1, .int 0), (2, .int 6)]) (Qc := fun A => wQi ((-1)) D (((((((xW o u cI cZ cJ).set 0 (o, .inr (8, ((xF u).set 9 (.int 0))))).set 32 ((u 31), .inl (cZ, 10, .inl (upd (upd (upd (upd (upd (upd (upd (upd (upd (upd (fun _ => 0) (0 : Int32).toNatClampNeg 0) (1 : Int32).toNatClampNeg 0) (2 : Int32).toNatClampNeg 0) (3 : Int32).toNatClampNeg 0) (4 : Int32).toNatClampNeg 0) (5 : Int32).toNatClampNeg 0) (6 : Int32).toNatClampNeg 0) (7 : Int32).toNatClampNeg 0) (8 : Int32).toNatClampNeg 0) (9 : Int32).toNatClampNeg 0)))).set 34 ((u 33), .inr (2, ([.ref (u 0), .ref (u 12), .ref (u 19), .int 0, .ref (u 34), .ref (u 35), .ref (u 36), .ref (u 37), .int 0].set 3 (.int 1))))).set 35 ((u 34), .inl (cI, 120, .inl (upd (fun _ => 0) (0 : Int32).toNatClampNeg 10)))).set 36 ((u 35), .inl (cI, 120, .inl (upd (fun _ => 0) (0 : Int32).toNatClampNeg 0)))).set 37 ((u 36), .inl (cI, 120, .inl (upd (fun _ => 0) (0 : Int32).toNatClampNeg (-1))))) A) (by decide) (Nat.le_of_ble_eq_true rfl) rfl ?_
  intro p e s m args below meth c ls A H S hr hlocks hnm hl hK hP hD hS hA hB
  have hx := S.1
  have hb := S.2.1
  refine lv_aload_n hx hb dX8_ofProcedure_0 rfl (lv_at hl 0 rfl) ?_
  refine lv_iload_n hx hb dX8_ofProcedure_1 rfl (lv_at hl 1 rfl) ?_
  refine aVv (As := [.int 0]) (ci := 8) S (c_X8_needProcedure_3 l D cI cZ cJ o u ra ga H.size) mi_X8_needProcedure kw_4_166 rfl rfl ⟨Nat.le_of_ble_eq_true rfl, Nat.le_of_ble_eq_true rfl⟩ hP hD hK hS hA hB (k := 0) rfl rfl rfl hl.1 (Nat.le_of_ble_eq_true rfl) ⟨Nat.le_of_ble_eq_true rfl, Nat.le_of_ble_eq_true rfl⟩ dX8_ofProcedure_2 (fun H locs hz hP hD hS => ?_)
  refine lv_iload_n hx hb dX8_ofProcedure_5 rfl (lv_at hl 2 rfl) ?_
  refine lv_if_lt (tgt := 19) hx hb dX8_ofProcedure_6 (by decide) (fun c => absurd c (by decide)) (fun _ => ?_)
  refine lv_iload_n hx hb dX8_ofProcedure_9 rfl (lv_at hl 2 rfl) ?_
  refine lv_bipush (v := 7) hx hb dX8_ofProcedure_10 (by decide) ?_
  refine lv_icmp_gt (tgt := 19) hx hb dX8_ofProcedure_12 (by decide) (fun c => absurd c (by decide)) (fun _ => ?_)
  refine lv_iconst (v := 1) hx hb dX8_ofProcedure_15 (by decide) ?_
  refine lv_goto (tgt := 20) hx hb dX8_ofProcedure_16 (by decide) ?_
  refine aSv (As := [.int 1]) S (c_X8_needArgument_3 l D cI cZ cJ o u ra ga H.size) ms_X8_needArgument kw_4_4 rfl rfl ⟨Nat.le_of_ble_eq_true rfl, Nat.le_of_ble_eq_true rfl⟩ hP hD hK hS hA hB hl.1 (Nat.le_of_ble_eq_true rfl) ⟨Nat.le_of_ble_eq_true rfl, Nat.le_of_ble_eq_true rfl⟩ dX8_ofProcedure_20 (fun H locs hz hP hD hS => ?_)
  refine lv_aload_n hx hb dX8_ofProcedure_23 rfl (lv_at hl 0 rfl) ?_
  refine aVv (As := []) (ci := 8) S (c_X8_refresh_1 l D cI cZ cJ o u ra ga H.size) mi_X8_refresh kw_3_71 rfl rfl ⟨Nat.le_of_ble_eq_true rfl, Nat.le_of_ble_eq_true rfl⟩ hP hD hK hS hA hB (k := 0) rfl rfl rfl hl.1 (Nat.le_of_ble_eq_true rfl) ⟨Nat.le_of_ble_eq_true rfl, Nat.le_of_ble_eq_true rfl⟩ dX8_ofProcedure_24 (fun H locs hz hP hD hS => ?_)
  refine lv_iload_n hx hb dX8_ofProcedure_27 rfl (lv_at hl 2 rfl) ?_
  refine lv_tableIn (off := 112) (tgt := 140) hx hb dX8_ofProcedure_28 (by decide) (by decide) (by decide) (by decide) ?_
  refine lv_aload_n hx hb dX8_ofProcedure_140 rfl (lv_at hl 0 rfl) ?_
  refine xg (ci := 8) S inX8 rfl hK hP (q0 := 0) rfl 0 (by decide) rfl kw_3_20 rfl dX8_ofProcedure_141 ?_
  refine xg (ci := 1) S inX1 rfl hK hP (q0 := 1) rfl 6 (by decide) rfl kw_1_59 rfl dX8_ofProcedure_144 ?_
  refine lv_iload_n hx hb dX8_ofProcedure_147 rfl (lv_at hl 1 rfl) ?_
  refine xiald (t0 := 0) (v := (-1)) S hK hP (q0 := 7) rfl rfl (vin rfl) rfl dX8_ofProcedure_148 ?_
  exact wEnd S hr hlocks hP hD hS (Nat.le_of_ble_eq_true rfl) (Nat.le_of_ble_eq_true rfl) dX8_ofProcedure_149 rfl

set_option maxHeartbeats 8000000 in
set_option maxRecDepth 100000 in
theorem c_X8_ofProcedure_33 (l : Launch) (D : va_G) (cI cZ cJ : ClassId) (o : Nat) (u : Nat → Nat) (ra ga : Nat → Nat) (sz : Nat) : Met l yX8_ofProcedure (uW yX8_ofProcedure cX8_ofProcedure 3 (some .int)) ({ frames := 2, cells := 0, slots := 0, locals := 42 }) (va_Pc [.ref o, .int 0, .int 7] (aS ra ga D (tyL cI cZ cJ) (((((((xW o u cI cZ cJ).set 0 (o, .inr (8, ((xF u).set 9 (.int 0))))).set 32 ((u 31), .inl (cZ, 10, .inl (upd (upd (upd (upd (upd (upd (upd (upd (upd (upd (fun _ => 0) (0 : Int32).toNatClampNeg 0) (1 : Int32).toNatClampNeg 0) (2 : Int32).toNatClampNeg 0) (3 : Int32).toNatClampNeg 0) (4 : Int32).toNatClampNeg 0) (5 : Int32).toNatClampNeg 0) (6 : Int32).toNatClampNeg 0) (7 : Int32).toNatClampNeg 0) (8 : Int32).toNatClampNeg 0) (9 : Int32).toNatClampNeg 0)))).set 34 ((u 33), .inr (2, ([.ref (u 0), .ref (u 12), .ref (u 19), .int 0, .ref (u 34), .ref (u 35), .ref (u 36), .ref (u 37), .int 0].set 3 (.int 1))))).set 35 ((u 34), .inl (cI, 120, .inl (upd (fun _ => 0) (0 : Int32).toNatClampNeg 10)))).set 36 ((u 35), .inl (cI, 120, .inl (upd (fun _ => 0) (0 : Int32).toNatClampNeg 0)))).set 37 ((u 36), .inl (cI, 120, .inl (upd (fun _ => 0) (0 : Int32).toNatClampNeg (-1))))) sz)) (wQi (0) D (((((((xW o u cI cZ cJ).set 0 (o, .inr (8, ((xF u).set 9 (.int 0))))).set 32 ((u 31), .inl (cZ, 10, .inl (upd (upd (upd (upd (upd (upd (upd (upd (upd (upd (fun _ => 0) (0 : Int32).toNatClampNeg 0) (1 : Int32).toNatClampNeg 0) (2 : Int32).toNatClampNeg 0) (3 : Int32).toNatClampNeg 0) (4 : Int32).toNatClampNeg 0) (5 : Int32).toNatClampNeg 0) (6 : Int32).toNatClampNeg 0) (7 : Int32).toNatClampNeg 0) (8 : Int32).toNatClampNeg 0) (9 : Int32).toNatClampNeg 0)))).set 34 ((u 33), .inr (2, ([.ref (u 0), .ref (u 12), .ref (u 19), .int 0, .ref (u 34), .ref (u 35), .ref (u 36), .ref (u 37), .int 0].set 3 (.int 1))))).set 35 ((u 34), .inl (cI, 120, .inl (upd (fun _ => 0) (0 : Int32).toNatClampNeg 10)))).set 36 ((u 35), .inl (cI, 120, .inl (upd (fun _ => 0) (0 : Int32).toNatClampNeg 0)))).set 37 ((u 36), .inl (cI, 120, .inl (upd (fun _ => 0) (0 : Int32).toNatClampNeg (-1))))) (va_A (((((((xW o u cI cZ cJ).set 0 (o, .inr (8, ((xF u).set 9 (.int 0))))).set 32 ((u 31), .inl (cZ, 10, .inl (upd (upd (upd (upd (upd (upd (upd (upd (upd (upd (fun _ => 0) (0 : Int32).toNatClampNeg 0) (1 : Int32).toNatClampNeg 0) (2 : Int32).toNatClampNeg 0) (3 : Int32).toNatClampNeg 0) (4 : Int32).toNatClampNeg 0) (5 : Int32).toNatClampNeg 0) (6 : Int32).toNatClampNeg 0) (7 : Int32).toNatClampNeg 0) (8 : Int32).toNatClampNeg 0) (9 : Int32).toNatClampNeg 0)))).set 34 ((u 33), .inr (2, ([.ref (u 0), .ref (u 12), .ref (u 19), .int 0, .ref (u 34), .ref (u 35), .ref (u 36), .ref (u 37), .int 0].set 3 (.int 1))))).set 35 ((u 34), .inl (cI, 120, .inl (upd (fun _ => 0) (0 : Int32).toNatClampNeg 10)))).set 36 ((u 35), .inl (cI, 120, .inl (upd (fun _ => 0) (0 : Int32).toNatClampNeg 0)))).set 37 ((u 36), .inl (cI, 120, .inl (upd (fun _ => 0) (0 : Int32).toNatClampNeg (-1))))) sz)) 0 0 (va_A (((((((xW o u cI cZ cJ).set 0 (o, .inr (8, ((xF u).set 9 (.int 0))))).set 32 ((u 31), .inl (cZ, 10, .inl (upd (upd (upd (upd (upd (upd (upd (upd (upd (upd (fun _ => 0) (0 : Int32).toNatClampNeg 0) (1 : Int32).toNatClampNeg 0) (2 : Int32).toNatClampNeg 0) (3 : Int32).toNatClampNeg 0) (4 : Int32).toNatClampNeg 0) (5 : Int32).toNatClampNeg 0) (6 : Int32).toNatClampNeg 0) (7 : Int32).toNatClampNeg 0) (8 : Int32).toNatClampNeg 0) (9 : Int32).toNatClampNeg 0)))).set 34 ((u 33), .inr (2, ([.ref (u 0), .ref (u 12), .ref (u 19), .int 0, .ref (u 34), .ref (u 35), .ref (u 36), .ref (u 37), .int 0].set 3 (.int 1))))).set 35 ((u 34), .inl (cI, 120, .inl (upd (fun _ => 0) (0 : Int32).toNatClampNeg 10)))).set 36 ((u 35), .inl (cI, 120, .inl (upd (fun _ => 0) (0 : Int32).toNatClampNeg 0)))).set 37 ((u 36), .inl (cI, 120, .inl (upd (fun _ => 0) (0 : Int32).toNatClampNeg (-1))))) sz) := by
  refine aStart (lv := [(0, .ref o), (1, .int 0), (2, .int 7)]) (Qc := fun A => wQi (0) D (((((((xW o u cI cZ cJ).set 0 (o, .inr (8, ((xF u).set 9 (.int 0))))).set 32 ((u 31), .inl (cZ, 10, .inl (upd (upd (upd (upd (upd (upd (upd (upd (upd (upd (fun _ => 0) (0 : Int32).toNatClampNeg 0) (1 : Int32).toNatClampNeg 0) (2 : Int32).toNatClampNeg 0) (3 : Int32).toNatClampNeg 0) (4 : Int32).toNatClampNeg 0) (5 : Int32).toNatClampNeg 0) (6 : Int32).toNatClampNeg 0) (7 : Int32).toNatClampNeg 0) (8 : Int32).toNatClampNeg 0) (9 : Int32).toNatClampNeg 0)))).set 34 ((u 33), .inr (2, ([.ref (u 0), .ref (u 12), .ref (u 19), .int 0, .ref (u 34), .ref (u 35), .ref (u 36), .ref (u 37), .int 0].set 3 (.int 1))))).set 35 ((u 34), .inl (cI, 120, .inl (upd (fun _ => 0) (0 : Int32).toNatClampNeg 10)))).set 36 ((u 35), .inl (cI, 120, .inl (upd (fun _ => 0) (0 : Int32).toNatClampNeg 0)))).set 37 ((u 36), .inl (cI, 120, .inl (upd (fun _ => 0) (0 : Int32).toNatClampNeg (-1))))) A) (by decide) (Nat.le_of_ble_eq_true rfl) rfl ?_
  intro p e s m args below meth c ls A H S hr hlocks hnm hl hK hP hD hS hA hB
  have hx := S.1
  have hb := S.2.1
  refine lv_aload_n hx hb dX8_ofProcedure_0 rfl (lv_at hl 0 rfl) ?_
  refine lv_iload_n hx hb dX8_ofProcedure_1 rfl (lv_at hl 1 rfl) ?_
  refine aVv (As := [.int 0]) (ci := 8) S (c_X8_needProcedure_3 l D cI cZ cJ o u ra ga H.size) mi_X8_needProcedure kw_4_166 rfl rfl ⟨Nat.le_of_ble_eq_true rfl, Nat.le_of_ble_eq_true rfl⟩ hP hD hK hS hA hB (k := 0) rfl rfl rfl hl.1 (Nat.le_of_ble_eq_true rfl) ⟨Nat.le_of_ble_eq_true rfl, Nat.le_of_ble_eq_true rfl⟩ dX8_ofProcedure_2 (fun H locs hz hP hD hS => ?_)
  refine lv_iload_n hx hb dX8_ofProcedure_5 rfl (lv_at hl 2 rfl) ?_
  refine lv_if_lt (tgt := 19) hx hb dX8_ofProcedure_6 (by decide) (fun c => absurd c (by decide)) (fun _ => ?_)
  refine lv_iload_n hx hb dX8_ofProcedure_9 rfl (lv_at hl 2 rfl) ?_
  refine lv_bipush (v := 7) hx hb dX8_ofProcedure_10 (by decide) ?_
  refine lv_icmp_gt (tgt := 19) hx hb dX8_ofProcedure_12 (by decide) (fun c => absurd c (by decide)) (fun _ => ?_)
  refine lv_iconst (v := 1) hx hb dX8_ofProcedure_15 (by decide) ?_
  refine lv_goto (tgt := 20) hx hb dX8_ofProcedure_16 (by decide) ?_
  refine aSv (As := [.int 1]) S (c_X8_needArgument_3 l D cI cZ cJ o u ra ga H.size) ms_X8_needArgument kw_4_4 rfl rfl ⟨Nat.le_of_ble_eq_true rfl, Nat.le_of_ble_eq_true rfl⟩ hP hD hK hS hA hB hl.1 (Nat.le_of_ble_eq_true rfl) ⟨Nat.le_of_ble_eq_true rfl, Nat.le_of_ble_eq_true rfl⟩ dX8_ofProcedure_20 (fun H locs hz hP hD hS => ?_)
  refine lv_aload_n hx hb dX8_ofProcedure_23 rfl (lv_at hl 0 rfl) ?_
  refine aVv (As := []) (ci := 8) S (c_X8_refresh_1 l D cI cZ cJ o u ra ga H.size) mi_X8_refresh kw_3_71 rfl rfl ⟨Nat.le_of_ble_eq_true rfl, Nat.le_of_ble_eq_true rfl⟩ hP hD hK hS hA hB (k := 0) rfl rfl rfl hl.1 (Nat.le_of_ble_eq_true rfl) ⟨Nat.le_of_ble_eq_true rfl, Nat.le_of_ble_eq_true rfl⟩ dX8_ofProcedure_24 (fun H locs hz hP hD hS => ?_)
  refine lv_iload_n hx hb dX8_ofProcedure_27 rfl (lv_at hl 2 rfl) ?_
  refine lv_tableOut (tgt := 150) hx hb dX8_ofProcedure_28 (by decide) (by decide) ?_
  refine lv_aload_n hx hb dX8_ofProcedure_150 rfl (lv_at hl 0 rfl) ?_
  refine lv_iload_n hx hb dX8_ofProcedure_151 rfl (lv_at hl 1 rfl) ?_
  refine rdV (As := [.int 0]) (ci := 8) S (c_X8_codeLength_0 l D cI cZ cJ o u) mi_X8_codeLength kw_4_190 ⟨rfl, rfl⟩ ⟨Nat.le_of_ble_eq_true rfl, Nat.le_of_ble_eq_true rfl⟩ hP hK (k := 0) rfl rfl rfl hl.1 (Nat.le_of_ble_eq_true rfl) ⟨Nat.le_of_ble_eq_true rfl, Nat.le_of_ble_eq_true rfl⟩ dX8_ofProcedure_152 ?_
  exact wEnd S hr hlocks hP hD hS (Nat.le_of_ble_eq_true rfl) (Nat.le_of_ble_eq_true rfl) dX8_ofProcedure_155 rfl

set_option maxHeartbeats 8000000 in
set_option maxRecDepth 100000 in
theorem c_X8_isName_6 (l : Launch) (D : va_G) (cI cZ cJ : ClassId) (o : Nat) (u : Nat → Nat) : Met l yX8_isName (uW yX8_isName cX8_isName 1 (some .boolean)) ({ frames := 0, cells := 0, slots := 0, locals := 0 }) (va_Pc [.int 0] (pS D (tyL cI cZ cJ) (((((((xW o u cI cZ cJ).set 0 (o, .inr (8, ((xF u).set 9 (.int 0))))).set 32 ((u 31), .inl (cZ, 10, .inl (upd (upd (upd (upd (upd (upd (upd (upd (upd (upd (fun _ => 0) (0 : Int32).toNatClampNeg 0) (1 : Int32).toNatClampNeg 0) (2 : Int32).toNatClampNeg 0) (3 : Int32).toNatClampNeg 0) (4 : Int32).toNatClampNeg 0) (5 : Int32).toNatClampNeg 0) (6 : Int32).toNatClampNeg 0) (7 : Int32).toNatClampNeg 0) (8 : Int32).toNatClampNeg 0) (9 : Int32).toNatClampNeg 0)))).set 34 ((u 33), .inr (2, ([.ref (u 0), .ref (u 12), .ref (u 19), .int 0, .ref (u 34), .ref (u 35), .ref (u 36), .ref (u 37), .int 0].set 3 (.int 1))))).set 35 ((u 34), .inl (cI, 120, .inl (upd (fun _ => 0) (0 : Int32).toNatClampNeg 10)))).set 36 ((u 35), .inl (cI, 120, .inl (upd (fun _ => 0) (0 : Int32).toNatClampNeg 0)))).set 37 ((u 36), .inl (cI, 120, .inl (upd (fun _ => 0) (0 : Int32).toNatClampNeg (-1))))))) (QcRead (1)) 0 0 (fun _ => False) := by
  refine rdStart (lv := [(0, .int 0)]) (by decide) (Nat.le_of_ble_eq_true rfl) rfl ?_
  intro p e s m args below meth c ls S hr hlocks hl hP hK
  have hx := S.1
  have hb := S.2.1
  refine lv_iload_n hx hb dX8_isName_0 rfl (lv_at hl 0 rfl) ?_
  refine lv_if_lt (tgt := 14) hx hb dX8_isName_1 (by decide) (fun c => absurd c (by decide)) (fun _ => ?_)
  refine lv_iload_n hx hb dX8_isName_4 rfl (lv_at hl 0 rfl) ?_
  refine lv_bipush (v := 16) hx hb dX8_isName_5 (by decide) ?_
  refine lv_icmp_ge (tgt := 14) hx hb dX8_isName_7 (by decide) (fun c => absurd c (by decide)) (fun _ => ?_)
  refine lv_iconst (v := 1) hx hb dX8_isName_10 (by decide) ?_
  refine lv_goto (tgt := 15) hx hb dX8_isName_11 (by decide) ?_
  exact rdEndZ S hr hlocks dX8_isName_15 rfl rfl

set_option maxHeartbeats 8000000 in
set_option maxRecDepth 100000 in
theorem c_X1_declares_2 (l : Launch) (D : va_G) (cI cZ cJ : ClassId) (o : Nat) (u : Nat → Nat) : Met l yX1_declares (uW yX1_declares cX1_declares 3 (some .boolean)) ({ frames := 0, cells := 0, slots := 0, locals := 0 }) (va_Pc [.ref (u 0), .int 0, .int 0] (pS D (tyL cI cZ cJ) (((((((xW o u cI cZ cJ).set 0 (o, .inr (8, ((xF u).set 9 (.int 0))))).set 32 ((u 31), .inl (cZ, 10, .inl (upd (upd (upd (upd (upd (upd (upd (upd (upd (upd (fun _ => 0) (0 : Int32).toNatClampNeg 0) (1 : Int32).toNatClampNeg 0) (2 : Int32).toNatClampNeg 0) (3 : Int32).toNatClampNeg 0) (4 : Int32).toNatClampNeg 0) (5 : Int32).toNatClampNeg 0) (6 : Int32).toNatClampNeg 0) (7 : Int32).toNatClampNeg 0) (8 : Int32).toNatClampNeg 0) (9 : Int32).toNatClampNeg 0)))).set 34 ((u 33), .inr (2, ([.ref (u 0), .ref (u 12), .ref (u 19), .int 0, .ref (u 34), .ref (u 35), .ref (u 36), .ref (u 37), .int 0].set 3 (.int 1))))).set 35 ((u 34), .inl (cI, 120, .inl (upd (fun _ => 0) (0 : Int32).toNatClampNeg 10)))).set 36 ((u 35), .inl (cI, 120, .inl (upd (fun _ => 0) (0 : Int32).toNatClampNeg 0)))).set 37 ((u 36), .inl (cI, 120, .inl (upd (fun _ => 0) (0 : Int32).toNatClampNeg (-1))))))) (QcRead (0)) 0 0 (fun _ => False) := by
  refine rdStart (lv := [(0, .ref (u 0)), (1, .int 0), (2, .int 0)]) (by decide) (Nat.le_of_ble_eq_true rfl) rfl ?_
  intro p e s m args below meth c ls S hr hlocks hl hP hK
  have hx := S.1
  have hb := S.2.1
  refine lv_aload_n hx hb dX1_declares_0 rfl (lv_at hl 0 rfl) ?_
  refine xg (ci := 1) S inX1 rfl hK hP (q0 := 1) rfl 7 (by decide) rfl kw_1_61 rfl dX1_declares_1 ?_
  refine lv_iload_n hx hb dX1_declares_4 rfl (lv_at hl 1 rfl) ?_
  refine lv_bipush (v := 16) hx hb dX1_declares_5 (by decide) ?_
  refine ximul (v := 0) S dX1_declares_7 (by decide) ?_
  refine lv_iload_n hx hb dX1_declares_8 rfl (lv_at hl 2 rfl) ?_
  refine xiadd (v := 0) S dX1_declares_9 (by decide) ?_
  refine xiald (t0 := 0) (v := (-1)) S hK hP (q0 := 8) rfl rfl (vin rfl) rfl dX1_declares_10 ?_
  refine lv_iconst (v := (-1)) hx hb dX1_declares_11 (by decide) ?_
  refine lv_icmp_eq (tgt := 19) hx hb dX1_declares_12 (by decide) (fun _ => ?_) (fun c => absurd c (by decide))
  refine lv_iconst (v := 0) hx hb dX1_declares_19 (by decide) ?_
  exact rdEndZ S hr hlocks dX1_declares_20 rfl rfl

set_option maxHeartbeats 8000000 in
set_option maxRecDepth 100000 in
theorem c_X4_reaching_1 (l : Launch) (D : va_G) (cI cZ cJ : ClassId) (o : Nat) (u : Nat → Nat) : Met l yX4_reaching (uW yX4_reaching cX4_reaching 6 (some .int)) ({ frames := 0, cells := 0, slots := 0, locals := 0 }) (va_Pc [.ref (u 19), .int 0, .int 0] (pS D (tyL cI cZ cJ) (((((((xW o u cI cZ cJ).set 0 (o, .inr (8, ((xF u).set 9 (.int 0))))).set 32 ((u 31), .inl (cZ, 10, .inl (upd (upd (upd (upd (upd (upd (upd (upd (upd (upd (fun _ => 0) (0 : Int32).toNatClampNeg 0) (1 : Int32).toNatClampNeg 0) (2 : Int32).toNatClampNeg 0) (3 : Int32).toNatClampNeg 0) (4 : Int32).toNatClampNeg 0) (5 : Int32).toNatClampNeg 0) (6 : Int32).toNatClampNeg 0) (7 : Int32).toNatClampNeg 0) (8 : Int32).toNatClampNeg 0) (9 : Int32).toNatClampNeg 0)))).set 34 ((u 33), .inr (2, ([.ref (u 0), .ref (u 12), .ref (u 19), .int 0, .ref (u 34), .ref (u 35), .ref (u 36), .ref (u 37), .int 0].set 3 (.int 1))))).set 35 ((u 34), .inl (cI, 120, .inl (upd (fun _ => 0) (0 : Int32).toNatClampNeg 10)))).set 36 ((u 35), .inl (cI, 120, .inl (upd (fun _ => 0) (0 : Int32).toNatClampNeg 0)))).set 37 ((u 36), .inl (cI, 120, .inl (upd (fun _ => 0) (0 : Int32).toNatClampNeg (-1))))))) (QcRead (0)) 0 0 (fun _ => False) := by
  refine rdStart (lv := [(0, .ref (u 19)), (1, .int 0), (2, .int 0)]) (by decide) (Nat.le_of_ble_eq_true rfl) rfl ?_
  intro p e s m args below meth c ls S hr hlocks hl hP hK
  have hx := S.1
  have hb := S.2.1
  refine lv_iconst (v := 0) hx hb dX4_reaching_0 (by decide) ?_
  refine lv_istore_n (lv' := [(3, .int 0), (0, .ref (u 19)), (1, .int 0), (2, .int 0)]) hx hb dX4_reaching_1 rfl hl (by decide) rfl (fun ls hl => ?_)
  refine lv_iconst (v := 0) hx hb dX4_reaching_2 (by decide) ?_
  refine lv_istore (lv' := [(4, .int 0), (3, .int 0), (0, .ref (u 19)), (1, .int 0), (2, .int 0)]) hx hb dX4_reaching_3 hl (by decide) rfl (fun ls hl => ?_)
  refine lv_iload hx hb dX4_reaching_5 (lv_at hl 0 rfl) ?_
  refine lv_aload_n hx hb dX4_reaching_7 rfl (lv_at hl 2 rfl) ?_
  refine xg (ci := 4) S inX4 rfl hK hP (q0 := 20) rfl 1 (by decide) rfl kw_1_159 rfl dX4_reaching_8 ?_
  refine xg (ci := 5) S inX5 rfl hK hP (q0 := 13) rfl 0 (by decide) rfl kw_1_108 rfl dX4_reaching_11 ?_
  refine lv_icmp_ge (tgt := 133) hx hb dX4_reaching_14 (by decide) (fun _ => ?_) (fun c => absurd c (by decide))
  refine lv_iload_n hx hb dX4_reaching_133 rfl (lv_at hl 1 rfl) ?_
  exact rdEnd S hr hlocks dX4_reaching_134 rfl

set_option maxHeartbeats 8000000 in
set_option maxRecDepth 100000 in
theorem c_X8_hiddenBy_5 (l : Launch) (D : va_G) (cI cZ cJ : ClassId) (o : Nat) (u : Nat → Nat) (ra ga : Nat → Nat) (sz : Nat) : Met l yX8_hiddenBy (uW yX8_hiddenBy cX8_hiddenBy 3 (some .int)) ({ frames := 2, cells := 0, slots := 0, locals := 42 }) (va_Pc [.ref o, .int 0, .int 0] (aS ra ga D (tyL cI cZ cJ) (((((((xW o u cI cZ cJ).set 0 (o, .inr (8, ((xF u).set 9 (.int 0))))).set 32 ((u 31), .inl (cZ, 10, .inl (upd (upd (upd (upd (upd (upd (upd (upd (upd (upd (fun _ => 0) (0 : Int32).toNatClampNeg 0) (1 : Int32).toNatClampNeg 0) (2 : Int32).toNatClampNeg 0) (3 : Int32).toNatClampNeg 0) (4 : Int32).toNatClampNeg 0) (5 : Int32).toNatClampNeg 0) (6 : Int32).toNatClampNeg 0) (7 : Int32).toNatClampNeg 0) (8 : Int32).toNatClampNeg 0) (9 : Int32).toNatClampNeg 0)))).set 34 ((u 33), .inr (2, ([.ref (u 0), .ref (u 12), .ref (u 19), .int 0, .ref (u 34), .ref (u 35), .ref (u 36), .ref (u 37), .int 0].set 3 (.int 1))))).set 35 ((u 34), .inl (cI, 120, .inl (upd (fun _ => 0) (0 : Int32).toNatClampNeg 10)))).set 36 ((u 35), .inl (cI, 120, .inl (upd (fun _ => 0) (0 : Int32).toNatClampNeg 0)))).set 37 ((u 36), .inl (cI, 120, .inl (upd (fun _ => 0) (0 : Int32).toNatClampNeg (-1))))) sz)) (wQi (0) D (((((((xW o u cI cZ cJ).set 0 (o, .inr (8, ((xF u).set 9 (.int 0))))).set 32 ((u 31), .inl (cZ, 10, .inl (upd (upd (upd (upd (upd (upd (upd (upd (upd (upd (fun _ => 0) (0 : Int32).toNatClampNeg 0) (1 : Int32).toNatClampNeg 0) (2 : Int32).toNatClampNeg 0) (3 : Int32).toNatClampNeg 0) (4 : Int32).toNatClampNeg 0) (5 : Int32).toNatClampNeg 0) (6 : Int32).toNatClampNeg 0) (7 : Int32).toNatClampNeg 0) (8 : Int32).toNatClampNeg 0) (9 : Int32).toNatClampNeg 0)))).set 34 ((u 33), .inr (2, ([.ref (u 0), .ref (u 12), .ref (u 19), .int 0, .ref (u 34), .ref (u 35), .ref (u 36), .ref (u 37), .int 0].set 3 (.int 1))))).set 35 ((u 34), .inl (cI, 120, .inl (upd (fun _ => 0) (0 : Int32).toNatClampNeg 10)))).set 36 ((u 35), .inl (cI, 120, .inl (upd (fun _ => 0) (0 : Int32).toNatClampNeg 0)))).set 37 ((u 36), .inl (cI, 120, .inl (upd (fun _ => 0) (0 : Int32).toNatClampNeg (-1))))) (va_A (((((((xW o u cI cZ cJ).set 0 (o, .inr (8, ((xF u).set 9 (.int 0))))).set 32 ((u 31), .inl (cZ, 10, .inl (upd (upd (upd (upd (upd (upd (upd (upd (upd (upd (fun _ => 0) (0 : Int32).toNatClampNeg 0) (1 : Int32).toNatClampNeg 0) (2 : Int32).toNatClampNeg 0) (3 : Int32).toNatClampNeg 0) (4 : Int32).toNatClampNeg 0) (5 : Int32).toNatClampNeg 0) (6 : Int32).toNatClampNeg 0) (7 : Int32).toNatClampNeg 0) (8 : Int32).toNatClampNeg 0) (9 : Int32).toNatClampNeg 0)))).set 34 ((u 33), .inr (2, ([.ref (u 0), .ref (u 12), .ref (u 19), .int 0, .ref (u 34), .ref (u 35), .ref (u 36), .ref (u 37), .int 0].set 3 (.int 1))))).set 35 ((u 34), .inl (cI, 120, .inl (upd (fun _ => 0) (0 : Int32).toNatClampNeg 10)))).set 36 ((u 35), .inl (cI, 120, .inl (upd (fun _ => 0) (0 : Int32).toNatClampNeg 0)))).set 37 ((u 36), .inl (cI, 120, .inl (upd (fun _ => 0) (0 : Int32).toNatClampNeg (-1))))) sz)) 0 0 (va_A (((((((xW o u cI cZ cJ).set 0 (o, .inr (8, ((xF u).set 9 (.int 0))))).set 32 ((u 31), .inl (cZ, 10, .inl (upd (upd (upd (upd (upd (upd (upd (upd (upd (upd (fun _ => 0) (0 : Int32).toNatClampNeg 0) (1 : Int32).toNatClampNeg 0) (2 : Int32).toNatClampNeg 0) (3 : Int32).toNatClampNeg 0) (4 : Int32).toNatClampNeg 0) (5 : Int32).toNatClampNeg 0) (6 : Int32).toNatClampNeg 0) (7 : Int32).toNatClampNeg 0) (8 : Int32).toNatClampNeg 0) (9 : Int32).toNatClampNeg 0)))).set 34 ((u 33), .inr (2, ([.ref (u 0), .ref (u 12), .ref (u 19), .int 0, .ref (u 34), .ref (u 35), .ref (u 36), .ref (u 37), .int 0].set 3 (.int 1))))).set 35 ((u 34), .inl (cI, 120, .inl (upd (fun _ => 0) (0 : Int32).toNatClampNeg 10)))).set 36 ((u 35), .inl (cI, 120, .inl (upd (fun _ => 0) (0 : Int32).toNatClampNeg 0)))).set 37 ((u 36), .inl (cI, 120, .inl (upd (fun _ => 0) (0 : Int32).toNatClampNeg (-1))))) sz) := by
  refine aStart (lv := [(0, .ref o), (1, .int 0), (2, .int 0)]) (Qc := fun A => wQi (0) D (((((((xW o u cI cZ cJ).set 0 (o, .inr (8, ((xF u).set 9 (.int 0))))).set 32 ((u 31), .inl (cZ, 10, .inl (upd (upd (upd (upd (upd (upd (upd (upd (upd (upd (fun _ => 0) (0 : Int32).toNatClampNeg 0) (1 : Int32).toNatClampNeg 0) (2 : Int32).toNatClampNeg 0) (3 : Int32).toNatClampNeg 0) (4 : Int32).toNatClampNeg 0) (5 : Int32).toNatClampNeg 0) (6 : Int32).toNatClampNeg 0) (7 : Int32).toNatClampNeg 0) (8 : Int32).toNatClampNeg 0) (9 : Int32).toNatClampNeg 0)))).set 34 ((u 33), .inr (2, ([.ref (u 0), .ref (u 12), .ref (u 19), .int 0, .ref (u 34), .ref (u 35), .ref (u 36), .ref (u 37), .int 0].set 3 (.int 1))))).set 35 ((u 34), .inl (cI, 120, .inl (upd (fun _ => 0) (0 : Int32).toNatClampNeg 10)))).set 36 ((u 35), .inl (cI, 120, .inl (upd (fun _ => 0) (0 : Int32).toNatClampNeg 0)))).set 37 ((u 36), .inl (cI, 120, .inl (upd (fun _ => 0) (0 : Int32).toNatClampNeg (-1))))) A) (by decide) (Nat.le_of_ble_eq_true rfl) rfl ?_
  intro p e s m args below meth c ls A H S hr hlocks hnm hl hK hP hD hS hA hB
  have hx := S.1
  have hb := S.2.1
  refine lv_aload_n hx hb dX8_hiddenBy_0 rfl (lv_at hl 0 rfl) ?_
  refine lv_iload_n hx hb dX8_hiddenBy_1 rfl (lv_at hl 1 rfl) ?_
  refine aVv (As := [.int 0]) (ci := 8) S (c_X8_needProcedure_3 l D cI cZ cJ o u ra ga H.size) mi_X8_needProcedure kw_4_166 rfl rfl ⟨Nat.le_of_ble_eq_true rfl, Nat.le_of_ble_eq_true rfl⟩ hP hD hK hS hA hB (k := 0) rfl rfl rfl hl.1 (Nat.le_of_ble_eq_true rfl) ⟨Nat.le_of_ble_eq_true rfl, Nat.le_of_ble_eq_true rfl⟩ dX8_hiddenBy_2 (fun H locs hz hP hD hS => ?_)
  refine lv_iload_n hx hb dX8_hiddenBy_5 rfl (lv_at hl 2 rfl) ?_
  refine rdS (As := [.int 0]) S (c_X8_isName_6 l D cI cZ cJ o u) ms_X8_isName kw_4_198 ⟨rfl, rfl⟩ ⟨Nat.le_of_ble_eq_true rfl, Nat.le_of_ble_eq_true rfl⟩ hP hK hl.1 (Nat.le_of_ble_eq_true rfl) ⟨Nat.le_of_ble_eq_true rfl, Nat.le_of_ble_eq_true rfl⟩ dX8_hiddenBy_6 ?_
  refine aSv (As := [.int 1]) S (c_X8_needArgument_3 l D cI cZ cJ o u ra ga H.size) ms_X8_needArgument kw_4_4 rfl rfl ⟨Nat.le_of_ble_eq_true rfl, Nat.le_of_ble_eq_true rfl⟩ hP hD hK hS hA hB hl.1 (Nat.le_of_ble_eq_true rfl) ⟨Nat.le_of_ble_eq_true rfl, Nat.le_of_ble_eq_true rfl⟩ dX8_hiddenBy_9 (fun H locs hz hP hD hS => ?_)
  refine lv_aload_n hx hb dX8_hiddenBy_12 rfl (lv_at hl 0 rfl) ?_
  refine aVv (As := []) (ci := 8) S (c_X8_refresh_1 l D cI cZ cJ o u ra ga H.size) mi_X8_refresh kw_3_71 rfl rfl ⟨Nat.le_of_ble_eq_true rfl, Nat.le_of_ble_eq_true rfl⟩ hP hD hK hS hA hB (k := 0) rfl rfl rfl hl.1 (Nat.le_of_ble_eq_true rfl) ⟨Nat.le_of_ble_eq_true rfl, Nat.le_of_ble_eq_true rfl⟩ dX8_hiddenBy_13 (fun H locs hz hP hD hS => ?_)
  refine lv_aload_n hx hb dX8_hiddenBy_16 rfl (lv_at hl 0 rfl) ?_
  refine xg (ci := 8) S inX8 rfl hK hP (q0 := 0) rfl 0 (by decide) rfl kw_3_20 rfl dX8_hiddenBy_17 ?_
  refine lv_iload_n hx hb dX8_hiddenBy_20 rfl (lv_at hl 1 rfl) ?_
  refine lv_iload_n hx hb dX8_hiddenBy_21 rfl (lv_at hl 2 rfl) ?_
  refine rdV (As := [.int 0, .int 0]) (ci := 1) S (c_X1_declares_2 l D cI cZ cJ o u) mi_X1_declares kw_4_201 ⟨rfl, rfl⟩ ⟨Nat.le_of_ble_eq_true rfl, Nat.le_of_ble_eq_true rfl⟩ hP hK (k := 1) rfl rfl rfl hl.1 (Nat.le_of_ble_eq_true rfl) ⟨Nat.le_of_ble_eq_true rfl, Nat.le_of_ble_eq_true rfl⟩ dX8_hiddenBy_22 ?_
  refine lv_if_eq (tgt := 32) hx hb dX8_hiddenBy_25 (by decide) (fun _ => ?_) (fun c => absurd c (by decide))
  refine lv_aload_n hx hb dX8_hiddenBy_32 rfl (lv_at hl 0 rfl) ?_
  refine xg (ci := 8) S inX8 rfl hK hP (q0 := 0) rfl 2 (by decide) rfl kw_3_22 rfl dX8_hiddenBy_33 ?_
  refine lv_iload_n hx hb dX8_hiddenBy_36 rfl (lv_at hl 1 rfl) ?_
  refine lv_iload_n hx hb dX8_hiddenBy_37 rfl (lv_at hl 2 rfl) ?_
  refine rdV (As := [.int 0, .int 0]) (ci := 4) S (c_X4_reaching_1 l D cI cZ cJ o u) mi_X4_reaching kw_4_202 ⟨rfl, rfl⟩ ⟨Nat.le_of_ble_eq_true rfl, Nat.le_of_ble_eq_true rfl⟩ hP hK (k := 20) rfl rfl rfl hl.1 (Nat.le_of_ble_eq_true rfl) ⟨Nat.le_of_ble_eq_true rfl, Nat.le_of_ble_eq_true rfl⟩ dX8_hiddenBy_38 ?_
  exact wEnd S hr hlocks hP hD hS (Nat.le_of_ble_eq_true rfl) (Nat.le_of_ble_eq_true rfl) dX8_hiddenBy_41 rfl

set_option maxHeartbeats 8000000 in
set_option maxRecDepth 100000 in
theorem c_X8_isName_7 (l : Launch) (D : va_G) (cI cZ cJ : ClassId) (o : Nat) (u : Nat → Nat) : Met l yX8_isName (uW yX8_isName cX8_isName 1 (some .boolean)) ({ frames := 0, cells := 0, slots := 0, locals := 0 }) (va_Pc [.int 1] (pS D (tyL cI cZ cJ) (((((((xW o u cI cZ cJ).set 0 (o, .inr (8, ((xF u).set 9 (.int 0))))).set 32 ((u 31), .inl (cZ, 10, .inl (upd (upd (upd (upd (upd (upd (upd (upd (upd (upd (fun _ => 0) (0 : Int32).toNatClampNeg 0) (1 : Int32).toNatClampNeg 0) (2 : Int32).toNatClampNeg 0) (3 : Int32).toNatClampNeg 0) (4 : Int32).toNatClampNeg 0) (5 : Int32).toNatClampNeg 0) (6 : Int32).toNatClampNeg 0) (7 : Int32).toNatClampNeg 0) (8 : Int32).toNatClampNeg 0) (9 : Int32).toNatClampNeg 0)))).set 34 ((u 33), .inr (2, ([.ref (u 0), .ref (u 12), .ref (u 19), .int 0, .ref (u 34), .ref (u 35), .ref (u 36), .ref (u 37), .int 0].set 3 (.int 1))))).set 35 ((u 34), .inl (cI, 120, .inl (upd (fun _ => 0) (0 : Int32).toNatClampNeg 10)))).set 36 ((u 35), .inl (cI, 120, .inl (upd (fun _ => 0) (0 : Int32).toNatClampNeg 0)))).set 37 ((u 36), .inl (cI, 120, .inl (upd (fun _ => 0) (0 : Int32).toNatClampNeg (-1))))))) (QcRead (1)) 0 0 (fun _ => False) := by
  refine rdStart (lv := [(0, .int 1)]) (by decide) (Nat.le_of_ble_eq_true rfl) rfl ?_
  intro p e s m args below meth c ls S hr hlocks hl hP hK
  have hx := S.1
  have hb := S.2.1
  refine lv_iload_n hx hb dX8_isName_0 rfl (lv_at hl 0 rfl) ?_
  refine lv_if_lt (tgt := 14) hx hb dX8_isName_1 (by decide) (fun c => absurd c (by decide)) (fun _ => ?_)
  refine lv_iload_n hx hb dX8_isName_4 rfl (lv_at hl 0 rfl) ?_
  refine lv_bipush (v := 16) hx hb dX8_isName_5 (by decide) ?_
  refine lv_icmp_ge (tgt := 14) hx hb dX8_isName_7 (by decide) (fun c => absurd c (by decide)) (fun _ => ?_)
  refine lv_iconst (v := 1) hx hb dX8_isName_10 (by decide) ?_
  refine lv_goto (tgt := 15) hx hb dX8_isName_11 (by decide) ?_
  exact rdEndZ S hr hlocks dX8_isName_15 rfl rfl

set_option maxHeartbeats 8000000 in
set_option maxRecDepth 100000 in
theorem c_X1_declares_3 (l : Launch) (D : va_G) (cI cZ cJ : ClassId) (o : Nat) (u : Nat → Nat) : Met l yX1_declares (uW yX1_declares cX1_declares 3 (some .boolean)) ({ frames := 0, cells := 0, slots := 0, locals := 0 }) (va_Pc [.ref (u 0), .int 0, .int 1] (pS D (tyL cI cZ cJ) (((((((xW o u cI cZ cJ).set 0 (o, .inr (8, ((xF u).set 9 (.int 0))))).set 32 ((u 31), .inl (cZ, 10, .inl (upd (upd (upd (upd (upd (upd (upd (upd (upd (upd (fun _ => 0) (0 : Int32).toNatClampNeg 0) (1 : Int32).toNatClampNeg 0) (2 : Int32).toNatClampNeg 0) (3 : Int32).toNatClampNeg 0) (4 : Int32).toNatClampNeg 0) (5 : Int32).toNatClampNeg 0) (6 : Int32).toNatClampNeg 0) (7 : Int32).toNatClampNeg 0) (8 : Int32).toNatClampNeg 0) (9 : Int32).toNatClampNeg 0)))).set 34 ((u 33), .inr (2, ([.ref (u 0), .ref (u 12), .ref (u 19), .int 0, .ref (u 34), .ref (u 35), .ref (u 36), .ref (u 37), .int 0].set 3 (.int 1))))).set 35 ((u 34), .inl (cI, 120, .inl (upd (fun _ => 0) (0 : Int32).toNatClampNeg 10)))).set 36 ((u 35), .inl (cI, 120, .inl (upd (fun _ => 0) (0 : Int32).toNatClampNeg 0)))).set 37 ((u 36), .inl (cI, 120, .inl (upd (fun _ => 0) (0 : Int32).toNatClampNeg (-1))))))) (QcRead (0)) 0 0 (fun _ => False) := by
  refine rdStart (lv := [(0, .ref (u 0)), (1, .int 0), (2, .int 1)]) (by decide) (Nat.le_of_ble_eq_true rfl) rfl ?_
  intro p e s m args below meth c ls S hr hlocks hl hP hK
  have hx := S.1
  have hb := S.2.1
  refine lv_aload_n hx hb dX1_declares_0 rfl (lv_at hl 0 rfl) ?_
  refine xg (ci := 1) S inX1 rfl hK hP (q0 := 1) rfl 7 (by decide) rfl kw_1_61 rfl dX1_declares_1 ?_
  refine lv_iload_n hx hb dX1_declares_4 rfl (lv_at hl 1 rfl) ?_
  refine lv_bipush (v := 16) hx hb dX1_declares_5 (by decide) ?_
  refine ximul (v := 0) S dX1_declares_7 (by decide) ?_
  refine lv_iload_n hx hb dX1_declares_8 rfl (lv_at hl 2 rfl) ?_
  refine xiadd (v := 1) S dX1_declares_9 (by decide) ?_
  refine xiald (t0 := 0) (v := (-1)) S hK hP (q0 := 8) rfl rfl (vin rfl) rfl dX1_declares_10 ?_
  refine lv_iconst (v := (-1)) hx hb dX1_declares_11 (by decide) ?_
  refine lv_icmp_eq (tgt := 19) hx hb dX1_declares_12 (by decide) (fun _ => ?_) (fun c => absurd c (by decide))
  refine lv_iconst (v := 0) hx hb dX1_declares_19 (by decide) ?_
  exact rdEndZ S hr hlocks dX1_declares_20 rfl rfl

set_option maxHeartbeats 8000000 in
set_option maxRecDepth 100000 in
theorem c_X4_reaching_2 (l : Launch) (D : va_G) (cI cZ cJ : ClassId) (o : Nat) (u : Nat → Nat) : Met l yX4_reaching (uW yX4_reaching cX4_reaching 6 (some .int)) ({ frames := 0, cells := 0, slots := 0, locals := 0 }) (va_Pc [.ref (u 19), .int 0, .int 1] (pS D (tyL cI cZ cJ) (((((((xW o u cI cZ cJ).set 0 (o, .inr (8, ((xF u).set 9 (.int 0))))).set 32 ((u 31), .inl (cZ, 10, .inl (upd (upd (upd (upd (upd (upd (upd (upd (upd (upd (fun _ => 0) (0 : Int32).toNatClampNeg 0) (1 : Int32).toNatClampNeg 0) (2 : Int32).toNatClampNeg 0) (3 : Int32).toNatClampNeg 0) (4 : Int32).toNatClampNeg 0) (5 : Int32).toNatClampNeg 0) (6 : Int32).toNatClampNeg 0) (7 : Int32).toNatClampNeg 0) (8 : Int32).toNatClampNeg 0) (9 : Int32).toNatClampNeg 0)))).set 34 ((u 33), .inr (2, ([.ref (u 0), .ref (u 12), .ref (u 19), .int 0, .ref (u 34), .ref (u 35), .ref (u 36), .ref (u 37), .int 0].set 3 (.int 1))))).set 35 ((u 34), .inl (cI, 120, .inl (upd (fun _ => 0) (0 : Int32).toNatClampNeg 10)))).set 36 ((u 35), .inl (cI, 120, .inl (upd (fun _ => 0) (0 : Int32).toNatClampNeg 0)))).set 37 ((u 36), .inl (cI, 120, .inl (upd (fun _ => 0) (0 : Int32).toNatClampNeg (-1))))))) (QcRead (0)) 0 0 (fun _ => False) := by
  refine rdStart (lv := [(0, .ref (u 19)), (1, .int 0), (2, .int 1)]) (by decide) (Nat.le_of_ble_eq_true rfl) rfl ?_
  intro p e s m args below meth c ls S hr hlocks hl hP hK
  have hx := S.1
  have hb := S.2.1
  refine lv_iconst (v := 0) hx hb dX4_reaching_0 (by decide) ?_
  refine lv_istore_n (lv' := [(3, .int 0), (0, .ref (u 19)), (1, .int 0), (2, .int 1)]) hx hb dX4_reaching_1 rfl hl (by decide) rfl (fun ls hl => ?_)
  refine lv_iconst (v := 0) hx hb dX4_reaching_2 (by decide) ?_
  refine lv_istore (lv' := [(4, .int 0), (3, .int 0), (0, .ref (u 19)), (1, .int 0), (2, .int 1)]) hx hb dX4_reaching_3 hl (by decide) rfl (fun ls hl => ?_)
  refine lv_iload hx hb dX4_reaching_5 (lv_at hl 0 rfl) ?_
  refine lv_aload_n hx hb dX4_reaching_7 rfl (lv_at hl 2 rfl) ?_
  refine xg (ci := 4) S inX4 rfl hK hP (q0 := 20) rfl 1 (by decide) rfl kw_1_159 rfl dX4_reaching_8 ?_
  refine xg (ci := 5) S inX5 rfl hK hP (q0 := 13) rfl 0 (by decide) rfl kw_1_108 rfl dX4_reaching_11 ?_
  refine lv_icmp_ge (tgt := 133) hx hb dX4_reaching_14 (by decide) (fun _ => ?_) (fun c => absurd c (by decide))
  refine lv_iload_n hx hb dX4_reaching_133 rfl (lv_at hl 1 rfl) ?_
  exact rdEnd S hr hlocks dX4_reaching_134 rfl

set_option maxHeartbeats 8000000 in
set_option maxRecDepth 100000 in
theorem c_X8_hiddenBy_6 (l : Launch) (D : va_G) (cI cZ cJ : ClassId) (o : Nat) (u : Nat → Nat) (ra ga : Nat → Nat) (sz : Nat) : Met l yX8_hiddenBy (uW yX8_hiddenBy cX8_hiddenBy 3 (some .int)) ({ frames := 2, cells := 0, slots := 0, locals := 42 }) (va_Pc [.ref o, .int 0, .int 1] (aS ra ga D (tyL cI cZ cJ) (((((((xW o u cI cZ cJ).set 0 (o, .inr (8, ((xF u).set 9 (.int 0))))).set 32 ((u 31), .inl (cZ, 10, .inl (upd (upd (upd (upd (upd (upd (upd (upd (upd (upd (fun _ => 0) (0 : Int32).toNatClampNeg 0) (1 : Int32).toNatClampNeg 0) (2 : Int32).toNatClampNeg 0) (3 : Int32).toNatClampNeg 0) (4 : Int32).toNatClampNeg 0) (5 : Int32).toNatClampNeg 0) (6 : Int32).toNatClampNeg 0) (7 : Int32).toNatClampNeg 0) (8 : Int32).toNatClampNeg 0) (9 : Int32).toNatClampNeg 0)))).set 34 ((u 33), .inr (2, ([.ref (u 0), .ref (u 12), .ref (u 19), .int 0, .ref (u 34), .ref (u 35), .ref (u 36), .ref (u 37), .int 0].set 3 (.int 1))))).set 35 ((u 34), .inl (cI, 120, .inl (upd (fun _ => 0) (0 : Int32).toNatClampNeg 10)))).set 36 ((u 35), .inl (cI, 120, .inl (upd (fun _ => 0) (0 : Int32).toNatClampNeg 0)))).set 37 ((u 36), .inl (cI, 120, .inl (upd (fun _ => 0) (0 : Int32).toNatClampNeg (-1))))) sz)) (wQi (0) D (((((((xW o u cI cZ cJ).set 0 (o, .inr (8, ((xF u).set 9 (.int 0))))).set 32 ((u 31), .inl (cZ, 10, .inl (upd (upd (upd (upd (upd (upd (upd (upd (upd (upd (fun _ => 0) (0 : Int32).toNatClampNeg 0) (1 : Int32).toNatClampNeg 0) (2 : Int32).toNatClampNeg 0) (3 : Int32).toNatClampNeg 0) (4 : Int32).toNatClampNeg 0) (5 : Int32).toNatClampNeg 0) (6 : Int32).toNatClampNeg 0) (7 : Int32).toNatClampNeg 0) (8 : Int32).toNatClampNeg 0) (9 : Int32).toNatClampNeg 0)))).set 34 ((u 33), .inr (2, ([.ref (u 0), .ref (u 12), .ref (u 19), .int 0, .ref (u 34), .ref (u 35), .ref (u 36), .ref (u 37), .int 0].set 3 (.int 1))))).set 35 ((u 34), .inl (cI, 120, .inl (upd (fun _ => 0) (0 : Int32).toNatClampNeg 10)))).set 36 ((u 35), .inl (cI, 120, .inl (upd (fun _ => 0) (0 : Int32).toNatClampNeg 0)))).set 37 ((u 36), .inl (cI, 120, .inl (upd (fun _ => 0) (0 : Int32).toNatClampNeg (-1))))) (va_A (((((((xW o u cI cZ cJ).set 0 (o, .inr (8, ((xF u).set 9 (.int 0))))).set 32 ((u 31), .inl (cZ, 10, .inl (upd (upd (upd (upd (upd (upd (upd (upd (upd (upd (fun _ => 0) (0 : Int32).toNatClampNeg 0) (1 : Int32).toNatClampNeg 0) (2 : Int32).toNatClampNeg 0) (3 : Int32).toNatClampNeg 0) (4 : Int32).toNatClampNeg 0) (5 : Int32).toNatClampNeg 0) (6 : Int32).toNatClampNeg 0) (7 : Int32).toNatClampNeg 0) (8 : Int32).toNatClampNeg 0) (9 : Int32).toNatClampNeg 0)))).set 34 ((u 33), .inr (2, ([.ref (u 0), .ref (u 12), .ref (u 19), .int 0, .ref (u 34), .ref (u 35), .ref (u 36), .ref (u 37), .int 0].set 3 (.int 1))))).set 35 ((u 34), .inl (cI, 120, .inl (upd (fun _ => 0) (0 : Int32).toNatClampNeg 10)))).set 36 ((u 35), .inl (cI, 120, .inl (upd (fun _ => 0) (0 : Int32).toNatClampNeg 0)))).set 37 ((u 36), .inl (cI, 120, .inl (upd (fun _ => 0) (0 : Int32).toNatClampNeg (-1))))) sz)) 0 0 (va_A (((((((xW o u cI cZ cJ).set 0 (o, .inr (8, ((xF u).set 9 (.int 0))))).set 32 ((u 31), .inl (cZ, 10, .inl (upd (upd (upd (upd (upd (upd (upd (upd (upd (upd (fun _ => 0) (0 : Int32).toNatClampNeg 0) (1 : Int32).toNatClampNeg 0) (2 : Int32).toNatClampNeg 0) (3 : Int32).toNatClampNeg 0) (4 : Int32).toNatClampNeg 0) (5 : Int32).toNatClampNeg 0) (6 : Int32).toNatClampNeg 0) (7 : Int32).toNatClampNeg 0) (8 : Int32).toNatClampNeg 0) (9 : Int32).toNatClampNeg 0)))).set 34 ((u 33), .inr (2, ([.ref (u 0), .ref (u 12), .ref (u 19), .int 0, .ref (u 34), .ref (u 35), .ref (u 36), .ref (u 37), .int 0].set 3 (.int 1))))).set 35 ((u 34), .inl (cI, 120, .inl (upd (fun _ => 0) (0 : Int32).toNatClampNeg 10)))).set 36 ((u 35), .inl (cI, 120, .inl (upd (fun _ => 0) (0 : Int32).toNatClampNeg 0)))).set 37 ((u 36), .inl (cI, 120, .inl (upd (fun _ => 0) (0 : Int32).toNatClampNeg (-1))))) sz) := by
  refine aStart (lv := [(0, .ref o), (1, .int 0), (2, .int 1)]) (Qc := fun A => wQi (0) D (((((((xW o u cI cZ cJ).set 0 (o, .inr (8, ((xF u).set 9 (.int 0))))).set 32 ((u 31), .inl (cZ, 10, .inl (upd (upd (upd (upd (upd (upd (upd (upd (upd (upd (fun _ => 0) (0 : Int32).toNatClampNeg 0) (1 : Int32).toNatClampNeg 0) (2 : Int32).toNatClampNeg 0) (3 : Int32).toNatClampNeg 0) (4 : Int32).toNatClampNeg 0) (5 : Int32).toNatClampNeg 0) (6 : Int32).toNatClampNeg 0) (7 : Int32).toNatClampNeg 0) (8 : Int32).toNatClampNeg 0) (9 : Int32).toNatClampNeg 0)))).set 34 ((u 33), .inr (2, ([.ref (u 0), .ref (u 12), .ref (u 19), .int 0, .ref (u 34), .ref (u 35), .ref (u 36), .ref (u 37), .int 0].set 3 (.int 1))))).set 35 ((u 34), .inl (cI, 120, .inl (upd (fun _ => 0) (0 : Int32).toNatClampNeg 10)))).set 36 ((u 35), .inl (cI, 120, .inl (upd (fun _ => 0) (0 : Int32).toNatClampNeg 0)))).set 37 ((u 36), .inl (cI, 120, .inl (upd (fun _ => 0) (0 : Int32).toNatClampNeg (-1))))) A) (by decide) (Nat.le_of_ble_eq_true rfl) rfl ?_
  intro p e s m args below meth c ls A H S hr hlocks hnm hl hK hP hD hS hA hB
  have hx := S.1
  have hb := S.2.1
  refine lv_aload_n hx hb dX8_hiddenBy_0 rfl (lv_at hl 0 rfl) ?_
  refine lv_iload_n hx hb dX8_hiddenBy_1 rfl (lv_at hl 1 rfl) ?_
  refine aVv (As := [.int 0]) (ci := 8) S (c_X8_needProcedure_3 l D cI cZ cJ o u ra ga H.size) mi_X8_needProcedure kw_4_166 rfl rfl ⟨Nat.le_of_ble_eq_true rfl, Nat.le_of_ble_eq_true rfl⟩ hP hD hK hS hA hB (k := 0) rfl rfl rfl hl.1 (Nat.le_of_ble_eq_true rfl) ⟨Nat.le_of_ble_eq_true rfl, Nat.le_of_ble_eq_true rfl⟩ dX8_hiddenBy_2 (fun H locs hz hP hD hS => ?_)
  refine lv_iload_n hx hb dX8_hiddenBy_5 rfl (lv_at hl 2 rfl) ?_
  refine rdS (As := [.int 1]) S (c_X8_isName_7 l D cI cZ cJ o u) ms_X8_isName kw_4_198 ⟨rfl, rfl⟩ ⟨Nat.le_of_ble_eq_true rfl, Nat.le_of_ble_eq_true rfl⟩ hP hK hl.1 (Nat.le_of_ble_eq_true rfl) ⟨Nat.le_of_ble_eq_true rfl, Nat.le_of_ble_eq_true rfl⟩ dX8_hiddenBy_6 ?_
  refine aSv (As := [.int 1]) S (c_X8_needArgument_3 l D cI cZ cJ o u ra ga H.size) ms_X8_needArgument kw_4_4 rfl rfl ⟨Nat.le_of_ble_eq_true rfl, Nat.le_of_ble_eq_true rfl⟩ hP hD hK hS hA hB hl.1 (Nat.le_of_ble_eq_true rfl) ⟨Nat.le_of_ble_eq_true rfl, Nat.le_of_ble_eq_true rfl⟩ dX8_hiddenBy_9 (fun H locs hz hP hD hS => ?_)
  refine lv_aload_n hx hb dX8_hiddenBy_12 rfl (lv_at hl 0 rfl) ?_
  refine aVv (As := []) (ci := 8) S (c_X8_refresh_1 l D cI cZ cJ o u ra ga H.size) mi_X8_refresh kw_3_71 rfl rfl ⟨Nat.le_of_ble_eq_true rfl, Nat.le_of_ble_eq_true rfl⟩ hP hD hK hS hA hB (k := 0) rfl rfl rfl hl.1 (Nat.le_of_ble_eq_true rfl) ⟨Nat.le_of_ble_eq_true rfl, Nat.le_of_ble_eq_true rfl⟩ dX8_hiddenBy_13 (fun H locs hz hP hD hS => ?_)
  refine lv_aload_n hx hb dX8_hiddenBy_16 rfl (lv_at hl 0 rfl) ?_
  refine xg (ci := 8) S inX8 rfl hK hP (q0 := 0) rfl 0 (by decide) rfl kw_3_20 rfl dX8_hiddenBy_17 ?_
  refine lv_iload_n hx hb dX8_hiddenBy_20 rfl (lv_at hl 1 rfl) ?_
  refine lv_iload_n hx hb dX8_hiddenBy_21 rfl (lv_at hl 2 rfl) ?_
  refine rdV (As := [.int 0, .int 1]) (ci := 1) S (c_X1_declares_3 l D cI cZ cJ o u) mi_X1_declares kw_4_201 ⟨rfl, rfl⟩ ⟨Nat.le_of_ble_eq_true rfl, Nat.le_of_ble_eq_true rfl⟩ hP hK (k := 1) rfl rfl rfl hl.1 (Nat.le_of_ble_eq_true rfl) ⟨Nat.le_of_ble_eq_true rfl, Nat.le_of_ble_eq_true rfl⟩ dX8_hiddenBy_22 ?_
  refine lv_if_eq (tgt := 32) hx hb dX8_hiddenBy_25 (by decide) (fun _ => ?_) (fun c => absurd c (by decide))
  refine lv_aload_n hx hb dX8_hiddenBy_32 rfl (lv_at hl 0 rfl) ?_
  refine xg (ci := 8) S inX8 rfl hK hP (q0 := 0) rfl 2 (by decide) rfl kw_3_22 rfl dX8_hiddenBy_33 ?_
  refine lv_iload_n hx hb dX8_hiddenBy_36 rfl (lv_at hl 1 rfl) ?_
  refine lv_iload_n hx hb dX8_hiddenBy_37 rfl (lv_at hl 2 rfl) ?_
  refine rdV (As := [.int 0, .int 1]) (ci := 4) S (c_X4_reaching_2 l D cI cZ cJ o u) mi_X4_reaching kw_4_202 ⟨rfl, rfl⟩ ⟨Nat.le_of_ble_eq_true rfl, Nat.le_of_ble_eq_true rfl⟩ hP hK (k := 20) rfl rfl rfl hl.1 (Nat.le_of_ble_eq_true rfl) ⟨Nat.le_of_ble_eq_true rfl, Nat.le_of_ble_eq_true rfl⟩ dX8_hiddenBy_38 ?_
  exact wEnd S hr hlocks hP hD hS (Nat.le_of_ble_eq_true rfl) (Nat.le_of_ble_eq_true rfl) dX8_hiddenBy_41 rfl

set_option maxHeartbeats 8000000 in
set_option maxRecDepth 100000 in
theorem c_X8_isName_8 (l : Launch) (D : va_G) (cI cZ cJ : ClassId) (o : Nat) (u : Nat → Nat) : Met l yX8_isName (uW yX8_isName cX8_isName 1 (some .boolean)) ({ frames := 0, cells := 0, slots := 0, locals := 0 }) (va_Pc [.int 2] (pS D (tyL cI cZ cJ) (((((((xW o u cI cZ cJ).set 0 (o, .inr (8, ((xF u).set 9 (.int 0))))).set 32 ((u 31), .inl (cZ, 10, .inl (upd (upd (upd (upd (upd (upd (upd (upd (upd (upd (fun _ => 0) (0 : Int32).toNatClampNeg 0) (1 : Int32).toNatClampNeg 0) (2 : Int32).toNatClampNeg 0) (3 : Int32).toNatClampNeg 0) (4 : Int32).toNatClampNeg 0) (5 : Int32).toNatClampNeg 0) (6 : Int32).toNatClampNeg 0) (7 : Int32).toNatClampNeg 0) (8 : Int32).toNatClampNeg 0) (9 : Int32).toNatClampNeg 0)))).set 34 ((u 33), .inr (2, ([.ref (u 0), .ref (u 12), .ref (u 19), .int 0, .ref (u 34), .ref (u 35), .ref (u 36), .ref (u 37), .int 0].set 3 (.int 1))))).set 35 ((u 34), .inl (cI, 120, .inl (upd (fun _ => 0) (0 : Int32).toNatClampNeg 10)))).set 36 ((u 35), .inl (cI, 120, .inl (upd (fun _ => 0) (0 : Int32).toNatClampNeg 0)))).set 37 ((u 36), .inl (cI, 120, .inl (upd (fun _ => 0) (0 : Int32).toNatClampNeg (-1))))))) (QcRead (1)) 0 0 (fun _ => False) := by
  refine rdStart (lv := [(0, .int 2)]) (by decide) (Nat.le_of_ble_eq_true rfl) rfl ?_
  intro p e s m args below meth c ls S hr hlocks hl hP hK
  have hx := S.1
  have hb := S.2.1
  refine lv_iload_n hx hb dX8_isName_0 rfl (lv_at hl 0 rfl) ?_
  refine lv_if_lt (tgt := 14) hx hb dX8_isName_1 (by decide) (fun c => absurd c (by decide)) (fun _ => ?_)
  refine lv_iload_n hx hb dX8_isName_4 rfl (lv_at hl 0 rfl) ?_
  refine lv_bipush (v := 16) hx hb dX8_isName_5 (by decide) ?_
  refine lv_icmp_ge (tgt := 14) hx hb dX8_isName_7 (by decide) (fun c => absurd c (by decide)) (fun _ => ?_)
  refine lv_iconst (v := 1) hx hb dX8_isName_10 (by decide) ?_
  refine lv_goto (tgt := 15) hx hb dX8_isName_11 (by decide) ?_
  exact rdEndZ S hr hlocks dX8_isName_15 rfl rfl

set_option maxHeartbeats 8000000 in
set_option maxRecDepth 100000 in
theorem c_X1_declares_4 (l : Launch) (D : va_G) (cI cZ cJ : ClassId) (o : Nat) (u : Nat → Nat) : Met l yX1_declares (uW yX1_declares cX1_declares 3 (some .boolean)) ({ frames := 0, cells := 0, slots := 0, locals := 0 }) (va_Pc [.ref (u 0), .int 0, .int 2] (pS D (tyL cI cZ cJ) (((((((xW o u cI cZ cJ).set 0 (o, .inr (8, ((xF u).set 9 (.int 0))))).set 32 ((u 31), .inl (cZ, 10, .inl (upd (upd (upd (upd (upd (upd (upd (upd (upd (upd (fun _ => 0) (0 : Int32).toNatClampNeg 0) (1 : Int32).toNatClampNeg 0) (2 : Int32).toNatClampNeg 0) (3 : Int32).toNatClampNeg 0) (4 : Int32).toNatClampNeg 0) (5 : Int32).toNatClampNeg 0) (6 : Int32).toNatClampNeg 0) (7 : Int32).toNatClampNeg 0) (8 : Int32).toNatClampNeg 0) (9 : Int32).toNatClampNeg 0)))).set 34 ((u 33), .inr (2, ([.ref (u 0), .ref (u 12), .ref (u 19), .int 0, .ref (u 34), .ref (u 35), .ref (u 36), .ref (u 37), .int 0].set 3 (.int 1))))).set 35 ((u 34), .inl (cI, 120, .inl (upd (fun _ => 0) (0 : Int32).toNatClampNeg 10)))).set 36 ((u 35), .inl (cI, 120, .inl (upd (fun _ => 0) (0 : Int32).toNatClampNeg 0)))).set 37 ((u 36), .inl (cI, 120, .inl (upd (fun _ => 0) (0 : Int32).toNatClampNeg (-1))))))) (QcRead (0)) 0 0 (fun _ => False) := by
  refine rdStart (lv := [(0, .ref (u 0)), (1, .int 0), (2, .int 2)]) (by decide) (Nat.le_of_ble_eq_true rfl) rfl ?_
  intro p e s m args below meth c ls S hr hlocks hl hP hK
  have hx := S.1
  have hb := S.2.1
  refine lv_aload_n hx hb dX1_declares_0 rfl (lv_at hl 0 rfl) ?_
  refine xg (ci := 1) S inX1 rfl hK hP (q0 := 1) rfl 7 (by decide) rfl kw_1_61 rfl dX1_declares_1 ?_
  refine lv_iload_n hx hb dX1_declares_4 rfl (lv_at hl 1 rfl) ?_
  refine lv_bipush (v := 16) hx hb dX1_declares_5 (by decide) ?_
  refine ximul (v := 0) S dX1_declares_7 (by decide) ?_
  refine lv_iload_n hx hb dX1_declares_8 rfl (lv_at hl 2 rfl) ?_
  refine xiadd (v := 2) S dX1_declares_9 (by decide) ?_
  refine xiald (t0 := 0) (v := (-1)) S hK hP (q0 := 8) rfl rfl (vin rfl) rfl dX1_declares_10 ?_
  refine lv_iconst (v := (-1)) hx hb dX1_declares_11 (by decide) ?_
  refine lv_icmp_eq (tgt := 19) hx hb dX1_declares_12 (by decide) (fun _ => ?_) (fun c => absurd c (by decide))
  refine lv_iconst (v := 0) hx hb dX1_declares_19 (by decide) ?_
  exact rdEndZ S hr hlocks dX1_declares_20 rfl rfl

set_option maxHeartbeats 8000000 in
set_option maxRecDepth 100000 in
theorem c_X4_reaching_3 (l : Launch) (D : va_G) (cI cZ cJ : ClassId) (o : Nat) (u : Nat → Nat) : Met l yX4_reaching (uW yX4_reaching cX4_reaching 6 (some .int)) ({ frames := 0, cells := 0, slots := 0, locals := 0 }) (va_Pc [.ref (u 19), .int 0, .int 2] (pS D (tyL cI cZ cJ) (((((((xW o u cI cZ cJ).set 0 (o, .inr (8, ((xF u).set 9 (.int 0))))).set 32 ((u 31), .inl (cZ, 10, .inl (upd (upd (upd (upd (upd (upd (upd (upd (upd (upd (fun _ => 0) (0 : Int32).toNatClampNeg 0) (1 : Int32).toNatClampNeg 0) (2 : Int32).toNatClampNeg 0) (3 : Int32).toNatClampNeg 0) (4 : Int32).toNatClampNeg 0) (5 : Int32).toNatClampNeg 0) (6 : Int32).toNatClampNeg 0) (7 : Int32).toNatClampNeg 0) (8 : Int32).toNatClampNeg 0) (9 : Int32).toNatClampNeg 0)))).set 34 ((u 33), .inr (2, ([.ref (u 0), .ref (u 12), .ref (u 19), .int 0, .ref (u 34), .ref (u 35), .ref (u 36), .ref (u 37), .int 0].set 3 (.int 1))))).set 35 ((u 34), .inl (cI, 120, .inl (upd (fun _ => 0) (0 : Int32).toNatClampNeg 10)))).set 36 ((u 35), .inl (cI, 120, .inl (upd (fun _ => 0) (0 : Int32).toNatClampNeg 0)))).set 37 ((u 36), .inl (cI, 120, .inl (upd (fun _ => 0) (0 : Int32).toNatClampNeg (-1))))))) (QcRead (0)) 0 0 (fun _ => False) := by
  refine rdStart (lv := [(0, .ref (u 19)), (1, .int 0), (2, .int 2)]) (by decide) (Nat.le_of_ble_eq_true rfl) rfl ?_
  intro p e s m args below meth c ls S hr hlocks hl hP hK
  have hx := S.1
  have hb := S.2.1
  refine lv_iconst (v := 0) hx hb dX4_reaching_0 (by decide) ?_
  refine lv_istore_n (lv' := [(3, .int 0), (0, .ref (u 19)), (1, .int 0), (2, .int 2)]) hx hb dX4_reaching_1 rfl hl (by decide) rfl (fun ls hl => ?_)
  refine lv_iconst (v := 0) hx hb dX4_reaching_2 (by decide) ?_
  refine lv_istore (lv' := [(4, .int 0), (3, .int 0), (0, .ref (u 19)), (1, .int 0), (2, .int 2)]) hx hb dX4_reaching_3 hl (by decide) rfl (fun ls hl => ?_)
  refine lv_iload hx hb dX4_reaching_5 (lv_at hl 0 rfl) ?_
  refine lv_aload_n hx hb dX4_reaching_7 rfl (lv_at hl 2 rfl) ?_
  refine xg (ci := 4) S inX4 rfl hK hP (q0 := 20) rfl 1 (by decide) rfl kw_1_159 rfl dX4_reaching_8 ?_
  refine xg (ci := 5) S inX5 rfl hK hP (q0 := 13) rfl 0 (by decide) rfl kw_1_108 rfl dX4_reaching_11 ?_
  refine lv_icmp_ge (tgt := 133) hx hb dX4_reaching_14 (by decide) (fun _ => ?_) (fun c => absurd c (by decide))
  refine lv_iload_n hx hb dX4_reaching_133 rfl (lv_at hl 1 rfl) ?_
  exact rdEnd S hr hlocks dX4_reaching_134 rfl

set_option maxHeartbeats 8000000 in
set_option maxRecDepth 100000 in
theorem c_X8_hiddenBy_7 (l : Launch) (D : va_G) (cI cZ cJ : ClassId) (o : Nat) (u : Nat → Nat) (ra ga : Nat → Nat) (sz : Nat) : Met l yX8_hiddenBy (uW yX8_hiddenBy cX8_hiddenBy 3 (some .int)) ({ frames := 2, cells := 0, slots := 0, locals := 42 }) (va_Pc [.ref o, .int 0, .int 2] (aS ra ga D (tyL cI cZ cJ) (((((((xW o u cI cZ cJ).set 0 (o, .inr (8, ((xF u).set 9 (.int 0))))).set 32 ((u 31), .inl (cZ, 10, .inl (upd (upd (upd (upd (upd (upd (upd (upd (upd (upd (fun _ => 0) (0 : Int32).toNatClampNeg 0) (1 : Int32).toNatClampNeg 0) (2 : Int32).toNatClampNeg 0) (3 : Int32).toNatClampNeg 0) (4 : Int32).toNatClampNeg 0) (5 : Int32).toNatClampNeg 0) (6 : Int32).toNatClampNeg 0) (7 : Int32).toNatClampNeg 0) (8 : Int32).toNatClampNeg 0) (9 : Int32).toNatClampNeg 0)))).set 34 ((u 33), .inr (2, ([.ref (u 0), .ref (u 12), .ref (u 19), .int 0, .ref (u 34), .ref (u 35), .ref (u 36), .ref (u 37), .int 0].set 3 (.int 1))))).set 35 ((u 34), .inl (cI, 120, .inl (upd (fun _ => 0) (0 : Int32).toNatClampNeg 10)))).set 36 ((u 35), .inl (cI, 120, .inl (upd (fun _ => 0) (0 : Int32).toNatClampNeg 0)))).set 37 ((u 36), .inl (cI, 120, .inl (upd (fun _ => 0) (0 : Int32).toNatClampNeg (-1))))) sz)) (wQi (0) D (((((((xW o u cI cZ cJ).set 0 (o, .inr (8, ((xF u).set 9 (.int 0))))).set 32 ((u 31), .inl (cZ, 10, .inl (upd (upd (upd (upd (upd (upd (upd (upd (upd (upd (fun _ => 0) (0 : Int32).toNatClampNeg 0) (1 : Int32).toNatClampNeg 0) (2 : Int32).toNatClampNeg 0) (3 : Int32).toNatClampNeg 0) (4 : Int32).toNatClampNeg 0) (5 : Int32).toNatClampNeg 0) (6 : Int32).toNatClampNeg 0) (7 : Int32).toNatClampNeg 0) (8 : Int32).toNatClampNeg 0) (9 : Int32).toNatClampNeg 0)))).set 34 ((u 33), .inr (2, ([.ref (u 0), .ref (u 12), .ref (u 19), .int 0, .ref (u 34), .ref (u 35), .ref (u 36), .ref (u 37), .int 0].set 3 (.int 1))))).set 35 ((u 34), .inl (cI, 120, .inl (upd (fun _ => 0) (0 : Int32).toNatClampNeg 10)))).set 36 ((u 35), .inl (cI, 120, .inl (upd (fun _ => 0) (0 : Int32).toNatClampNeg 0)))).set 37 ((u 36), .inl (cI, 120, .inl (upd (fun _ => 0) (0 : Int32).toNatClampNeg (-1))))) (va_A (((((((xW o u cI cZ cJ).set 0 (o, .inr (8, ((xF u).set 9 (.int 0))))).set 32 ((u 31), .inl (cZ, 10, .inl (upd (upd (upd (upd (upd (upd (upd (upd (upd (upd (fun _ => 0) (0 : Int32).toNatClampNeg 0) (1 : Int32).toNatClampNeg 0) (2 : Int32).toNatClampNeg 0) (3 : Int32).toNatClampNeg 0) (4 : Int32).toNatClampNeg 0) (5 : Int32).toNatClampNeg 0) (6 : Int32).toNatClampNeg 0) (7 : Int32).toNatClampNeg 0) (8 : Int32).toNatClampNeg 0) (9 : Int32).toNatClampNeg 0)))).set 34 ((u 33), .inr (2, ([.ref (u 0), .ref (u 12), .ref (u 19), .int 0, .ref (u 34), .ref (u 35), .ref (u 36), .ref (u 37), .int 0].set 3 (.int 1))))).set 35 ((u 34), .inl (cI, 120, .inl (upd (fun _ => 0) (0 : Int32).toNatClampNeg 10)))).set 36 ((u 35), .inl (cI, 120, .inl (upd (fun _ => 0) (0 : Int32).toNatClampNeg 0)))).set 37 ((u 36), .inl (cI, 120, .inl (upd (fun _ => 0) (0 : Int32).toNatClampNeg (-1))))) sz)) 0 0 (va_A (((((((xW o u cI cZ cJ).set 0 (o, .inr (8, ((xF u).set 9 (.int 0))))).set 32 ((u 31), .inl (cZ, 10, .inl (upd (upd (upd (upd (upd (upd (upd (upd (upd (upd (fun _ => 0) (0 : Int32).toNatClampNeg 0) (1 : Int32).toNatClampNeg 0) (2 : Int32).toNatClampNeg 0) (3 : Int32).toNatClampNeg 0) (4 : Int32).toNatClampNeg 0) (5 : Int32).toNatClampNeg 0) (6 : Int32).toNatClampNeg 0) (7 : Int32).toNatClampNeg 0) (8 : Int32).toNatClampNeg 0) (9 : Int32).toNatClampNeg 0)))).set 34 ((u 33), .inr (2, ([.ref (u 0), .ref (u 12), .ref (u 19), .int 0, .ref (u 34), .ref (u 35), .ref (u 36), .ref (u 37), .int 0].set 3 (.int 1))))).set 35 ((u 34), .inl (cI, 120, .inl (upd (fun _ => 0) (0 : Int32).toNatClampNeg 10)))).set 36 ((u 35), .inl (cI, 120, .inl (upd (fun _ => 0) (0 : Int32).toNatClampNeg 0)))).set 37 ((u 36), .inl (cI, 120, .inl (upd (fun _ => 0) (0 : Int32).toNatClampNeg (-1))))) sz) := by
  refine aStart (lv := [(0, .ref o), (1, .int 0), (2, .int 2)]) (Qc := fun A => wQi (0) D (((((((xW o u cI cZ cJ).set 0 (o, .inr (8, ((xF u).set 9 (.int 0))))).set 32 ((u 31), .inl (cZ, 10, .inl (upd (upd (upd (upd (upd (upd (upd (upd (upd (upd (fun _ => 0) (0 : Int32).toNatClampNeg 0) (1 : Int32).toNatClampNeg 0) (2 : Int32).toNatClampNeg 0) (3 : Int32).toNatClampNeg 0) (4 : Int32).toNatClampNeg 0) (5 : Int32).toNatClampNeg 0) (6 : Int32).toNatClampNeg 0) (7 : Int32).toNatClampNeg 0) (8 : Int32).toNatClampNeg 0) (9 : Int32).toNatClampNeg 0)))).set 34 ((u 33), .inr (2, ([.ref (u 0), .ref (u 12), .ref (u 19), .int 0, .ref (u 34), .ref (u 35), .ref (u 36), .ref (u 37), .int 0].set 3 (.int 1))))).set 35 ((u 34), .inl (cI, 120, .inl (upd (fun _ => 0) (0 : Int32).toNatClampNeg 10)))).set 36 ((u 35), .inl (cI, 120, .inl (upd (fun _ => 0) (0 : Int32).toNatClampNeg 0)))).set 37 ((u 36), .inl (cI, 120, .inl (upd (fun _ => 0) (0 : Int32).toNatClampNeg (-1))))) A) (by decide) (Nat.le_of_ble_eq_true rfl) rfl ?_
  intro p e s m args below meth c ls A H S hr hlocks hnm hl hK hP hD hS hA hB
  have hx := S.1
  have hb := S.2.1
  refine lv_aload_n hx hb dX8_hiddenBy_0 rfl (lv_at hl 0 rfl) ?_
  refine lv_iload_n hx hb dX8_hiddenBy_1 rfl (lv_at hl 1 rfl) ?_
  refine aVv (As := [.int 0]) (ci := 8) S (c_X8_needProcedure_3 l D cI cZ cJ o u ra ga H.size) mi_X8_needProcedure kw_4_166 rfl rfl ⟨Nat.le_of_ble_eq_true rfl, Nat.le_of_ble_eq_true rfl⟩ hP hD hK hS hA hB (k := 0) rfl rfl rfl hl.1 (Nat.le_of_ble_eq_true rfl) ⟨Nat.le_of_ble_eq_true rfl, Nat.le_of_ble_eq_true rfl⟩ dX8_hiddenBy_2 (fun H locs hz hP hD hS => ?_)
  refine lv_iload_n hx hb dX8_hiddenBy_5 rfl (lv_at hl 2 rfl) ?_
  refine rdS (As := [.int 2]) S (c_X8_isName_8 l D cI cZ cJ o u) ms_X8_isName kw_4_198 ⟨rfl, rfl⟩ ⟨Nat.le_of_ble_eq_true rfl, Nat.le_of_ble_eq_true rfl⟩ hP hK hl.1 (Nat.le_of_ble_eq_true rfl) ⟨Nat.le_of_ble_eq_true rfl, Nat.le_of_ble_eq_true rfl⟩ dX8_hiddenBy_6 ?_
  refine aSv (As := [.int 1]) S (c_X8_needArgument_3 l D cI cZ cJ o u ra ga H.size) ms_X8_needArgument kw_4_4 rfl rfl ⟨Nat.le_of_ble_eq_true rfl, Nat.le_of_ble_eq_true rfl⟩ hP hD hK hS hA hB hl.1 (Nat.le_of_ble_eq_true rfl) ⟨Nat.le_of_ble_eq_true rfl, Nat.le_of_ble_eq_true rfl⟩ dX8_hiddenBy_9 (fun H locs hz hP hD hS => ?_)
  refine lv_aload_n hx hb dX8_hiddenBy_12 rfl (lv_at hl 0 rfl) ?_
  refine aVv (As := []) (ci := 8) S (c_X8_refresh_1 l D cI cZ cJ o u ra ga H.size) mi_X8_refresh kw_3_71 rfl rfl ⟨Nat.le_of_ble_eq_true rfl, Nat.le_of_ble_eq_true rfl⟩ hP hD hK hS hA hB (k := 0) rfl rfl rfl hl.1 (Nat.le_of_ble_eq_true rfl) ⟨Nat.le_of_ble_eq_true rfl, Nat.le_of_ble_eq_true rfl⟩ dX8_hiddenBy_13 (fun H locs hz hP hD hS => ?_)
  refine lv_aload_n hx hb dX8_hiddenBy_16 rfl (lv_at hl 0 rfl) ?_
  refine xg (ci := 8) S inX8 rfl hK hP (q0 := 0) rfl 0 (by decide) rfl kw_3_20 rfl dX8_hiddenBy_17 ?_
  refine lv_iload_n hx hb dX8_hiddenBy_20 rfl (lv_at hl 1 rfl) ?_
  refine lv_iload_n hx hb dX8_hiddenBy_21 rfl (lv_at hl 2 rfl) ?_
  refine rdV (As := [.int 0, .int 2]) (ci := 1) S (c_X1_declares_4 l D cI cZ cJ o u) mi_X1_declares kw_4_201 ⟨rfl, rfl⟩ ⟨Nat.le_of_ble_eq_true rfl, Nat.le_of_ble_eq_true rfl⟩ hP hK (k := 1) rfl rfl rfl hl.1 (Nat.le_of_ble_eq_true rfl) ⟨Nat.le_of_ble_eq_true rfl, Nat.le_of_ble_eq_true rfl⟩ dX8_hiddenBy_22 ?_
  refine lv_if_eq (tgt := 32) hx hb dX8_hiddenBy_25 (by decide) (fun _ => ?_) (fun c => absurd c (by decide))
  refine lv_aload_n hx hb dX8_hiddenBy_32 rfl (lv_at hl 0 rfl) ?_
  refine xg (ci := 8) S inX8 rfl hK hP (q0 := 0) rfl 2 (by decide) rfl kw_3_22 rfl dX8_hiddenBy_33 ?_
  refine lv_iload_n hx hb dX8_hiddenBy_36 rfl (lv_at hl 1 rfl) ?_
  refine lv_iload_n hx hb dX8_hiddenBy_37 rfl (lv_at hl 2 rfl) ?_
  refine rdV (As := [.int 0, .int 2]) (ci := 4) S (c_X4_reaching_3 l D cI cZ cJ o u) mi_X4_reaching kw_4_202 ⟨rfl, rfl⟩ ⟨Nat.le_of_ble_eq_true rfl, Nat.le_of_ble_eq_true rfl⟩ hP hK (k := 20) rfl rfl rfl hl.1 (Nat.le_of_ble_eq_true rfl) ⟨Nat.le_of_ble_eq_true rfl, Nat.le_of_ble_eq_true rfl⟩ dX8_hiddenBy_38 ?_
  exact wEnd S hr hlocks hP hD hS (Nat.le_of_ble_eq_true rfl) (Nat.le_of_ble_eq_true rfl) dX8_hiddenBy_41 rfl
