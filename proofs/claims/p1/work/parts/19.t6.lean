set_option maxHeartbeats 8000000 in
set_option maxRecDepth 100000 in
theorem c_X9_has_12 (l : Launch) (D : va_G) (cI cZ cJ : ClassId) (o : Nat) (q : Nat → Nat) (x2 : Int32) (lo_x2 : 0 ≤ x2) (hi_x2 : x2 ≤ 15) : Met l yX9_has (uW yX9_has cX9_has 2 (some .boolean)) ({ frames := 0, cells := 0, slots := 0, locals := 0 }) (va_Pc [.int 0, .int 0] (pS D (tyL cI cZ cJ) (((((((mW o 0 q cI cZ).set 12 ((q 11), .inl (cI, 110, .inl (upd (fun _ => 0) (0 : Int32).toNatClampNeg 11)))).set 13 ((q 12), .inl (cI, 110, .inl (upd (fun _ => 0) (0 : Int32).toNatClampNeg x2)))).set 14 ((q 13), .inl (cI, 110, .inl (upd (fun _ => 0) (0 : Int32).toNatClampNeg 0)))).set 15 ((q 14), .inl (cI, 110, .inl (upd (fun _ => 0) (0 : Int32).toNatClampNeg 0)))).set 16 ((q 15), .inl (cI, 110, .inl (upd (fun _ => 0) (0 : Int32).toNatClampNeg (-1))))).set 17 ((q 16), .inl (cI, 110, .inl (upd (fun _ => 0) (0 : Int32).toNatClampNeg (-1))))))) (QcRead (0)) 0 0 (fun _ => False) := by
  refine rdStart (lv := [(0, .int 0), (1, .int 0)]) (by decide) (Nat.le_of_ble_eq_true rfl) rfl ?_
  intro p e s m args below meth c ls S hr hlocks hl hP hK
  have hx := S.1
  have hb := S.2.1
  refine lv_iload_n hx hb dX9_has_0 rfl (lv_at hl 0 rfl) ?_
  refine lv_iload_n hx hb dX9_has_1 rfl (lv_at hl 1 rfl) ?_
  refine xishr (v := 0) S dX9_has_2 (by decide) ?_
  refine lv_iconst (v := 1) hx hb dX9_has_3 (by decide) ?_
  refine xiand (v := 0) S dX9_has_4 (by decide) ?_
  refine lv_iconst (v := 1) hx hb dX9_has_5 (by decide) ?_
  refine lv_icmp_ne (tgt := 13) hx hb dX9_has_6 (by decide) (fun _ => ?_) (fun c => absurd c (by decide))
  refine lv_iconst (v := 0) hx hb dX9_has_13 (by decide) ?_
  exact rdEndZ S hr hlocks dX9_has_14 rfl rfl

set_option maxHeartbeats 8000000 in
set_option maxRecDepth 100000 in
theorem c_X9_part_12 (l : Launch) (D : va_G) (cI cZ cJ : ClassId) (o : Nat) (q : Nat → Nat) (x2 : Int32) (lo_x2 : 0 ≤ x2) (hi_x2 : x2 ≤ 15) : Met l yX9_part (uW yX9_part cX9_part 3 (some .int)) ({ frames := 1, cells := 0, slots := 0, locals := 21 }) (va_Pc [.ref o, .int 0, .int 0] (pS D (tyL cI cZ cJ) (((((((mW o 0 q cI cZ).set 12 ((q 11), .inl (cI, 110, .inl (upd (fun _ => 0) (0 : Int32).toNatClampNeg 11)))).set 13 ((q 12), .inl (cI, 110, .inl (upd (fun _ => 0) (0 : Int32).toNatClampNeg x2)))).set 14 ((q 13), .inl (cI, 110, .inl (upd (fun _ => 0) (0 : Int32).toNatClampNeg 0)))).set 15 ((q 14), .inl (cI, 110, .inl (upd (fun _ => 0) (0 : Int32).toNatClampNeg 0)))).set 16 ((q 15), .inl (cI, 110, .inl (upd (fun _ => 0) (0 : Int32).toNatClampNeg (-1))))).set 17 ((q 16), .inl (cI, 110, .inl (upd (fun _ => 0) (0 : Int32).toNatClampNeg (-1))))))) (QcRead ((-1))) 0 0 (fun _ => False) := by
  refine rdStart (lv := [(0, .ref o), (1, .int 0), (2, .int 0)]) (by decide) (Nat.le_of_ble_eq_true rfl) rfl ?_
  intro p e s m args below meth c ls S hr hlocks hl hP hK
  have hx := S.1
  have hb := S.2.1
  refine lv_aload_n hx hb dX9_part_0 rfl (lv_at hl 0 rfl) ?_
  refine xg (ci := 9) S inX9 rfl hK hP (q0 := 0) rfl 14 (by decide) mF_14 kw_6_162 rfl dX9_part_1 ?_
  refine lv_iload_n hx hb dX9_part_4 rfl (lv_at hl 1 rfl) ?_
  refine xiald (t0 := 0) (v := 11) S hK hP (q0 := 12) rfl rfl (vin rfl) rfl dX9_part_5 ?_
  refine rdS (As := [.int 11]) S (c_X9_parts_4 l D cI cZ cJ o q x2 lo_x2 hi_x2) ms_X9_parts kw_7_189 ⟨rfl, rfl⟩ ⟨Nat.le_of_ble_eq_true rfl, Nat.le_of_ble_eq_true rfl⟩ hP hK hl.1 (Nat.le_of_ble_eq_true rfl) ⟨Nat.le_of_ble_eq_true rfl, Nat.le_of_ble_eq_true rfl⟩ dX9_part_6 ?_
  refine lv_iload_n hx hb dX9_part_9 rfl (lv_at hl 2 rfl) ?_
  refine rdS (As := [.int 0, .int 0]) S (c_X9_has_12 l D cI cZ cJ o q x2 lo_x2 hi_x2) ms_X9_has kw_7_192 ⟨rfl, rfl⟩ ⟨Nat.le_of_ble_eq_true rfl, Nat.le_of_ble_eq_true rfl⟩ hP hK hl.1 (Nat.le_of_ble_eq_true rfl) ⟨Nat.le_of_ble_eq_true rfl, Nat.le_of_ble_eq_true rfl⟩ dX9_part_10 ?_
  refine lv_if_ne (tgt := 18) hx hb dX9_part_13 (by decide) (fun c => absurd c (by decide)) (fun _ => ?_)
  refine lv_iconst (v := (-1)) hx hb dX9_part_16 (by decide) ?_
  exact rdEnd S hr hlocks dX9_part_17 rfl

set_option maxHeartbeats 8000000 in
set_option maxRecDepth 100000 in
theorem c_X9_has_13 (l : Launch) (D : va_G) (cI cZ cJ : ClassId) (o : Nat) (q : Nat → Nat) (x2 : Int32) (lo_x2 : 0 ≤ x2) (hi_x2 : x2 ≤ 15) : Met l yX9_has (uW yX9_has cX9_has 2 (some .boolean)) ({ frames := 0, cells := 0, slots := 0, locals := 0 }) (va_Pc [.int 0, .int 1] (pS D (tyL cI cZ cJ) (((((((mW o 0 q cI cZ).set 12 ((q 11), .inl (cI, 110, .inl (upd (fun _ => 0) (0 : Int32).toNatClampNeg 11)))).set 13 ((q 12), .inl (cI, 110, .inl (upd (fun _ => 0) (0 : Int32).toNatClampNeg x2)))).set 14 ((q 13), .inl (cI, 110, .inl (upd (fun _ => 0) (0 : Int32).toNatClampNeg 0)))).set 15 ((q 14), .inl (cI, 110, .inl (upd (fun _ => 0) (0 : Int32).toNatClampNeg 0)))).set 16 ((q 15), .inl (cI, 110, .inl (upd (fun _ => 0) (0 : Int32).toNatClampNeg (-1))))).set 17 ((q 16), .inl (cI, 110, .inl (upd (fun _ => 0) (0 : Int32).toNatClampNeg (-1))))))) (QcRead (0)) 0 0 (fun _ => False) := by
  refine rdStart (lv := [(0, .int 0), (1, .int 1)]) (by decide) (Nat.le_of_ble_eq_true rfl) rfl ?_
  intro p e s m args below meth c ls S hr hlocks hl hP hK
  have hx := S.1
  have hb := S.2.1
  refine lv_iload_n hx hb dX9_has_0 rfl (lv_at hl 0 rfl) ?_
  refine lv_iload_n hx hb dX9_has_1 rfl (lv_at hl 1 rfl) ?_
  refine xishr (v := 0) S dX9_has_2 (by decide) ?_
  refine lv_iconst (v := 1) hx hb dX9_has_3 (by decide) ?_
  refine xiand (v := 0) S dX9_has_4 (by decide) ?_
  refine lv_iconst (v := 1) hx hb dX9_has_5 (by decide) ?_
  refine lv_icmp_ne (tgt := 13) hx hb dX9_has_6 (by decide) (fun _ => ?_) (fun c => absurd c (by decide))
  refine lv_iconst (v := 0) hx hb dX9_has_13 (by decide) ?_
  exact rdEndZ S hr hlocks dX9_has_14 rfl rfl

set_option maxHeartbeats 8000000 in
set_option maxRecDepth 100000 in
theorem c_X9_part_13 (l : Launch) (D : va_G) (cI cZ cJ : ClassId) (o : Nat) (q : Nat → Nat) (x2 : Int32) (lo_x2 : 0 ≤ x2) (hi_x2 : x2 ≤ 15) : Met l yX9_part (uW yX9_part cX9_part 3 (some .int)) ({ frames := 1, cells := 0, slots := 0, locals := 21 }) (va_Pc [.ref o, .int 0, .int 1] (pS D (tyL cI cZ cJ) (((((((mW o 0 q cI cZ).set 12 ((q 11), .inl (cI, 110, .inl (upd (fun _ => 0) (0 : Int32).toNatClampNeg 11)))).set 13 ((q 12), .inl (cI, 110, .inl (upd (fun _ => 0) (0 : Int32).toNatClampNeg x2)))).set 14 ((q 13), .inl (cI, 110, .inl (upd (fun _ => 0) (0 : Int32).toNatClampNeg 0)))).set 15 ((q 14), .inl (cI, 110, .inl (upd (fun _ => 0) (0 : Int32).toNatClampNeg 0)))).set 16 ((q 15), .inl (cI, 110, .inl (upd (fun _ => 0) (0 : Int32).toNatClampNeg (-1))))).set 17 ((q 16), .inl (cI, 110, .inl (upd (fun _ => 0) (0 : Int32).toNatClampNeg (-1))))))) (QcRead ((-1))) 0 0 (fun _ => False) := by
  refine rdStart (lv := [(0, .ref o), (1, .int 0), (2, .int 1)]) (by decide) (Nat.le_of_ble_eq_true rfl) rfl ?_
  intro p e s m args below meth c ls S hr hlocks hl hP hK
  have hx := S.1
  have hb := S.2.1
  refine lv_aload_n hx hb dX9_part_0 rfl (lv_at hl 0 rfl) ?_
  refine xg (ci := 9) S inX9 rfl hK hP (q0 := 0) rfl 14 (by decide) mF_14 kw_6_162 rfl dX9_part_1 ?_
  refine lv_iload_n hx hb dX9_part_4 rfl (lv_at hl 1 rfl) ?_
  refine xiald (t0 := 0) (v := 11) S hK hP (q0 := 12) rfl rfl (vin rfl) rfl dX9_part_5 ?_
  refine rdS (As := [.int 11]) S (c_X9_parts_4 l D cI cZ cJ o q x2 lo_x2 hi_x2) ms_X9_parts kw_7_189 ⟨rfl, rfl⟩ ⟨Nat.le_of_ble_eq_true rfl, Nat.le_of_ble_eq_true rfl⟩ hP hK hl.1 (Nat.le_of_ble_eq_true rfl) ⟨Nat.le_of_ble_eq_true rfl, Nat.le_of_ble_eq_true rfl⟩ dX9_part_6 ?_
  refine lv_iload_n hx hb dX9_part_9 rfl (lv_at hl 2 rfl) ?_
  refine rdS (As := [.int 0, .int 1]) S (c_X9_has_13 l D cI cZ cJ o q x2 lo_x2 hi_x2) ms_X9_has kw_7_192 ⟨rfl, rfl⟩ ⟨Nat.le_of_ble_eq_true rfl, Nat.le_of_ble_eq_true rfl⟩ hP hK hl.1 (Nat.le_of_ble_eq_true rfl) ⟨Nat.le_of_ble_eq_true rfl, Nat.le_of_ble_eq_true rfl⟩ dX9_part_10 ?_
  refine lv_if_ne (tgt := 18) hx hb dX9_part_13 (by decide) (fun c => absurd c (by decide)) (fun _ => ?_)
  refine lv_iconst (v := (-1)) hx hb dX9_part_16 (by decide) ?_
  exact rdEnd S hr hlocks dX9_part_17 rfl

set_option maxHeartbeats 8000000 in
set_option maxRecDepth 100000 in
theorem c_X9_has_14 (l : Launch) (D : va_G) (cI cZ cJ : ClassId) (o : Nat) (q : Nat → Nat) (x2 : Int32) (lo_x2 : 0 ≤ x2) (hi_x2 : x2 ≤ 15) : Met l yX9_has (uW yX9_has cX9_has 2 (some .boolean)) ({ frames := 0, cells := 0, slots := 0, locals := 0 }) (va_Pc [.int 0, .int 2] (pS D (tyL cI cZ cJ) (((((((mW o 0 q cI cZ).set 12 ((q 11), .inl (cI, 110, .inl (upd (fun _ => 0) (0 : Int32).toNatClampNeg 11)))).set 13 ((q 12), .inl (cI, 110, .inl (upd (fun _ => 0) (0 : Int32).toNatClampNeg x2)))).set 14 ((q 13), .inl (cI, 110, .inl (upd (fun _ => 0) (0 : Int32).toNatClampNeg 0)))).set 15 ((q 14), .inl (cI, 110, .inl (upd (fun _ => 0) (0 : Int32).toNatClampNeg 0)))).set 16 ((q 15), .inl (cI, 110, .inl (upd (fun _ => 0) (0 : Int32).toNatClampNeg (-1))))).set 17 ((q 16), .inl (cI, 110, .inl (upd (fun _ => 0) (0 : Int32).toNatClampNeg (-1))))))) (QcRead (0)) 0 0 (fun _ => False) := by
  refine rdStart (lv := [(0, .int 0), (1, .int 2)]) (by decide) (Nat.le_of_ble_eq_true rfl) rfl ?_
  intro p e s m args below meth c ls S hr hlocks hl hP hK
  have hx := S.1
  have hb := S.2.1
  refine lv_iload_n hx hb dX9_has_0 rfl (lv_at hl 0 rfl) ?_
  refine lv_iload_n hx hb dX9_has_1 rfl (lv_at hl 1 rfl) ?_
  refine xishr (v := 0) S dX9_has_2 (by decide) ?_
  refine lv_iconst (v := 1) hx hb dX9_has_3 (by decide) ?_
  refine xiand (v := 0) S dX9_has_4 (by decide) ?_
  refine lv_iconst (v := 1) hx hb dX9_has_5 (by decide) ?_
  refine lv_icmp_ne (tgt := 13) hx hb dX9_has_6 (by decide) (fun _ => ?_) (fun c => absurd c (by decide))
  refine lv_iconst (v := 0) hx hb dX9_has_13 (by decide) ?_
  exact rdEndZ S hr hlocks dX9_has_14 rfl rfl

set_option maxHeartbeats 8000000 in
set_option maxRecDepth 100000 in
theorem c_X9_part_14 (l : Launch) (D : va_G) (cI cZ cJ : ClassId) (o : Nat) (q : Nat → Nat) (x2 : Int32) (lo_x2 : 0 ≤ x2) (hi_x2 : x2 ≤ 15) : Met l yX9_part (uW yX9_part cX9_part 3 (some .int)) ({ frames := 1, cells := 0, slots := 0, locals := 21 }) (va_Pc [.ref o, .int 0, .int 2] (pS D (tyL cI cZ cJ) (((((((mW o 0 q cI cZ).set 12 ((q 11), .inl (cI, 110, .inl (upd (fun _ => 0) (0 : Int32).toNatClampNeg 11)))).set 13 ((q 12), .inl (cI, 110, .inl (upd (fun _ => 0) (0 : Int32).toNatClampNeg x2)))).set 14 ((q 13), .inl (cI, 110, .inl (upd (fun _ => 0) (0 : Int32).toNatClampNeg 0)))).set 15 ((q 14), .inl (cI, 110, .inl (upd (fun _ => 0) (0 : Int32).toNatClampNeg 0)))).set 16 ((q 15), .inl (cI, 110, .inl (upd (fun _ => 0) (0 : Int32).toNatClampNeg (-1))))).set 17 ((q 16), .inl (cI, 110, .inl (upd (fun _ => 0) (0 : Int32).toNatClampNeg (-1))))))) (QcRead ((-1))) 0 0 (fun _ => False) := by
  refine rdStart (lv := [(0, .ref o), (1, .int 0), (2, .int 2)]) (by decide) (Nat.le_of_ble_eq_true rfl) rfl ?_
  intro p e s m args below meth c ls S hr hlocks hl hP hK
  have hx := S.1
  have hb := S.2.1
  refine lv_aload_n hx hb dX9_part_0 rfl (lv_at hl 0 rfl) ?_
  refine xg (ci := 9) S inX9 rfl hK hP (q0 := 0) rfl 14 (by decide) mF_14 kw_6_162 rfl dX9_part_1 ?_
  refine lv_iload_n hx hb dX9_part_4 rfl (lv_at hl 1 rfl) ?_
  refine xiald (t0 := 0) (v := 11) S hK hP (q0 := 12) rfl rfl (vin rfl) rfl dX9_part_5 ?_
  refine rdS (As := [.int 11]) S (c_X9_parts_4 l D cI cZ cJ o q x2 lo_x2 hi_x2) ms_X9_parts kw_7_189 ⟨rfl, rfl⟩ ⟨Nat.le_of_ble_eq_true rfl, Nat.le_of_ble_eq_true rfl⟩ hP hK hl.1 (Nat.le_of_ble_eq_true rfl) ⟨Nat.le_of_ble_eq_true rfl, Nat.le_of_ble_eq_true rfl⟩ dX9_part_6 ?_
  refine lv_iload_n hx hb dX9_part_9 rfl (lv_at hl 2 rfl) ?_
  refine rdS (As := [.int 0, .int 2]) S (c_X9_has_14 l D cI cZ cJ o q x2 lo_x2 hi_x2) ms_X9_has kw_7_192 ⟨rfl, rfl⟩ ⟨Nat.le_of_ble_eq_true rfl, Nat.le_of_ble_eq_true rfl⟩ hP hK hl.1 (Nat.le_of_ble_eq_true rfl) ⟨Nat.le_of_ble_eq_true rfl, Nat.le_of_ble_eq_true rfl⟩ dX9_part_10 ?_
  refine lv_if_ne (tgt := 18) hx hb dX9_part_13 (by decide) (fun c => absurd c (by decide)) (fun _ => ?_)
  refine lv_iconst (v := (-1)) hx hb dX9_part_16 (by decide) ?_
  exact rdEnd S hr hlocks dX9_part_17 rfl

set_option maxHeartbeats 8000000 in
set_option maxRecDepth 100000 in
theorem c_X9_node_29 (l : Launch) (D : va_G) (cI cZ cJ : ClassId) (o : Nat) (q : Nat → Nat) (sz : Nat) (x2 : Int32) (lo_x2 : 0 ≤ x2) (hi_x2 : x2 ≤ 15) : Met l yX9_node (uW yX9_node cX9_node 6 (some .int)) ({ frames := 3, cells := 0, slots := 0, locals := 66 }) (va_Pc [.ref o, .int 11, .int x2, .int 0, .int 0] (wS D (tyL cI cZ cJ) (mW o 0 q cI cZ) sz)) (wQi (0) D ((((((((mW o 0 q cI cZ).set 0 (o, .inr (9, ((mF 0 q).set 13 (.int 1))))).set 12 ((q 11), .inl (cI, 110, .inl (upd (fun _ => 0) (0 : Int32).toNatClampNeg 11)))).set 13 ((q 12), .inl (cI, 110, .inl (upd (fun _ => 0) (0 : Int32).toNatClampNeg x2)))).set 14 ((q 13), .inl (cI, 110, .inl (upd (fun _ => 0) (0 : Int32).toNatClampNeg 0)))).set 15 ((q 14), .inl (cI, 110, .inl (upd (fun _ => 0) (0 : Int32).toNatClampNeg 0)))).set 16 ((q 15), .inl (cI, 110, .inl (upd (fun _ => 0) (0 : Int32).toNatClampNeg (-1))))).set 17 ((q 16), .inl (cI, 110, .inl (upd (fun _ => 0) (0 : Int32).toNatClampNeg (-1))))) (va_A (mW o 0 q cI cZ) sz)) 0 0 (va_A (mW o 0 q cI cZ) sz) := by
  refine wStart (lv := [(0, .ref o), (1, .int 11), (2, .int x2), (3, .int 0), (4, .int 0)]) (Qc := fun A => wQi (0) D ((((((((mW o 0 q cI cZ).set 0 (o, .inr (9, ((mF 0 q).set 13 (.int 1))))).set 12 ((q 11), .inl (cI, 110, .inl (upd (fun _ => 0) (0 : Int32).toNatClampNeg 11)))).set 13 ((q 12), .inl (cI, 110, .inl (upd (fun _ => 0) (0 : Int32).toNatClampNeg x2)))).set 14 ((q 13), .inl (cI, 110, .inl (upd (fun _ => 0) (0 : Int32).toNatClampNeg 0)))).set 15 ((q 14), .inl (cI, 110, .inl (upd (fun _ => 0) (0 : Int32).toNatClampNeg 0)))).set 16 ((q 15), .inl (cI, 110, .inl (upd (fun _ => 0) (0 : Int32).toNatClampNeg (-1))))).set 17 ((q 16), .inl (cI, 110, .inl (upd (fun _ => 0) (0 : Int32).toNatClampNeg (-1))))) A) (by decide) (Nat.le_of_ble_eq_true rfl) rfl ?_
  intro p e s m args below meth c ls A H S hr hlocks hnm hl hK hP hD hS hA
  have hx := S.1
  have hb := S.2.1
  refine lv_aload_n hx hb dX9_node_0 rfl (lv_at hl 0 rfl) ?_
  refine lv_iconst (v := 0) hx hb dX9_node_1 (by decide) ?_
  refine xp (ci := 9) (v := .int 0) S inX9 tyX9 tyX9_ok nmX9 rfl hK hP hD hS mW_0 0 (by decide) kw_6_148 rfl rfl rfl rfl (Nat.le_of_ble_eq_true rfl) dX9_node_2 (fun H locs hP hD hS => ?_)
  have hP : va_P D vwCl (mW o 0 q cI cZ) H := hP
  have hD : va_D A (mW o 0 q cI cZ) := hD
  refine lv_iload_n hx hb dX9_node_5 rfl (lv_at hl 1 rfl) ?_
  refine lv_iconst (v := 0) hx hb dX9_node_6 (by decide) ?_
  refine lv_bipush (v := 21) hx hb dX9_node_7 (by decide) ?_
  refine rdS (As := [.int 11, .int 0, .int 21]) S (c_X9_isIn_50 l D cI cZ cJ o q) ms_X9_isIn kw_7_101 ⟨rfl, rfl⟩ ⟨Nat.le_of_ble_eq_true rfl, Nat.le_of_ble_eq_true rfl⟩ hP hK hl.1 (Nat.le_of_ble_eq_true rfl) ⟨Nat.le_of_ble_eq_true rfl, Nat.le_of_ble_eq_true rfl⟩ dX9_node_9 ?_
  refine lv_if_eq (tgt := 27) hx hb dX9_node_12 (by decide) (fun c => absurd c (by decide)) (fun _ => ?_)
  refine lv_aload_n hx hb dX9_node_15 rfl (lv_at hl 0 rfl) ?_
  refine lv_iload_n hx hb dX9_node_16 rfl (lv_at hl 1 rfl) ?_
  refine lv_iload_n hx hb dX9_node_17 rfl (lv_at hl 2 rfl) ?_
  refine lv_iload_n hx hb dX9_node_18 rfl (lv_at hl 3 rfl) ?_
  refine lv_iload hx hb dX9_node_19 (lv_at hl 4 rfl) ?_
  refine rdV (As := [.int 11, .int x2, .int 0, .int 0]) (ci := 9) S (c_X9_canBe_29 l D cI cZ cJ o q x2 lo_x2 hi_x2) mi_X9_canBe kw_7_155 ⟨rfl, rfl⟩ ⟨Nat.le_of_ble_eq_true rfl, Nat.le_of_ble_eq_true rfl⟩ hP hK mW_0 rfl rfl hl.1 (Nat.le_of_ble_eq_true rfl) ⟨Nat.le_of_ble_eq_true rfl, Nat.le_of_ble_eq_true rfl⟩ dX9_node_21 ?_
  refine lv_if_ne (tgt := 33) hx hb dX9_node_24 (by decide) (fun _ => ?_) (fun c => absurd c (by decide))
  refine lv_aload_n hx hb dX9_node_33 rfl (lv_at hl 0 rfl) ?_
  refine xg (ci := 9) S inX9 rfl hK hP mW_0 13 (by decide) mF_13 kw_6_161 rfl dX9_node_34 ?_
  refine lv_bipush (v := 110) hx hb dX9_node_37 (by decide) ?_
  refine lv_icmp_ne (tgt := 48) hx hb dX9_node_39 (by decide) (fun _ => ?_) (fun c => absurd c (by decide))
  refine lv_aload_n hx hb dX9_node_48 rfl (lv_at hl 0 rfl) ?_
  refine xg (ci := 9) S inX9 rfl hK hP mW_0 14 (by decide) mF_14 kw_6_162 rfl dX9_node_49 ?_
  refine lv_aload_n hx hb dX9_node_52 rfl (lv_at hl 0 rfl) ?_
  refine xg (ci := 9) S inX9 rfl hK hP mW_0 13 (by decide) mF_13 kw_6_161 rfl dX9_node_53 ?_
  refine lv_iload_n hx hb dX9_node_56 rfl (lv_at hl 1 rfl) ?_
  refine xiast (t0 := 0) S hK hP hD hS mW_12 rfl (vin rfl) dX9_node_57 (fun H locs hP hD hS => ?_)
  have hP : va_P D vwCl ((mW o 0 q cI cZ).set 12 ((q 11), .inl (cI, 110, .inl (upd (fun _ => 0) (0 : Int32).toNatClampNeg 11)))) H := hP
  have hD : va_D A ((mW o 0 q cI cZ).set 12 ((q 11), .inl (cI, 110, .inl (upd (fun _ => 0) (0 : Int32).toNatClampNeg 11)))) := hD
  refine lv_aload_n hx hb dX9_node_58 rfl (lv_at hl 0 rfl) ?_
  refine xg (ci := 9) S inX9 rfl hK hP (q0 := 0) rfl 15 (by decide) mF_15 kw_6_163 rfl dX9_node_59 ?_
  refine lv_aload_n hx hb dX9_node_62 rfl (lv_at hl 0 rfl) ?_
  refine xg (ci := 9) S inX9 rfl hK hP (q0 := 0) rfl 13 (by decide) mF_13 kw_6_161 rfl dX9_node_63 ?_
  refine lv_iload_n hx hb dX9_node_66 rfl (lv_at hl 2 rfl) ?_
  refine xiast (t0 := 0) S hK hP hD hS (q0 := 13) rfl rfl (vin rfl) dX9_node_67 (fun H locs hP hD hS => ?_)
  have hP : va_P D vwCl (((mW o 0 q cI cZ).set 12 ((q 11), .inl (cI, 110, .inl (upd (fun _ => 0) (0 : Int32).toNatClampNeg 11)))).set 13 ((q 12), .inl (cI, 110, .inl (upd (fun _ => 0) (0 : Int32).toNatClampNeg x2)))) H := hP
  have hD : va_D A (((mW o 0 q cI cZ).set 12 ((q 11), .inl (cI, 110, .inl (upd (fun _ => 0) (0 : Int32).toNatClampNeg 11)))).set 13 ((q 12), .inl (cI, 110, .inl (upd (fun _ => 0) (0 : Int32).toNatClampNeg x2)))) := hD
  refine lv_aload_n hx hb dX9_node_68 rfl (lv_at hl 0 rfl) ?_
  refine xg (ci := 9) S inX9 rfl hK hP (q0 := 0) rfl 16 (by decide) mF_16 kw_6_164 rfl dX9_node_69 ?_
  refine lv_aload_n hx hb dX9_node_72 rfl (lv_at hl 0 rfl) ?_
  refine xg (ci := 9) S inX9 rfl hK hP (q0 := 0) rfl 13 (by decide) mF_13 kw_6_161 rfl dX9_node_73 ?_
  refine lv_iload_n hx hb dX9_node_76 rfl (lv_at hl 3 rfl) ?_
  refine xiast (t0 := 0) S hK hP hD hS (q0 := 14) rfl rfl (vin rfl) dX9_node_77 (fun H locs hP hD hS => ?_)
  have hP : va_P D vwCl ((((mW o 0 q cI cZ).set 12 ((q 11), .inl (cI, 110, .inl (upd (fun _ => 0) (0 : Int32).toNatClampNeg 11)))).set 13 ((q 12), .inl (cI, 110, .inl (upd (fun _ => 0) (0 : Int32).toNatClampNeg x2)))).set 14 ((q 13), .inl (cI, 110, .inl (upd (fun _ => 0) (0 : Int32).toNatClampNeg 0)))) H := hP
  have hD : va_D A ((((mW o 0 q cI cZ).set 12 ((q 11), .inl (cI, 110, .inl (upd (fun _ => 0) (0 : Int32).toNatClampNeg 11)))).set 13 ((q 12), .inl (cI, 110, .inl (upd (fun _ => 0) (0 : Int32).toNatClampNeg x2)))).set 14 ((q 13), .inl (cI, 110, .inl (upd (fun _ => 0) (0 : Int32).toNatClampNeg 0)))) := hD
  refine lv_aload_n hx hb dX9_node_78 rfl (lv_at hl 0 rfl) ?_
  refine xg (ci := 9) S inX9 rfl hK hP (q0 := 0) rfl 17 (by decide) mF_17 kw_6_165 rfl dX9_node_79 ?_
  refine lv_aload_n hx hb dX9_node_82 rfl (lv_at hl 0 rfl) ?_
  refine xg (ci := 9) S inX9 rfl hK hP (q0 := 0) rfl 13 (by decide) mF_13 kw_6_161 rfl dX9_node_83 ?_
  refine lv_iload hx hb dX9_node_86 (lv_at hl 4 rfl) ?_
  refine xiast (t0 := 0) S hK hP hD hS (q0 := 15) rfl rfl (vin rfl) dX9_node_88 (fun H locs hP hD hS => ?_)
  have hP : va_P D vwCl (((((mW o 0 q cI cZ).set 12 ((q 11), .inl (cI, 110, .inl (upd (fun _ => 0) (0 : Int32).toNatClampNeg 11)))).set 13 ((q 12), .inl (cI, 110, .inl (upd (fun _ => 0) (0 : Int32).toNatClampNeg x2)))).set 14 ((q 13), .inl (cI, 110, .inl (upd (fun _ => 0) (0 : Int32).toNatClampNeg 0)))).set 15 ((q 14), .inl (cI, 110, .inl (upd (fun _ => 0) (0 : Int32).toNatClampNeg 0)))) H := hP
  have hD : va_D A (((((mW o 0 q cI cZ).set 12 ((q 11), .inl (cI, 110, .inl (upd (fun _ => 0) (0 : Int32).toNatClampNeg 11)))).set 13 ((q 12), .inl (cI, 110, .inl (upd (fun _ => 0) (0 : Int32).toNatClampNeg x2)))).set 14 ((q 13), .inl (cI, 110, .inl (upd (fun _ => 0) (0 : Int32).toNatClampNeg 0)))).set 15 ((q 14), .inl (cI, 110, .inl (upd (fun _ => 0) (0 : Int32).toNatClampNeg 0)))) := hD
  refine lv_aload_n hx hb dX9_node_89 rfl (lv_at hl 0 rfl) ?_
  refine xg (ci := 9) S inX9 rfl hK hP (q0 := 0) rfl 18 (by decide) mF_18 kw_6_166 rfl dX9_node_90 ?_
  refine lv_aload_n hx hb dX9_node_93 rfl (lv_at hl 0 rfl) ?_
  refine xg (ci := 9) S inX9 rfl hK hP (q0 := 0) rfl 13 (by decide) mF_13 kw_6_161 rfl dX9_node_94 ?_
  refine lv_iconst (v := (-1)) hx hb dX9_node_97 (by decide) ?_
  refine xiast (t0 := 0) S hK hP hD hS (q0 := 16) rfl rfl (vin rfl) dX9_node_98 (fun H locs hP hD hS => ?_)
  have hP : va_P D vwCl ((((((mW o 0 q cI cZ).set 12 ((q 11), .inl (cI, 110, .inl (upd (fun _ => 0) (0 : Int32).toNatClampNeg 11)))).set 13 ((q 12), .inl (cI, 110, .inl (upd (fun _ => 0) (0 : Int32).toNatClampNeg x2)))).set 14 ((q 13), .inl (cI, 110, .inl (upd (fun _ => 0) (0 : Int32).toNatClampNeg 0)))).set 15 ((q 14), .inl (cI, 110, .inl (upd (fun _ => 0) (0 : Int32).toNatClampNeg 0)))).set 16 ((q 15), .inl (cI, 110, .inl (upd (fun _ => 0) (0 : Int32).toNatClampNeg (-1))))) H := hP
  have hD : va_D A ((((((mW o 0 q cI cZ).set 12 ((q 11), .inl (cI, 110, .inl (upd (fun _ => 0) (0 : Int32).toNatClampNeg 11)))).set 13 ((q 12), .inl (cI, 110, .inl (upd (fun _ => 0) (0 : Int32).toNatClampNeg x2)))).set 14 ((q 13), .inl (cI, 110, .inl (upd (fun _ => 0) (0 : Int32).toNatClampNeg 0)))).set 15 ((q 14), .inl (cI, 110, .inl (upd (fun _ => 0) (0 : Int32).toNatClampNeg 0)))).set 16 ((q 15), .inl (cI, 110, .inl (upd (fun _ => 0) (0 : Int32).toNatClampNeg (-1))))) := hD
  refine lv_aload_n hx hb dX9_node_99 rfl (lv_at hl 0 rfl) ?_
  refine xg (ci := 9) S inX9 rfl hK hP (q0 := 0) rfl 19 (by decide) mF_19 kw_6_167 rfl dX9_node_100 ?_
  refine lv_aload_n hx hb dX9_node_103 rfl (lv_at hl 0 rfl) ?_
  refine xg (ci := 9) S inX9 rfl hK hP (q0 := 0) rfl 13 (by decide) mF_13 kw_6_161 rfl dX9_node_104 ?_
  refine lv_iconst (v := (-1)) hx hb dX9_node_107 (by decide) ?_
  refine xiast (t0 := 0) S hK hP hD hS (q0 := 17) rfl rfl (vin rfl) dX9_node_108 (fun H locs hP hD hS => ?_)
  have hP : va_P D vwCl (((((((mW o 0 q cI cZ).set 12 ((q 11), .inl (cI, 110, .inl (upd (fun _ => 0) (0 : Int32).toNatClampNeg 11)))).set 13 ((q 12), .inl (cI, 110, .inl (upd (fun _ => 0) (0 : Int32).toNatClampNeg x2)))).set 14 ((q 13), .inl (cI, 110, .inl (upd (fun _ => 0) (0 : Int32).toNatClampNeg 0)))).set 15 ((q 14), .inl (cI, 110, .inl (upd (fun _ => 0) (0 : Int32).toNatClampNeg 0)))).set 16 ((q 15), .inl (cI, 110, .inl (upd (fun _ => 0) (0 : Int32).toNatClampNeg (-1))))).set 17 ((q 16), .inl (cI, 110, .inl (upd (fun _ => 0) (0 : Int32).toNatClampNeg (-1))))) H := hP
  have hD : va_D A (((((((mW o 0 q cI cZ).set 12 ((q 11), .inl (cI, 110, .inl (upd (fun _ => 0) (0 : Int32).toNatClampNeg 11)))).set 13 ((q 12), .inl (cI, 110, .inl (upd (fun _ => 0) (0 : Int32).toNatClampNeg x2)))).set 14 ((q 13), .inl (cI, 110, .inl (upd (fun _ => 0) (0 : Int32).toNatClampNeg 0)))).set 15 ((q 14), .inl (cI, 110, .inl (upd (fun _ => 0) (0 : Int32).toNatClampNeg 0)))).set 16 ((q 15), .inl (cI, 110, .inl (upd (fun _ => 0) (0 : Int32).toNatClampNeg (-1))))).set 17 ((q 16), .inl (cI, 110, .inl (upd (fun _ => 0) (0 : Int32).toNatClampNeg (-1))))) := hD
  refine lv_iconst (v := 0) hx hb dX9_node_109 (by decide) ?_
  refine lv_istore (lv' := [(5, .int 0), (0, .ref o), (1, .int 11), (2, .int x2), (3, .int 0), (4, .int 0)]) hx hb dX9_node_110 hl (by decide) rfl (fun ls hl => ?_)
  refine lv_iload hx hb dX9_node_112 (lv_at hl 0 rfl) ?_
  refine lv_iconst (v := 3) hx hb dX9_node_114 (by decide) ?_
  refine lv_icmp_ge (tgt := 157) hx hb dX9_node_115 (by decide) (fun c => absurd c (by decide)) (fun _ => ?_)
  refine lv_aload_n hx hb dX9_node_118 rfl (lv_at hl 1 rfl) ?_
  refine lv_aload_n hx hb dX9_node_119 rfl (lv_at hl 1 rfl) ?_
  refine xg (ci := 9) S inX9 rfl hK hP (q0 := 0) rfl 13 (by decide) mF_13 kw_6_161 rfl dX9_node_120 ?_
  refine lv_iload hx hb dX9_node_123 (lv_at hl 0 rfl) ?_
  refine rdV (As := [.int 0, .int 0]) (ci := 9) S (c_X9_part_12 l D cI cZ cJ o q x2 lo_x2 hi_x2) mi_X9_part kw_7_185 ⟨rfl, rfl⟩ ⟨Nat.le_of_ble_eq_true rfl, Nat.le_of_ble_eq_true rfl⟩ hP hK (k := 0) rfl rfl rfl hl.1 (Nat.le_of_ble_eq_true rfl) ⟨Nat.le_of_ble_eq_true rfl, Nat.le_of_ble_eq_true rfl⟩ dX9_node_125 ?_
  refine lv_iconst (v := (-1)) hx hb dX9_node_128 (by decide) ?_
  refine lv_icmp_eq (tgt := 151) hx hb dX9_node_129 (by decide) (fun _ => ?_) (fun c => absurd c (by decide))
  refine lv_iinc (v := 1) (lv' := [(5, .int 1), (0, .ref o), (1, .int 11), (2, .int x2), (3, .int 0), (4, .int 0)]) hx hb dX9_node_151 hl (k := 0) rfl (by decide) (by decide) rfl (fun ls hl => ?_)
  refine lv_goto (tgt := 112) hx hb dX9_node_154 (by decide) ?_
  refine lv_iload hx hb dX9_node_112 (lv_at hl 0 rfl) ?_
  refine lv_iconst (v := 3) hx hb dX9_node_114 (by decide) ?_
  refine lv_icmp_ge (tgt := 157) hx hb dX9_node_115 (by decide) (fun c => absurd c (by decide)) (fun _ => ?_)
  refine lv_aload_n hx hb dX9_node_118 rfl (lv_at hl 1 rfl) ?_
  refine lv_aload_n hx hb dX9_node_119 rfl (lv_at hl 1 rfl) ?_
  refine xg (ci := 9) S inX9 rfl hK hP (q0 := 0) rfl 13 (by decide) mF_13 kw_6_161 rfl dX9_node_120 ?_
  refine lv_iload hx hb dX9_node_123 (lv_at hl 0 rfl) ?_
  refine rdV (As := [.int 0, .int 1]) (ci := 9) S (c_X9_part_13 l D cI cZ cJ o q x2 lo_x2 hi_x2) mi_X9_part kw_7_185 ⟨rfl, rfl⟩ ⟨Nat.le_of_ble_eq_true rfl, Nat.le_of_ble_eq_true rfl⟩ hP hK (k := 0) rfl rfl rfl hl.1 (Nat.le_of_ble_eq_true rfl) ⟨Nat.le_of_ble_eq_true rfl, Nat.le_of_ble_eq_true rfl⟩ dX9_node_125 ?_
  refine lv_iconst (v := (-1)) hx hb dX9_node_128 (by decide) ?_
  refine lv_icmp_eq (tgt := 151) hx hb dX9_node_129 (by decide) (fun _ => ?_) (fun c => absurd c (by decide))
  refine lv_iinc (v := 2) (lv' := [(5, .int 2), (0, .ref o), (1, .int 11), (2, .int x2), (3, .int 0), (4, .int 0)]) hx hb dX9_node_151 hl (k := 0) rfl (by decide) (by decide) rfl (fun ls hl => ?_)
  refine lv_goto (tgt := 112) hx hb dX9_node_154 (by decide) ?_
  refine lv_iload hx hb dX9_node_112 (lv_at hl 0 rfl) ?_
  refine lv_iconst (v := 3) hx hb dX9_node_114 (by decide) ?_
  refine lv_icmp_ge (tgt := 157) hx hb dX9_node_115 (by decide) (fun c => absurd c (by decide)) (fun _ => ?_)
  refine lv_aload_n hx hb dX9_node_118 rfl (lv_at hl 1 rfl) ?_
  refine lv_aload_n hx hb dX9_node_119 rfl (lv_at hl 1 rfl) ?_
  refine xg (ci := 9) S inX9 rfl hK hP (q0 := 0) rfl 13 (by decide) mF_13 kw_6_161 rfl dX9_node_120 ?_
  refine lv_iload hx hb dX9_node_123 (lv_at hl 0 rfl) ?_
  refine rdV (As := [.int 0, .int 2]) (ci := 9) S (c_X9_part_14 l D cI cZ cJ o q x2 lo_x2 hi_x2) mi_X9_part kw_7_185 ⟨rfl, rfl⟩ ⟨Nat.le_of_ble_eq_true rfl, Nat.le_of_ble_eq_true rfl⟩ hP hK (k := 0) rfl rfl rfl hl.1 (Nat.le_of_ble_eq_true rfl) ⟨Nat.le_of_ble_eq_true rfl, Nat.le_of_ble_eq_true rfl⟩ dX9_node_125 ?_
  refine lv_iconst (v := (-1)) hx hb dX9_node_128 (by decide) ?_
  refine lv_icmp_eq (tgt := 151) hx hb dX9_node_129 (by decide) (fun _ => ?_) (fun c => absurd c (by decide))
  refine lv_iinc (v := 3) (lv' := [(5, .int 3), (0, .ref o), (1, .int 11), (2, .int x2), (3, .int 0), (4, .int 0)]) hx hb dX9_node_151 hl (k := 0) rfl (by decide) (by decide) rfl (fun ls hl => ?_)
  refine lv_goto (tgt := 112) hx hb dX9_node_154 (by decide) ?_
  refine lv_iload hx hb dX9_node_112 (lv_at hl 0 rfl) ?_
  refine lv_iconst (v := 3) hx hb dX9_node_114 (by decide) ?_
  refine lv_icmp_ge (tgt := 157) hx hb dX9_node_115 (by decide) (fun _ => ?_) (fun c => absurd c (by decide))
  refine lv_aload_n hx hb dX9_node_157 rfl (lv_at hl 1 rfl) ?_
  refine lv_dup hx hb dX9_node_158 rfl ?_
  refine xg (ci := 9) S inX9 rfl hK hP (q0 := 0) rfl 13 (by decide) mF_13 kw_6_161 rfl dX9_node_159 ?_
  refine lv_dup_x1 hx hb dX9_node_162 rfl rfl ?_
  refine lv_iconst (v := 1) hx hb dX9_node_163 (by decide) ?_
  refine xiadd (v := 1) S dX9_node_164 (by decide) ?_
  refine xp (ci := 9) (v := .int 1) S inX9 tyX9 tyX9_ok nmX9 rfl hK hP hD hS (q0 := 0) rfl 13 (by decide) kw_6_161 rfl rfl rfl rfl (Nat.le_of_ble_eq_true rfl) dX9_node_165 (fun H locs hP hD hS => ?_)
  have hP : va_P D vwCl ((((((((mW o 0 q cI cZ).set 0 (o, .inr (9, ((mF 0 q).set 13 (.int 1))))).set 12 ((q 11), .inl (cI, 110, .inl (upd (fun _ => 0) (0 : Int32).toNatClampNeg 11)))).set 13 ((q 12), .inl (cI, 110, .inl (upd (fun _ => 0) (0 : Int32).toNatClampNeg x2)))).set 14 ((q 13), .inl (cI, 110, .inl (upd (fun _ => 0) (0 : Int32).toNatClampNeg 0)))).set 15 ((q 14), .inl (cI, 110, .inl (upd (fun _ => 0) (0 : Int32).toNatClampNeg 0)))).set 16 ((q 15), .inl (cI, 110, .inl (upd (fun _ => 0) (0 : Int32).toNatClampNeg (-1))))).set 17 ((q 16), .inl (cI, 110, .inl (upd (fun _ => 0) (0 : Int32).toNatClampNeg (-1))))) H := hP
  have hD : va_D A ((((((((mW o 0 q cI cZ).set 0 (o, .inr (9, ((mF 0 q).set 13 (.int 1))))).set 12 ((q 11), .inl (cI, 110, .inl (upd (fun _ => 0) (0 : Int32).toNatClampNeg 11)))).set 13 ((q 12), .inl (cI, 110, .inl (upd (fun _ => 0) (0 : Int32).toNatClampNeg x2)))).set 14 ((q 13), .inl (cI, 110, .inl (upd (fun _ => 0) (0 : Int32).toNatClampNeg 0)))).set 15 ((q 14), .inl (cI, 110, .inl (upd (fun _ => 0) (0 : Int32).toNatClampNeg 0)))).set 16 ((q 15), .inl (cI, 110, .inl (upd (fun _ => 0) (0 : Int32).toNatClampNeg (-1))))).set 17 ((q 16), .inl (cI, 110, .inl (upd (fun _ => 0) (0 : Int32).toNatClampNeg (-1))))) := hD
  exact wEnd S hr hlocks hP hD hS (Nat.le_of_ble_eq_true rfl) (Nat.le_of_ble_eq_true rfl) dX9_node_168 rfl

set_option maxHeartbeats 8000000 in
set_option maxRecDepth 100000 in
theorem c_X9_thrown_13 (l : Launch) (D : va_G) (cI cZ cJ : ClassId) (o : Nat) (q : Nat → Nat) (x2 : Int32) (lo_x2 : 0 ≤ x2) (hi_x2 : x2 ≤ 15) : Met l yX9_thrown (uW yX9_thrown cX9_thrown 1 (some .int)) ({ frames := 0, cells := 0, slots := 0, locals := 0 }) (va_Pc [.ref o] (pS D (tyL cI cZ cJ) ((((((((mW o 0 q cI cZ).set 0 (o, .inr (9, ((mF 0 q).set 13 (.int 1))))).set 12 ((q 11), .inl (cI, 110, .inl (upd (fun _ => 0) (0 : Int32).toNatClampNeg 11)))).set 13 ((q 12), .inl (cI, 110, .inl (upd (fun _ => 0) (0 : Int32).toNatClampNeg x2)))).set 14 ((q 13), .inl (cI, 110, .inl (upd (fun _ => 0) (0 : Int32).toNatClampNeg 0)))).set 15 ((q 14), .inl (cI, 110, .inl (upd (fun _ => 0) (0 : Int32).toNatClampNeg 0)))).set 16 ((q 15), .inl (cI, 110, .inl (upd (fun _ => 0) (0 : Int32).toNatClampNeg (-1))))).set 17 ((q 16), .inl (cI, 110, .inl (upd (fun _ => 0) (0 : Int32).toNatClampNeg (-1))))))) (QcRead (0)) 0 0 (fun _ => False) := by
  refine rdStart (lv := [(0, .ref o)]) (by decide) (Nat.le_of_ble_eq_true rfl) rfl ?_
  intro p e s m args below meth c ls S hr hlocks hl hP hK
  have hx := S.1
  have hb := S.2.1
  refine lv_aload_n hx hb dX9_thrown_0 rfl (lv_at hl 0 rfl) ?_
  refine xg (ci := 9) S inX9 rfl hK hP (q0 := 0) rfl 0 (by decide) rfl kw_6_148 rfl dX9_thrown_1 ?_
  exact rdEnd S hr hlocks dX9_thrown_4 rfl

set_option maxHeartbeats 8000000 in
set_option maxRecDepth 100000 in
theorem h_node_30 (l : Launch) (D : va_G) (cI cZ cJ : ClassId) (o : Nat) (u : Nat → Nat) (ao : Nat) (hst : l.stackTraces = false) (ra ga : Nat → Nat) (sz : Nat) (x2 : Int32) (x4 : Int32) (lo_x2 : 0 ≤ x2) (hi_x2 : x2 ≤ 15) (ne_x4_0 : ¬ x4 = 0) : vx_Met l yL_node (uWh yL_node cL_node 7 (some .int) [(0, 14, 17, 15), (0, 14, 21, 17)]) ({ frames := 8, cells := 1, slots := 6, locals := 126 }) (va_Pc [.ref o, .int 11, .int x2, .int 0, .int x4, .ref ao] (lS ra ga D (tyL cI cZ cJ) ((xW o u cI cZ cJ) ++ [(ao, .inl (cJ, 1, .inr (.inl (fun _ => 0))))]) sz)) (wQi (1) D ((xW o u cI cZ cJ) ++ [(ao, .inl (cJ, 1, .inr (.inl (fun _ => 0))))]) (va_A ((xW o u cI cZ cJ) ++ [(ao, .inl (cJ, 1, .inr (.inl (fun _ => 0))))]) sz)) (xN (va_A ((xW o u cI cZ cJ) ++ [(ao, .inl (cJ, 1, .inr (.inl (fun _ => 0))))]) sz)) 1 6 (va_A ((xW o u cI cZ cJ) ++ [(ao, .inl (cJ, 1, .inr (.inl (fun _ => 0))))]) sz) := by
  refine hStart (l := l) (y := yL_node) (b := cL_node) (n := 7) (r := (some .int)) (hh := [(0, 14, 17, 15), (0, 14, 21, 17)]) (rm := ({ frames := 8, cells := 1, slots := 6, locals := 126 })) (mc := 1) (ms := 6) (ra := ra) (ga := ga) (D := D) (tys := tyL cI cZ cJ) (ws := ((xW o u cI cZ cJ) ++ [(ao, .inl (cJ, 1, .inr (.inl (fun _ => 0))))])) (av := [.ref o, .int 11, .int x2, .int 0, .int x4, .ref ao]) (sz := sz) (lv := [(0, .ref o), (1, .int 11), (2, .int x2), (3, .int 0), (4, .int x4), (5, .ref ao)]) (Qc := fun A => wQi (1) D ((xW o u cI cZ cJ) ++ [(ao, .inl (cJ, 1, .inr (.inl (fun _ => 0))))]) A) (by decide) (Nat.le_of_ble_eq_true rfl) rfl ?_
  intro p e s m args below meth c ls A H S hr hlocks htab hl hK hP hD hS hA hB hC
  have hx := S.1
  have hb := S.2.1
  refine lv_aload hx hb dL_node_0 (lv_at hl 5 rfl) ?_
  refine lv_iconst (v := 0) hx hb dL_node_2 (by decide) ?_
  refine lv_aload_n hx hb dL_node_3 rfl (lv_at hl 0 rfl) ?_
  refine lv_iload_n hx hb dL_node_4 rfl (lv_at hl 1 rfl) ?_
  refine lv_iload_n hx hb dL_node_5 rfl (lv_at hl 2 rfl) ?_
  refine lv_iload_n hx hb dL_node_6 rfl (lv_at hl 3 rfl) ?_
  refine lv_iload hx hb dL_node_7 (lv_at hl 4 rfl) ?_
  refine cVi [] [(ao, .inl (cJ, 1, .inr (.inl (fun _ => 0))))] (As := [.int 11, .int x2, .int 0, .int x4]) (ci := 8) S (c_X8_node_30 l D cI cZ cJ o u hst ra ga H.size x2 x4 lo_x2 hi_x2 ne_x4_0) mi_X8_node kw_6_23 rfl rfl ⟨Nat.le_of_ble_eq_true rfl, Nat.le_of_ble_eq_true rfl⟩ hP hD hK hS hA hB xW_0 rfl rfl hl.1 (Nat.le_of_ble_eq_true rfl) ⟨Nat.le_of_ble_eq_true rfl, Nat.le_of_ble_eq_true rfl⟩ dL_node_9 (fun ce q9 H locs hz hP hD hS hce hcv hcl => ?_)
  refine vx_catch (name := "java/lang/IllegalArgumentException") S.2.2.2.1 [] (⟨0, 14, 17, 15⟩ : ExceptionTableEntry) [(⟨0, 14, 21, 17⟩ : ExceptionTableEntry)] (htab.trans rfl) (fun _ h => absurd h List.not_mem_nil) (by decide) (by decide) (S.2.2.2.2 _ kw_5_177) (va_Nw.use rfl hB.c1) hce hcv hcl ?_
  have hP : va_P D vwCl ((xW o u cI cZ cJ) ++ [(ao, .inl (cJ, 1, .inr (.inl (fun _ => 0))))]) H := hP
  have hD : va_D A ((xW o u cI cZ cJ) ++ [(ao, .inl (cJ, 1, .inr (.inl (fun _ => 0))))]) := hD
  refine lv_astore (lv' := [(6, .ref q9), (0, .ref o), (1, .int 11), (2, .int x2), (3, .int 0), (4, .int x4), (5, .ref ao)]) hx hb dL_node_17 hl (by decide) rfl (fun ls hl => ?_)
  refine lv_iconst (v := 1) hx hb dL_node_19 (by decide) ?_
  exact vx_ret (wEnd S hr hlocks hP hD hS (Nat.le_of_ble_eq_true rfl) (Nat.le_of_ble_eq_true rfl) dL_node_20 rfl)

set_option maxHeartbeats 8000000 in
set_option maxRecDepth 100000 in
theorem c_X9_canBe_30 (l : Launch) (D : va_G) (cI cZ cJ : ClassId) (o : Nat) (q : Nat → Nat) (x2 : Int32) (x4 : Int32) (lo_x2 : 0 ≤ x2) (hi_x2 : x2 ≤ 15) (ne_x4_0 : ¬ x4 = 0) : Met l yX9_canBe (uW yX9_canBe cX9_canBe 5 (some .boolean)) ({ frames := 2, cells := 0, slots := 0, locals := 42 }) (va_Pc [.ref o, .int 11, .int x2, .int 0, .int x4] (pS D (tyL cI cZ cJ) (mW o 0 q cI cZ))) (QcRead (0)) 0 0 (fun _ => False) := by
  refine rdStart (lv := [(0, .ref o), (1, .int 11), (2, .int x2), (3, .int 0), (4, .int x4)]) (by decide) (Nat.le_of_ble_eq_true rfl) rfl ?_
  intro p e s m args below meth c ls S hr hlocks hl hP hK
  have hx := S.1
  have hb := S.2.1
  refine lv_iload_n hx hb dX9_canBe_0 rfl (lv_at hl 1 rfl) ?_
  refine lv_tableIn (off := 131) (tgt := 132) hx hb dX9_canBe_1 (by decide) (by decide) (by decide) (by decide) ?_
  refine lv_iload_n hx hb dX9_canBe_132 rfl (lv_at hl 2 rfl) ?_
  refine rdS (As := [.int x2]) S (c_X9_isName_2 l D cI cZ cJ o q x2 lo_x2 hi_x2) ms_X9_isName kw_7_108 ⟨rfl, rfl⟩ ⟨Nat.le_of_ble_eq_true rfl, Nat.le_of_ble_eq_true rfl⟩ hP hK hl.1 (Nat.le_of_ble_eq_true rfl) ⟨Nat.le_of_ble_eq_true rfl, Nat.le_of_ble_eq_true rfl⟩ dX9_canBe_133 ?_
  refine lv_if_eq (tgt := 152) hx hb dX9_canBe_136 (by decide) (fun c => absurd c (by decide)) (fun _ => ?_)
  refine lv_iload_n hx hb dX9_canBe_139 rfl (lv_at hl 3 rfl) ?_
  refine lv_if_ne (tgt := 152) hx hb dX9_canBe_140 (by decide) (fun c => absurd c (by decide)) (fun _ => ?_)
  refine lv_iload hx hb dX9_canBe_143 (lv_at hl 4 rfl) ?_
  refine lv_if_ne (tgt := 152) hx hb dX9_canBe_145 (by decide) (fun _ => ?_) (fun c => absurd c ne_x4_0)
  refine lv_iconst (v := 0) hx hb dX9_canBe_152 (by decide) ?_
  exact rdEndZ S hr hlocks dX9_canBe_153 rfl rfl

set_option maxHeartbeats 8000000 in
set_option maxRecDepth 100000 in
theorem c_X9_node_30 (l : Launch) (D : va_G) (cI cZ cJ : ClassId) (o : Nat) (q : Nat → Nat) (sz : Nat) (x2 : Int32) (x4 : Int32) (lo_x2 : 0 ≤ x2) (hi_x2 : x2 ≤ 15) (ne_x4_0 : ¬ x4 = 0) : Met l yX9_node (uW yX9_node cX9_node 6 (some .int)) ({ frames := 3, cells := 0, slots := 0, locals := 66 }) (va_Pc [.ref o, .int 11, .int x2, .int 0, .int x4] (wS D (tyL cI cZ cJ) (mW o 0 q cI cZ) sz)) (wQi (0) D (mW o 1 q cI cZ) (va_A (mW o 0 q cI cZ) sz)) 0 0 (va_A (mW o 0 q cI cZ) sz) := by
  refine wStart (lv := [(0, .ref o), (1, .int 11), (2, .int x2), (3, .int 0), (4, .int x4)]) (Qc := fun A => wQi (0) D (mW o 1 q cI cZ) A) (by decide) (Nat.le_of_ble_eq_true rfl) rfl ?_
  intro p e s m args below meth c ls A H S hr hlocks hnm hl hK hP hD hS hA
  have hx := S.1
  have hb := S.2.1
  refine lv_aload_n hx hb dX9_node_0 rfl (lv_at hl 0 rfl) ?_
  refine lv_iconst (v := 0) hx hb dX9_node_1 (by decide) ?_
  refine xp (ci := 9) (v := .int 0) S inX9 tyX9 tyX9_ok nmX9 rfl hK hP hD hS mW_0 0 (by decide) kw_6_148 rfl rfl rfl rfl (Nat.le_of_ble_eq_true rfl) dX9_node_2 (fun H locs hP hD hS => ?_)
  have hP : va_P D vwCl (mW o 0 q cI cZ) H := hP
  have hD : va_D A (mW o 0 q cI cZ) := hD
  refine lv_iload_n hx hb dX9_node_5 rfl (lv_at hl 1 rfl) ?_
  refine lv_iconst (v := 0) hx hb dX9_node_6 (by decide) ?_
  refine lv_bipush (v := 21) hx hb dX9_node_7 (by decide) ?_
  refine rdS (As := [.int 11, .int 0, .int 21]) S (c_X9_isIn_50 l D cI cZ cJ o q) ms_X9_isIn kw_7_101 ⟨rfl, rfl⟩ ⟨Nat.le_of_ble_eq_true rfl, Nat.le_of_ble_eq_true rfl⟩ hP hK hl.1 (Nat.le_of_ble_eq_true rfl) ⟨Nat.le_of_ble_eq_true rfl, Nat.le_of_ble_eq_true rfl⟩ dX9_node_9 ?_
  refine lv_if_eq (tgt := 27) hx hb dX9_node_12 (by decide) (fun c => absurd c (by decide)) (fun _ => ?_)
  refine lv_aload_n hx hb dX9_node_15 rfl (lv_at hl 0 rfl) ?_
  refine lv_iload_n hx hb dX9_node_16 rfl (lv_at hl 1 rfl) ?_
  refine lv_iload_n hx hb dX9_node_17 rfl (lv_at hl 2 rfl) ?_
  refine lv_iload_n hx hb dX9_node_18 rfl (lv_at hl 3 rfl) ?_
  refine lv_iload hx hb dX9_node_19 (lv_at hl 4 rfl) ?_
  refine rdV (As := [.int 11, .int x2, .int 0, .int x4]) (ci := 9) S (c_X9_canBe_30 l D cI cZ cJ o q x2 x4 lo_x2 hi_x2 ne_x4_0) mi_X9_canBe kw_7_155 ⟨rfl, rfl⟩ ⟨Nat.le_of_ble_eq_true rfl, Nat.le_of_ble_eq_true rfl⟩ hP hK mW_0 rfl rfl hl.1 (Nat.le_of_ble_eq_true rfl) ⟨Nat.le_of_ble_eq_true rfl, Nat.le_of_ble_eq_true rfl⟩ dX9_node_21 ?_
  refine lv_if_ne (tgt := 33) hx hb dX9_node_24 (by decide) (fun c => absurd c (by decide)) (fun _ => ?_)
  refine lv_aload_n hx hb dX9_node_27 rfl (lv_at hl 0 rfl) ?_
  refine lv_iconst (v := 1) hx hb dX9_node_28 (by decide) ?_
  refine wrV (As := [.int 1]) (ci := 9) S (c_X9_no_0 l D cI cZ cJ o q H.size) mi_X9_no kw_7_104 rfl rfl ⟨Nat.le_of_ble_eq_true rfl, Nat.le_of_ble_eq_true rfl⟩ hP hD hK hS hA mW_0 rfl rfl hl.1 (Nat.le_of_ble_eq_true rfl) ⟨Nat.le_of_ble_eq_true rfl, Nat.le_of_ble_eq_true rfl⟩ dX9_node_29 (fun H locs hz hP hD hS => ?_)
  exact wEnd S hr hlocks hP hD hS (Nat.le_of_ble_eq_true rfl) (Nat.le_of_ble_eq_true rfl) dX9_node_32 rfl

set_option maxHeartbeats 8000000 in
set_option maxRecDepth 100000 in
theorem h_node_31 (l : Launch) (D : va_G) (cI cZ cJ : ClassId) (o : Nat) (u : Nat → Nat) (ao : Nat) (hst : l.stackTraces = false) (ra ga : Nat → Nat) (sz : Nat) (x2 : Int32) (x3 : Int32) (x4 : Int32) (lo_x2 : 0 ≤ x2) (hi_x2 : x2 ≤ 15) (ne_x3_0 : ¬ x3 = 0) : vx_Met l yL_node (uWh yL_node cL_node 7 (some .int) [(0, 14, 17, 15), (0, 14, 21, 17)]) ({ frames := 8, cells := 1, slots := 6, locals := 126 }) (va_Pc [.ref o, .int 11, .int x2, .int x3, .int x4, .ref ao] (lS ra ga D (tyL cI cZ cJ) ((xW o u cI cZ cJ) ++ [(ao, .inl (cJ, 1, .inr (.inl (fun _ => 0))))]) sz)) (wQi (1) D ((xW o u cI cZ cJ) ++ [(ao, .inl (cJ, 1, .inr (.inl (fun _ => 0))))]) (va_A ((xW o u cI cZ cJ) ++ [(ao, .inl (cJ, 1, .inr (.inl (fun _ => 0))))]) sz)) (xN (va_A ((xW o u cI cZ cJ) ++ [(ao, .inl (cJ, 1, .inr (.inl (fun _ => 0))))]) sz)) 1 6 (va_A ((xW o u cI cZ cJ) ++ [(ao, .inl (cJ, 1, .inr (.inl (fun _ => 0))))]) sz) := by
  refine hStart (l := l) (y := yL_node) (b := cL_node) (n := 7) (r := (some .int)) (hh := [(0, 14, 17, 15), (0, 14, 21, 17)]) (rm := ({ frames := 8, cells := 1, slots := 6, locals := 126 })) (mc := 1) (ms := 6) (ra := ra) (ga := ga) (D := D) (tys := tyL cI cZ cJ) (ws := ((xW o u cI cZ cJ) ++ [(ao, .inl (cJ, 1, .inr (.inl (fun _ => 0))))])) (av := [.ref o, .int 11, .int x2, .int x3, .int x4, .ref ao]) (sz := sz) (lv := [(0, .ref o), (1, .int 11), (2, .int x2), (3, .int x3), (4, .int x4), (5, .ref ao)]) (Qc := fun A => wQi (1) D ((xW o u cI cZ cJ) ++ [(ao, .inl (cJ, 1, .inr (.inl (fun _ => 0))))]) A) (by decide) (Nat.le_of_ble_eq_true rfl) rfl ?_
  intro p e s m args below meth c ls A H S hr hlocks htab hl hK hP hD hS hA hB hC
  have hx := S.1
  have hb := S.2.1
  refine lv_aload hx hb dL_node_0 (lv_at hl 5 rfl) ?_
  refine lv_iconst (v := 0) hx hb dL_node_2 (by decide) ?_
  refine lv_aload_n hx hb dL_node_3 rfl (lv_at hl 0 rfl) ?_
  refine lv_iload_n hx hb dL_node_4 rfl (lv_at hl 1 rfl) ?_
  refine lv_iload_n hx hb dL_node_5 rfl (lv_at hl 2 rfl) ?_
  refine lv_iload_n hx hb dL_node_6 rfl (lv_at hl 3 rfl) ?_
  refine lv_iload hx hb dL_node_7 (lv_at hl 4 rfl) ?_
  refine cVi [] [(ao, .inl (cJ, 1, .inr (.inl (fun _ => 0))))] (As := [.int 11, .int x2, .int x3, .int x4]) (ci := 8) S (c_X8_node_31 l D cI cZ cJ o u hst ra ga H.size x2 x3 x4 lo_x2 hi_x2 ne_x3_0) mi_X8_node kw_6_23 rfl rfl ⟨Nat.le_of_ble_eq_true rfl, Nat.le_of_ble_eq_true rfl⟩ hP hD hK hS hA hB xW_0 rfl rfl hl.1 (Nat.le_of_ble_eq_true rfl) ⟨Nat.le_of_ble_eq_true rfl, Nat.le_of_ble_eq_true rfl⟩ dL_node_9 (fun ce q9 H locs hz hP hD hS hce hcv hcl => ?_)
  refine vx_catch (name := "java/lang/IllegalArgumentException") S.2.2.2.1 [] (⟨0, 14, 17, 15⟩ : ExceptionTableEntry) [(⟨0, 14, 21, 17⟩ : ExceptionTableEntry)] (htab.trans rfl) (fun _ h => absurd h List.not_mem_nil) (by decide) (by decide) (S.2.2.2.2 _ kw_5_177) (va_Nw.use rfl hB.c1) hce hcv hcl ?_
  have hP : va_P D vwCl ((xW o u cI cZ cJ) ++ [(ao, .inl (cJ, 1, .inr (.inl (fun _ => 0))))]) H := hP
  have hD : va_D A ((xW o u cI cZ cJ) ++ [(ao, .inl (cJ, 1, .inr (.inl (fun _ => 0))))]) := hD
  refine lv_astore (lv' := [(6, .ref q9), (0, .ref o), (1, .int 11), (2, .int x2), (3, .int x3), (4, .int x4), (5, .ref ao)]) hx hb dL_node_17 hl (by decide) rfl (fun ls hl => ?_)
  refine lv_iconst (v := 1) hx hb dL_node_19 (by decide) ?_
  exact vx_ret (wEnd S hr hlocks hP hD hS (Nat.le_of_ble_eq_true rfl) (Nat.le_of_ble_eq_true rfl) dL_node_20 rfl)

set_option maxHeartbeats 8000000 in
set_option maxRecDepth 100000 in
theorem c_X9_canBe_31 (l : Launch) (D : va_G) (cI cZ cJ : ClassId) (o : Nat) (q : Nat → Nat) (x2 : Int32) (x3 : Int32) (x4 : Int32) (lo_x2 : 0 ≤ x2) (hi_x2 : x2 ≤ 15) (ne_x3_0 : ¬ x3 = 0) : Met l yX9_canBe (uW yX9_canBe cX9_canBe 5 (some .boolean)) ({ frames := 2, cells := 0, slots := 0, locals := 42 }) (va_Pc [.ref o, .int 11, .int x2, .int x3, .int x4] (pS D (tyL cI cZ cJ) (mW o 0 q cI cZ))) (QcRead (0)) 0 0 (fun _ => False) := by
  refine rdStart (lv := [(0, .ref o), (1, .int 11), (2, .int x2), (3, .int x3), (4, .int x4)]) (by decide) (Nat.le_of_ble_eq_true rfl) rfl ?_
  intro p e s m args below meth c ls S hr hlocks hl hP hK
  have hx := S.1
  have hb := S.2.1
  refine lv_iload_n hx hb dX9_canBe_0 rfl (lv_at hl 1 rfl) ?_
  refine lv_tableIn (off := 131) (tgt := 132) hx hb dX9_canBe_1 (by decide) (by decide) (by decide) (by decide) ?_
  refine lv_iload_n hx hb dX9_canBe_132 rfl (lv_at hl 2 rfl) ?_
  refine rdS (As := [.int x2]) S (c_X9_isName_2 l D cI cZ cJ o q x2 lo_x2 hi_x2) ms_X9_isName kw_7_108 ⟨rfl, rfl⟩ ⟨Nat.le_of_ble_eq_true rfl, Nat.le_of_ble_eq_true rfl⟩ hP hK hl.1 (Nat.le_of_ble_eq_true rfl) ⟨Nat.le_of_ble_eq_true rfl, Nat.le_of_ble_eq_true rfl⟩ dX9_canBe_133 ?_
  refine lv_if_eq (tgt := 152) hx hb dX9_canBe_136 (by decide) (fun c => absurd c (by decide)) (fun _ => ?_)
  refine lv_iload_n hx hb dX9_canBe_139 rfl (lv_at hl 3 rfl) ?_
  refine lv_if_ne (tgt := 152) hx hb dX9_canBe_140 (by decide) (fun _ => ?_) (fun c => absurd c ne_x3_0)
  refine lv_iconst (v := 0) hx hb dX9_canBe_152 (by decide) ?_
  exact rdEndZ S hr hlocks dX9_canBe_153 rfl rfl

set_option maxHeartbeats 8000000 in
set_option maxRecDepth 100000 in
theorem c_X9_node_31 (l : Launch) (D : va_G) (cI cZ cJ : ClassId) (o : Nat) (q : Nat → Nat) (sz : Nat) (x2 : Int32) (x3 : Int32) (x4 : Int32) (lo_x2 : 0 ≤ x2) (hi_x2 : x2 ≤ 15) (ne_x3_0 : ¬ x3 = 0) : Met l yX9_node (uW yX9_node cX9_node 6 (some .int)) ({ frames := 3, cells := 0, slots := 0, locals := 66 }) (va_Pc [.ref o, .int 11, .int x2, .int x3, .int x4] (wS D (tyL cI cZ cJ) (mW o 0 q cI cZ) sz)) (wQi (0) D (mW o 1 q cI cZ) (va_A (mW o 0 q cI cZ) sz)) 0 0 (va_A (mW o 0 q cI cZ) sz) := by
  refine wStart (lv := [(0, .ref o), (1, .int 11), (2, .int x2), (3, .int x3), (4, .int x4)]) (Qc := fun A => wQi (0) D (mW o 1 q cI cZ) A) (by decide) (Nat.le_of_ble_eq_true rfl) rfl ?_
  intro p e s m args below meth c ls A H S hr hlocks hnm hl hK hP hD hS hA
  have hx := S.1
  have hb := S.2.1
  refine lv_aload_n hx hb dX9_node_0 rfl (lv_at hl 0 rfl) ?_
  refine lv_iconst (v := 0) hx hb dX9_node_1 (by decide) ?_
  refine xp (ci := 9) (v := .int 0) S inX9 tyX9 tyX9_ok nmX9 rfl hK hP hD hS mW_0 0 (by decide) kw_6_148 rfl rfl rfl rfl (Nat.le_of_ble_eq_true rfl) dX9_node_2 (fun H locs hP hD hS => ?_)
  have hP : va_P D vwCl (mW o 0 q cI cZ) H := hP
  have hD : va_D A (mW o 0 q cI cZ) := hD
  refine lv_iload_n hx hb dX9_node_5 rfl (lv_at hl 1 rfl) ?_
  refine lv_iconst (v := 0) hx hb dX9_node_6 (by decide) ?_
  refine lv_bipush (v := 21) hx hb dX9_node_7 (by decide) ?_
  refine rdS (As := [.int 11, .int 0, .int 21]) S (c_X9_isIn_50 l D cI cZ cJ o q) ms_X9_isIn kw_7_101 ⟨rfl, rfl⟩ ⟨Nat.le_of_ble_eq_true rfl, Nat.le_of_ble_eq_true rfl⟩ hP hK hl.1 (Nat.le_of_ble_eq_true rfl) ⟨Nat.le_of_ble_eq_true rfl, Nat.le_of_ble_eq_true rfl⟩ dX9_node_9 ?_
  refine lv_if_eq (tgt := 27) hx hb dX9_node_12 (by decide) (fun c => absurd c (by decide)) (fun _ => ?_)
  refine lv_aload_n hx hb dX9_node_15 rfl (lv_at hl 0 rfl) ?_
  refine lv_iload_n hx hb dX9_node_16 rfl (lv_at hl 1 rfl) ?_
  refine lv_iload_n hx hb dX9_node_17 rfl (lv_at hl 2 rfl) ?_
  refine lv_iload_n hx hb dX9_node_18 rfl (lv_at hl 3 rfl) ?_
  refine lv_iload hx hb dX9_node_19 (lv_at hl 4 rfl) ?_
  refine rdV (As := [.int 11, .int x2, .int x3, .int x4]) (ci := 9) S (c_X9_canBe_31 l D cI cZ cJ o q x2 x3 x4 lo_x2 hi_x2 ne_x3_0) mi_X9_canBe kw_7_155 ⟨rfl, rfl⟩ ⟨Nat.le_of_ble_eq_true rfl, Nat.le_of_ble_eq_true rfl⟩ hP hK mW_0 rfl rfl hl.1 (Nat.le_of_ble_eq_true rfl) ⟨Nat.le_of_ble_eq_true rfl, Nat.le_of_ble_eq_true rfl⟩ dX9_node_21 ?_
  refine lv_if_ne (tgt := 33) hx hb dX9_node_24 (by decide) (fun c => absurd c (by decide)) (fun _ => ?_)
  refine lv_aload_n hx hb dX9_node_27 rfl (lv_at hl 0 rfl) ?_
  refine lv_iconst (v := 1) hx hb dX9_node_28 (by decide) ?_
  refine wrV (As := [.int 1]) (ci := 9) S (c_X9_no_0 l D cI cZ cJ o q H.size) mi_X9_no kw_7_104 rfl rfl ⟨Nat.le_of_ble_eq_true rfl, Nat.le_of_ble_eq_true rfl⟩ hP hD hK hS hA mW_0 rfl rfl hl.1 (Nat.le_of_ble_eq_true rfl) ⟨Nat.le_of_ble_eq_true rfl, Nat.le_of_ble_eq_true rfl⟩ dX9_node_29 (fun H locs hz hP hD hS => ?_)
  exact wEnd S hr hlocks hP hD hS (Nat.le_of_ble_eq_true rfl) (Nat.le_of_ble_eq_true rfl) dX9_node_32 rfl

set_option maxHeartbeats 8000000 in
set_option maxRecDepth 100000 in
theorem h_node_32 (l : Launch) (D : va_G) (cI cZ cJ : ClassId) (o : Nat) (u : Nat → Nat) (ao : Nat) (hst : l.stackTraces = false) (ra ga : Nat → Nat) (sz : Nat) (x2 : Int32) (x3 : Int32) (x4 : Int32) : vx_Met l yL_node (uWh yL_node cL_node 7 (some .int) [(0, 14, 17, 15), (0, 14, 21, 17)]) ({ frames := 8, cells := 1, slots := 6, locals := 126 }) (va_Pc [.ref o, .int 12, .int x2, .int x3, .int x4, .ref ao] (lS ra ga D (tyL cI cZ cJ) ((xW o u cI cZ cJ) ++ [(ao, .inl (cJ, 1, .inr (.inl (fun _ => 0))))]) sz)) (wQi (1) D ((xW o u cI cZ cJ) ++ [(ao, .inl (cJ, 1, .inr (.inl (fun _ => 0))))]) (va_A ((xW o u cI cZ cJ) ++ [(ao, .inl (cJ, 1, .inr (.inl (fun _ => 0))))]) sz)) (xN (va_A ((xW o u cI cZ cJ) ++ [(ao, .inl (cJ, 1, .inr (.inl (fun _ => 0))))]) sz)) 1 6 (va_A ((xW o u cI cZ cJ) ++ [(ao, .inl (cJ, 1, .inr (.inl (fun _ => 0))))]) sz) := by
  refine hStart (l := l) (y := yL_node) (b := cL_node) (n := 7) (r := (some .int)) (hh := [(0, 14, 17, 15), (0, 14, 21, 17)]) (rm := ({ frames := 8, cells := 1, slots := 6, locals := 126 })) (mc := 1) (ms := 6) (ra := ra) (ga := ga) (D := D) (tys := tyL cI cZ cJ) (ws := ((xW o u cI cZ cJ) ++ [(ao, .inl (cJ, 1, .inr (.inl (fun _ => 0))))])) (av := [.ref o, .int 12, .int x2, .int x3, .int x4, .ref ao]) (sz := sz) (lv := [(0, .ref o), (1, .int 12), (2, .int x2), (3, .int x3), (4, .int x4), (5, .ref ao)]) (Qc := fun A => wQi (1) D ((xW o u cI cZ cJ) ++ [(ao, .inl (cJ, 1, .inr (.inl (fun _ => 0))))]) A) (by decide) (Nat.le_of_ble_eq_true rfl) rfl ?_
  intro p e s m args below meth c ls A H S hr hlocks htab hl hK hP hD hS hA hB hC
  have hx := S.1
  have hb := S.2.1
  refine lv_aload hx hb dL_node_0 (lv_at hl 5 rfl) ?_
  refine lv_iconst (v := 0) hx hb dL_node_2 (by decide) ?_
  refine lv_aload_n hx hb dL_node_3 rfl (lv_at hl 0 rfl) ?_
  refine lv_iload_n hx hb dL_node_4 rfl (lv_at hl 1 rfl) ?_
  refine lv_iload_n hx hb dL_node_5 rfl (lv_at hl 2 rfl) ?_
  refine lv_iload_n hx hb dL_node_6 rfl (lv_at hl 3 rfl) ?_
  refine lv_iload hx hb dL_node_7 (lv_at hl 4 rfl) ?_
  refine cVi [] [(ao, .inl (cJ, 1, .inr (.inl (fun _ => 0))))] (As := [.int 12, .int x2, .int x3, .int x4]) (ci := 8) S (c_X8_node_32 l D cI cZ cJ o u hst ra ga H.size x2 x3 x4) mi_X8_node kw_6_23 rfl rfl ⟨Nat.le_of_ble_eq_true rfl, Nat.le_of_ble_eq_true rfl⟩ hP hD hK hS hA hB xW_0 rfl rfl hl.1 (Nat.le_of_ble_eq_true rfl) ⟨Nat.le_of_ble_eq_true rfl, Nat.le_of_ble_eq_true rfl⟩ dL_node_9 (fun ce q9 H locs hz hP hD hS hce hcv hcl => ?_)
  refine vx_catch (name := "java/lang/IllegalArgumentException") S.2.2.2.1 [] (⟨0, 14, 17, 15⟩ : ExceptionTableEntry) [(⟨0, 14, 21, 17⟩ : ExceptionTableEntry)] (htab.trans rfl) (fun _ h => absurd h List.not_mem_nil) (by decide) (by decide) (S.2.2.2.2 _ kw_5_177) (va_Nw.use rfl hB.c1) hce hcv hcl ?_
  have hP : va_P D vwCl ((xW o u cI cZ cJ) ++ [(ao, .inl (cJ, 1, .inr (.inl (fun _ => 0))))]) H := hP
  have hD : va_D A ((xW o u cI cZ cJ) ++ [(ao, .inl (cJ, 1, .inr (.inl (fun _ => 0))))]) := hD
  refine lv_astore (lv' := [(6, .ref q9), (0, .ref o), (1, .int 12), (2, .int x2), (3, .int x3), (4, .int x4), (5, .ref ao)]) hx hb dL_node_17 hl (by decide) rfl (fun ls hl => ?_)
  refine lv_iconst (v := 1) hx hb dL_node_19 (by decide) ?_
  exact vx_ret (wEnd S hr hlocks hP hD hS (Nat.le_of_ble_eq_true rfl) (Nat.le_of_ble_eq_true rfl) dL_node_20 rfl)

set_option maxHeartbeats 8000000 in
set_option maxRecDepth 100000 in
theorem c_X9_isIn_51 (l : Launch) (D : va_G) (cI cZ cJ : ClassId) (o : Nat) (q : Nat → Nat) : Met l yX9_isIn (uW yX9_isIn cX9_isIn 3 (some .boolean)) ({ frames := 0, cells := 0, slots := 0, locals := 0 }) (va_Pc [.int 12, .int 0, .int 21] (pS D (tyL cI cZ cJ) (mW o 0 q cI cZ))) (QcRead (1)) 0 0 (fun _ => False) := by
  refine rdStart (lv := [(0, .int 12), (1, .int 0), (2, .int 21)]) (by decide) (Nat.le_of_ble_eq_true rfl) rfl ?_
  intro p e s m args below meth c ls S hr hlocks hl hP hK
  have hx := S.1
  have hb := S.2.1
  refine lv_iload_n hx hb dX9_isIn_0 rfl (lv_at hl 0 rfl) ?_
  refine lv_iload_n hx hb dX9_isIn_1 rfl (lv_at hl 1 rfl) ?_
  refine lv_icmp_lt (tgt := 14) hx hb dX9_isIn_2 (by decide) (fun c => absurd c (by decide)) (fun _ => ?_)
  refine lv_iload_n hx hb dX9_isIn_5 rfl (lv_at hl 0 rfl) ?_
  refine lv_iload_n hx hb dX9_isIn_6 rfl (lv_at hl 2 rfl) ?_
  refine lv_icmp_gt (tgt := 14) hx hb dX9_isIn_7 (by decide) (fun c => absurd c (by decide)) (fun _ => ?_)
  refine lv_iconst (v := 1) hx hb dX9_isIn_10 (by decide) ?_
  refine lv_goto (tgt := 15) hx hb dX9_isIn_11 (by decide) ?_
  exact rdEndZ S hr hlocks dX9_isIn_15 rfl rfl

set_option maxHeartbeats 8000000 in
set_option maxRecDepth 100000 in
theorem c_X9_isFreeStatement_0 (l : Launch) (D : va_G) (cI cZ cJ : ClassId) (o : Nat) (q : Nat → Nat) (x3 : Int32) : Met l yX9_isFreeStatement (uW yX9_isFreeStatement cX9_isFreeStatement 2 (some .boolean)) ({ frames := 3, cells := 0, slots := 0, locals := 64 }) (va_Pc [.ref o, .int x3] (pS D (tyL cI cZ cJ) (mW o 0 q cI cZ))) (QcRead (0)) 0 0 (fun _ => False) := by
  refine rdStart (lv := [(0, .ref o), (1, .int x3)]) (by decide) (Nat.le_of_ble_eq_true rfl) rfl ?_
  intro p e s m args below meth c ls S hr hlocks hl hP hK
  have hx := S.1
  have hb := S.2.1
  refine lv_aload_n hx hb dX9_isFreeStatement_0 rfl (lv_at hl 0 rfl) ?_
  refine lv_iload_n hx hb dX9_isFreeStatement_1 rfl (lv_at hl 1 rfl) ?_
  refine rdV (As := [.int x3]) (ci := 9) S (c_X9_isFree_0 l D cI cZ cJ o q x3) mi_X9_isFree kw_7_163 ⟨rfl, rfl⟩ ⟨Nat.le_of_ble_eq_true rfl, Nat.le_of_ble_eq_true rfl⟩ hP hK mW_0 rfl rfl hl.1 (Nat.le_of_ble_eq_true rfl) ⟨Nat.le_of_ble_eq_true rfl, Nat.le_of_ble_eq_true rfl⟩ dX9_isFreeStatement_2 ?_
  refine lv_if_eq (tgt := 24) hx hb dX9_isFreeStatement_5 (by decide) (fun _ => ?_) (fun c => absurd c (by decide))
  refine lv_iconst (v := 0) hx hb dX9_isFreeStatement_24 (by decide) ?_
  exact rdEndZ S hr hlocks dX9_isFreeStatement_25 rfl rfl

set_option maxHeartbeats 8000000 in
set_option maxRecDepth 100000 in
theorem c_X9_canBe_32 (l : Launch) (D : va_G) (cI cZ cJ : ClassId) (o : Nat) (q : Nat → Nat) (x2 : Int32) (x3 : Int32) (x4 : Int32) : Met l yX9_canBe (uW yX9_canBe cX9_canBe 5 (some .boolean)) ({ frames := 4, cells := 0, slots := 0, locals := 85 }) (va_Pc [.ref o, .int 12, .int x2, .int x3, .int x4] (pS D (tyL cI cZ cJ) (mW o 0 q cI cZ))) (QcRead (0)) 0 0 (fun _ => False) := by
  refine rdStart (lv := [(0, .ref o), (1, .int 12), (2, .int x2), (3, .int x3), (4, .int x4)]) (by decide) (Nat.le_of_ble_eq_true rfl) rfl ?_
  intro p e s m args below meth c ls S hr hlocks hl hP hK
  have hx := S.1
  have hb := S.2.1
  refine lv_iload_n hx hb dX9_canBe_0 rfl (lv_at hl 1 rfl) ?_
  refine lv_tableIn (off := 299) (tgt := 300) hx hb dX9_canBe_1 (by decide) (by decide) (by decide) (by decide) ?_
  refine lv_iload_n hx hb dX9_canBe_300 rfl (lv_at hl 2 rfl) ?_
  refine lv_if_ne (tgt := 331) hx hb dX9_canBe_301 (by decide) (fun c_301 => ?_) (fun c_301 => ?_)
  · have ne_x2_0 : ¬ x2 = 0 := c_301
    refine lv_iconst (v := 0) hx hb dX9_canBe_331 (by decide) ?_
    exact rdEndZ S hr hlocks dX9_canBe_332 rfl rfl
  · have e_x2 : x2 = 0 := c_301
    subst e_x2
    refine lv_aload_n hx hb dX9_canBe_304 rfl (lv_at hl 0 rfl) ?_
    refine lv_iload_n hx hb dX9_canBe_305 rfl (lv_at hl 3 rfl) ?_
    refine rdV (As := [.int x3]) (ci := 9) S (c_X9_isFreeStatement_0 l D cI cZ cJ o q x3) mi_X9_isFreeStatement kw_7_178 ⟨rfl, rfl⟩ ⟨Nat.le_of_ble_eq_true rfl, Nat.le_of_ble_eq_true rfl⟩ hP hK mW_0 rfl rfl hl.1 (Nat.le_of_ble_eq_true rfl) ⟨Nat.le_of_ble_eq_true rfl, Nat.le_of_ble_eq_true rfl⟩ dX9_canBe_306 ?_
    refine lv_if_eq (tgt := 331) hx hb dX9_canBe_309 (by decide) (fun _ => ?_) (fun c => absurd c (by decide))
    refine lv_iconst (v := 0) hx hb dX9_canBe_331 (by decide) ?_
    exact rdEndZ S hr hlocks dX9_canBe_332 rfl rfl

set_option maxHeartbeats 8000000 in
set_option maxRecDepth 100000 in
theorem c_X9_node_32 (l : Launch) (D : va_G) (cI cZ cJ : ClassId) (o : Nat) (q : Nat → Nat) (sz : Nat) (x2 : Int32) (x3 : Int32) (x4 : Int32) : Met l yX9_node (uW yX9_node cX9_node 6 (some .int)) ({ frames := 5, cells := 0, slots := 0, locals := 109 }) (va_Pc [.ref o, .int 12, .int x2, .int x3, .int x4] (wS D (tyL cI cZ cJ) (mW o 0 q cI cZ) sz)) (wQi (0) D (mW o 1 q cI cZ) (va_A (mW o 0 q cI cZ) sz)) 0 0 (va_A (mW o 0 q cI cZ) sz) := by
  refine wStart (lv := [(0, .ref o), (1, .int 12), (2, .int x2), (3, .int x3), (4, .int x4)]) (Qc := fun A => wQi (0) D (mW o 1 q cI cZ) A) (by decide) (Nat.le_of_ble_eq_true rfl) rfl ?_
  intro p e s m args below meth c ls A H S hr hlocks hnm hl hK hP hD hS hA
  have hx := S.1
  have hb := S.2.1
  refine lv_aload_n hx hb dX9_node_0 rfl (lv_at hl 0 rfl) ?_
  refine lv_iconst (v := 0) hx hb dX9_node_1 (by decide) ?_
  refine xp (ci := 9) (v := .int 0) S inX9 tyX9 tyX9_ok nmX9 rfl hK hP hD hS mW_0 0 (by decide) kw_6_148 rfl rfl rfl rfl (Nat.le_of_ble_eq_true rfl) dX9_node_2 (fun H locs hP hD hS => ?_)
  have hP : va_P D vwCl (mW o 0 q cI cZ) H := hP
  have hD : va_D A (mW o 0 q cI cZ) := hD
  refine lv_iload_n hx hb dX9_node_5 rfl (lv_at hl 1 rfl) ?_
  refine lv_iconst (v := 0) hx hb dX9_node_6 (by decide) ?_
  refine lv_bipush (v := 21) hx hb dX9_node_7 (by decide) ?_
  refine rdS (As := [.int 12, .int 0, .int 21]) S (c_X9_isIn_51 l D cI cZ cJ o q) ms_X9_isIn kw_7_101 ⟨rfl, rfl⟩ ⟨Nat.le_of_ble_eq_true rfl, Nat.le_of_ble_eq_true rfl⟩ hP hK hl.1 (Nat.le_of_ble_eq_true rfl) ⟨Nat.le_of_ble_eq_true rfl, Nat.le_of_ble_eq_true rfl⟩ dX9_node_9 ?_
  refine lv_if_eq (tgt := 27) hx hb dX9_node_12 (by decide) (fun c => absurd c (by decide)) (fun _ => ?_)
  refine lv_aload_n hx hb dX9_node_15 rfl (lv_at hl 0 rfl) ?_
  refine lv_iload_n hx hb dX9_node_16 rfl (lv_at hl 1 rfl) ?_
  refine lv_iload_n hx hb dX9_node_17 rfl (lv_at hl 2 rfl) ?_
  refine lv_iload_n hx hb dX9_node_18 rfl (lv_at hl 3 rfl) ?_
  refine lv_iload hx hb dX9_node_19 (lv_at hl 4 rfl) ?_
  refine rdV (As := [.int 12, .int x2, .int x3, .int x4]) (ci := 9) S (c_X9_canBe_32 l D cI cZ cJ o q x2 x3 x4) mi_X9_canBe kw_7_155 ⟨rfl, rfl⟩ ⟨Nat.le_of_ble_eq_true rfl, Nat.le_of_ble_eq_true rfl⟩ hP hK mW_0 rfl rfl hl.1 (Nat.le_of_ble_eq_true rfl) ⟨Nat.le_of_ble_eq_true rfl, Nat.le_of_ble_eq_true rfl⟩ dX9_node_21 ?_
  refine lv_if_ne (tgt := 33) hx hb dX9_node_24 (by decide) (fun c => absurd c (by decide)) (fun _ => ?_)
  refine lv_aload_n hx hb dX9_node_27 rfl (lv_at hl 0 rfl) ?_
  refine lv_iconst (v := 1) hx hb dX9_node_28 (by decide) ?_
  refine wrV (As := [.int 1]) (ci := 9) S (c_X9_no_0 l D cI cZ cJ o q H.size) mi_X9_no kw_7_104 rfl rfl ⟨Nat.le_of_ble_eq_true rfl, Nat.le_of_ble_eq_true rfl⟩ hP hD hK hS hA mW_0 rfl rfl hl.1 (Nat.le_of_ble_eq_true rfl) ⟨Nat.le_of_ble_eq_true rfl, Nat.le_of_ble_eq_true rfl⟩ dX9_node_29 (fun H locs hz hP hD hS => ?_)
  exact wEnd S hr hlocks hP hD hS (Nat.le_of_ble_eq_true rfl) (Nat.le_of_ble_eq_true rfl) dX9_node_32 rfl

set_option maxHeartbeats 8000000 in
set_option maxRecDepth 100000 in
theorem h_node_33 (l : Launch) (D : va_G) (cI cZ cJ : ClassId) (o : Nat) (u : Nat → Nat) (ao : Nat) (hst : l.stackTraces = false) (ra ga : Nat → Nat) (sz : Nat) (x2 : Int32) (x3 : Int32) (x4 : Int32) : vx_Met l yL_node (uWh yL_node cL_node 7 (some .int) [(0, 14, 17, 15), (0, 14, 21, 17)]) ({ frames := 8, cells := 1, slots := 6, locals := 126 }) (va_Pc [.ref o, .int 13, .int x2, .int x3, .int x4, .ref ao] (lS ra ga D (tyL cI cZ cJ) ((xW o u cI cZ cJ) ++ [(ao, .inl (cJ, 1, .inr (.inl (fun _ => 0))))]) sz)) (wQi (1) D ((xW o u cI cZ cJ) ++ [(ao, .inl (cJ, 1, .inr (.inl (fun _ => 0))))]) (va_A ((xW o u cI cZ cJ) ++ [(ao, .inl (cJ, 1, .inr (.inl (fun _ => 0))))]) sz)) (xN (va_A ((xW o u cI cZ cJ) ++ [(ao, .inl (cJ, 1, .inr (.inl (fun _ => 0))))]) sz)) 1 6 (va_A ((xW o u cI cZ cJ) ++ [(ao, .inl (cJ, 1, .inr (.inl (fun _ => 0))))]) sz) := by
  refine hStart (l := l) (y := yL_node) (b := cL_node) (n := 7) (r := (some .int)) (hh := [(0, 14, 17, 15), (0, 14, 21, 17)]) (rm := ({ frames := 8, cells := 1, slots := 6, locals := 126 })) (mc := 1) (ms := 6) (ra := ra) (ga := ga) (D := D) (tys := tyL cI cZ cJ) (ws := ((xW o u cI cZ cJ) ++ [(ao, .inl (cJ, 1, .inr (.inl (fun _ => 0))))])) (av := [.ref o, .int 13, .int x2, .int x3, .int x4, .ref ao]) (sz := sz) (lv := [(0, .ref o), (1, .int 13), (2, .int x2), (3, .int x3), (4, .int x4), (5, .ref ao)]) (Qc := fun A => wQi (1) D ((xW o u cI cZ cJ) ++ [(ao, .inl (cJ, 1, .inr (.inl (fun _ => 0))))]) A) (by decide) (Nat.le_of_ble_eq_true rfl) rfl ?_
  intro p e s m args below meth c ls A H S hr hlocks htab hl hK hP hD hS hA hB hC
  have hx := S.1
  have hb := S.2.1
  refine lv_aload hx hb dL_node_0 (lv_at hl 5 rfl) ?_
  refine lv_iconst (v := 0) hx hb dL_node_2 (by decide) ?_
  refine lv_aload_n hx hb dL_node_3 rfl (lv_at hl 0 rfl) ?_
  refine lv_iload_n hx hb dL_node_4 rfl (lv_at hl 1 rfl) ?_
  refine lv_iload_n hx hb dL_node_5 rfl (lv_at hl 2 rfl) ?_
  refine lv_iload_n hx hb dL_node_6 rfl (lv_at hl 3 rfl) ?_
  refine lv_iload hx hb dL_node_7 (lv_at hl 4 rfl) ?_
  refine cVi [] [(ao, .inl (cJ, 1, .inr (.inl (fun _ => 0))))] (As := [.int 13, .int x2, .int x3, .int x4]) (ci := 8) S (c_X8_node_33 l D cI cZ cJ o u hst ra ga H.size x2 x3 x4) mi_X8_node kw_6_23 rfl rfl ⟨Nat.le_of_ble_eq_true rfl, Nat.le_of_ble_eq_true rfl⟩ hP hD hK hS hA hB xW_0 rfl rfl hl.1 (Nat.le_of_ble_eq_true rfl) ⟨Nat.le_of_ble_eq_true rfl, Nat.le_of_ble_eq_true rfl⟩ dL_node_9 (fun ce q9 H locs hz hP hD hS hce hcv hcl => ?_)
  refine vx_catch (name := "java/lang/IllegalArgumentException") S.2.2.2.1 [] (⟨0, 14, 17, 15⟩ : ExceptionTableEntry) [(⟨0, 14, 21, 17⟩ : ExceptionTableEntry)] (htab.trans rfl) (fun _ h => absurd h List.not_mem_nil) (by decide) (by decide) (S.2.2.2.2 _ kw_5_177) (va_Nw.use rfl hB.c1) hce hcv hcl ?_
  have hP : va_P D vwCl ((xW o u cI cZ cJ) ++ [(ao, .inl (cJ, 1, .inr (.inl (fun _ => 0))))]) H := hP
  have hD : va_D A ((xW o u cI cZ cJ) ++ [(ao, .inl (cJ, 1, .inr (.inl (fun _ => 0))))]) := hD
  refine lv_astore (lv' := [(6, .ref q9), (0, .ref o), (1, .int 13), (2, .int x2), (3, .int x3), (4, .int x4), (5, .ref ao)]) hx hb dL_node_17 hl (by decide) rfl (fun ls hl => ?_)
  refine lv_iconst (v := 1) hx hb dL_node_19 (by decide) ?_
  exact vx_ret (wEnd S hr hlocks hP hD hS (Nat.le_of_ble_eq_true rfl) (Nat.le_of_ble_eq_true rfl) dL_node_20 rfl)

set_option maxHeartbeats 8000000 in
set_option maxRecDepth 100000 in
theorem c_X9_isIn_52 (l : Launch) (D : va_G) (cI cZ cJ : ClassId) (o : Nat) (q : Nat → Nat) : Met l yX9_isIn (uW yX9_isIn cX9_isIn 3 (some .boolean)) ({ frames := 0, cells := 0, slots := 0, locals := 0 }) (va_Pc [.int 13, .int 0, .int 21] (pS D (tyL cI cZ cJ) (mW o 0 q cI cZ))) (QcRead (1)) 0 0 (fun _ => False) := by
  refine rdStart (lv := [(0, .int 13), (1, .int 0), (2, .int 21)]) (by decide) (Nat.le_of_ble_eq_true rfl) rfl ?_
  intro p e s m args below meth c ls S hr hlocks hl hP hK
  have hx := S.1
  have hb := S.2.1
  refine lv_iload_n hx hb dX9_isIn_0 rfl (lv_at hl 0 rfl) ?_
  refine lv_iload_n hx hb dX9_isIn_1 rfl (lv_at hl 1 rfl) ?_
  refine lv_icmp_lt (tgt := 14) hx hb dX9_isIn_2 (by decide) (fun c => absurd c (by decide)) (fun _ => ?_)
  refine lv_iload_n hx hb dX9_isIn_5 rfl (lv_at hl 0 rfl) ?_
  refine lv_iload_n hx hb dX9_isIn_6 rfl (lv_at hl 2 rfl) ?_
  refine lv_icmp_gt (tgt := 14) hx hb dX9_isIn_7 (by decide) (fun c => absurd c (by decide)) (fun _ => ?_)
  refine lv_iconst (v := 1) hx hb dX9_isIn_10 (by decide) ?_
  refine lv_goto (tgt := 15) hx hb dX9_isIn_11 (by decide) ?_
  exact rdEndZ S hr hlocks dX9_isIn_15 rfl rfl

set_option maxHeartbeats 8000000 in
set_option maxRecDepth 100000 in
theorem c_X9_canBe_33 (l : Launch) (D : va_G) (cI cZ cJ : ClassId) (o : Nat) (q : Nat → Nat) (x2 : Int32) (x3 : Int32) (x4 : Int32) : Met l yX9_canBe (uW yX9_canBe cX9_canBe 5 (some .boolean)) ({ frames := 4, cells := 0, slots := 0, locals := 85 }) (va_Pc [.ref o, .int 13, .int x2, .int x3, .int x4] (pS D (tyL cI cZ cJ) (mW o 0 q cI cZ))) (QcRead (0)) 0 0 (fun _ => False) := by
  refine rdStart (lv := [(0, .ref o), (1, .int 13), (2, .int x2), (3, .int x3), (4, .int x4)]) (by decide) (Nat.le_of_ble_eq_true rfl) rfl ?_
  intro p e s m args below meth c ls S hr hlocks hl hP hK
  have hx := S.1
  have hb := S.2.1
  refine lv_iload_n hx hb dX9_canBe_0 rfl (lv_at hl 1 rfl) ?_
  refine lv_tableIn (off := 153) (tgt := 154) hx hb dX9_canBe_1 (by decide) (by decide) (by decide) (by decide) ?_
  refine lv_iload_n hx hb dX9_canBe_154 rfl (lv_at hl 2 rfl) ?_
  by_cases d_155 : x2 < 0
  · have hi_x2 : x2 ≤ (-1) := u_lt d_155 (by decide)
    refine rdS (As := [.int x2]) S (c_X9_isName_0 l D cI cZ cJ o q x2 hi_x2) ms_X9_isName kw_7_108 ⟨rfl, rfl⟩ ⟨Nat.le_of_ble_eq_true rfl, Nat.le_of_ble_eq_true rfl⟩ hP hK hl.1 (Nat.le_of_ble_eq_true rfl) ⟨Nat.le_of_ble_eq_true rfl, Nat.le_of_ble_eq_true rfl⟩ dX9_canBe_155 ?_
    refine lv_if_eq (tgt := 178) hx hb dX9_canBe_158 (by decide) (fun _ => ?_) (fun c => absurd c (by decide))
    refine lv_iconst (v := 0) hx hb dX9_canBe_178 (by decide) ?_
    exact rdEndZ S hr hlocks dX9_canBe_179 rfl rfl
  · have lo_x2 : 0 ≤ x2 := l_nlt d_155
    by_cases d_155 : 15 < x2
    · have lo_x2 : 16 ≤ x2 := l_gt d_155 (by decide)
      refine rdS (As := [.int x2]) S (c_X9_isName_1 l D cI cZ cJ o q x2 lo_x2) ms_X9_isName kw_7_108 ⟨rfl, rfl⟩ ⟨Nat.le_of_ble_eq_true rfl, Nat.le_of_ble_eq_true rfl⟩ hP hK hl.1 (Nat.le_of_ble_eq_true rfl) ⟨Nat.le_of_ble_eq_true rfl, Nat.le_of_ble_eq_true rfl⟩ dX9_canBe_155 ?_
      refine lv_if_eq (tgt := 178) hx hb dX9_canBe_158 (by decide) (fun _ => ?_) (fun c => absurd c (by decide))
      refine lv_iconst (v := 0) hx hb dX9_canBe_178 (by decide) ?_
      exact rdEndZ S hr hlocks dX9_canBe_179 rfl rfl
    · have hi_x2 : x2 ≤ 15 := u_ngt d_155
      refine rdS (As := [.int x2]) S (c_X9_isName_2 l D cI cZ cJ o q x2 lo_x2 hi_x2) ms_X9_isName kw_7_108 ⟨rfl, rfl⟩ ⟨Nat.le_of_ble_eq_true rfl, Nat.le_of_ble_eq_true rfl⟩ hP hK hl.1 (Nat.le_of_ble_eq_true rfl) ⟨Nat.le_of_ble_eq_true rfl, Nat.le_of_ble_eq_true rfl⟩ dX9_canBe_155 ?_
      refine lv_if_eq (tgt := 178) hx hb dX9_canBe_158 (by decide) (fun c => absurd c (by decide)) (fun _ => ?_)
      refine lv_aload_n hx hb dX9_canBe_161 rfl (lv_at hl 0 rfl) ?_
      refine lv_iload_n hx hb dX9_canBe_162 rfl (lv_at hl 3 rfl) ?_
      refine rdV (As := [.int x3]) (ci := 9) S (c_X9_isFreeExpression_0 l D cI cZ cJ o q x3) mi_X9_isFreeExpression kw_7_159 ⟨rfl, rfl⟩ ⟨Nat.le_of_ble_eq_true rfl, Nat.le_of_ble_eq_true rfl⟩ hP hK mW_0 rfl rfl hl.1 (Nat.le_of_ble_eq_true rfl) ⟨Nat.le_of_ble_eq_true rfl, Nat.le_of_ble_eq_true rfl⟩ dX9_canBe_163 ?_
      refine lv_if_eq (tgt := 178) hx hb dX9_canBe_166 (by decide) (fun _ => ?_) (fun c => absurd c (by decide))
      refine lv_iconst (v := 0) hx hb dX9_canBe_178 (by decide) ?_
      exact rdEndZ S hr hlocks dX9_canBe_179 rfl rfl

set_option maxHeartbeats 8000000 in
set_option maxRecDepth 100000 in
theorem c_X9_node_33 (l : Launch) (D : va_G) (cI cZ cJ : ClassId) (o : Nat) (q : Nat → Nat) (sz : Nat) (x2 : Int32) (x3 : Int32) (x4 : Int32) : Met l yX9_node (uW yX9_node cX9_node 6 (some .int)) ({ frames := 5, cells := 0, slots := 0, locals := 109 }) (va_Pc [.ref o, .int 13, .int x2, .int x3, .int x4] (wS D (tyL cI cZ cJ) (mW o 0 q cI cZ) sz)) (wQi (0) D (mW o 1 q cI cZ) (va_A (mW o 0 q cI cZ) sz)) 0 0 (va_A (mW o 0 q cI cZ) sz) := by
  refine wStart (lv := [(0, .ref o), (1, .int 13), (2, .int x2), (3, .int x3), (4, .int x4)]) (Qc := fun A => wQi (0) D (mW o 1 q cI cZ) A) (by decide) (Nat.le_of_ble_eq_true rfl) rfl ?_
  intro p e s m args below meth c ls A H S hr hlocks hnm hl hK hP hD hS hA
  have hx := S.1
  have hb := S.2.1
  refine lv_aload_n hx hb dX9_node_0 rfl (lv_at hl 0 rfl) ?_
  refine lv_iconst (v := 0) hx hb dX9_node_1 (by decide) ?_
  refine xp (ci := 9) (v := .int 0) S inX9 tyX9 tyX9_ok nmX9 rfl hK hP hD hS mW_0 0 (by decide) kw_6_148 rfl rfl rfl rfl (Nat.le_of_ble_eq_true rfl) dX9_node_2 (fun H locs hP hD hS => ?_)
  have hP : va_P D vwCl (mW o 0 q cI cZ) H := hP
  have hD : va_D A (mW o 0 q cI cZ) := hD
  refine lv_iload_n hx hb dX9_node_5 rfl (lv_at hl 1 rfl) ?_
  refine lv_iconst (v := 0) hx hb dX9_node_6 (by decide) ?_
  refine lv_bipush (v := 21) hx hb dX9_node_7 (by decide) ?_
  refine rdS (As := [.int 13, .int 0, .int 21]) S (c_X9_isIn_52 l D cI cZ cJ o q) ms_X9_isIn kw_7_101 ⟨rfl, rfl⟩ ⟨Nat.le_of_ble_eq_true rfl, Nat.le_of_ble_eq_true rfl⟩ hP hK hl.1 (Nat.le_of_ble_eq_true rfl) ⟨Nat.le_of_ble_eq_true rfl, Nat.le_of_ble_eq_true rfl⟩ dX9_node_9 ?_
  refine lv_if_eq (tgt := 27) hx hb dX9_node_12 (by decide) (fun c => absurd c (by decide)) (fun _ => ?_)
  refine lv_aload_n hx hb dX9_node_15 rfl (lv_at hl 0 rfl) ?_
  refine lv_iload_n hx hb dX9_node_16 rfl (lv_at hl 1 rfl) ?_
  refine lv_iload_n hx hb dX9_node_17 rfl (lv_at hl 2 rfl) ?_
  refine lv_iload_n hx hb dX9_node_18 rfl (lv_at hl 3 rfl) ?_
  refine lv_iload hx hb dX9_node_19 (lv_at hl 4 rfl) ?_
  refine rdV (As := [.int 13, .int x2, .int x3, .int x4]) (ci := 9) S (c_X9_canBe_33 l D cI cZ cJ o q x2 x3 x4) mi_X9_canBe kw_7_155 ⟨rfl, rfl⟩ ⟨Nat.le_of_ble_eq_true rfl, Nat.le_of_ble_eq_true rfl⟩ hP hK mW_0 rfl rfl hl.1 (Nat.le_of_ble_eq_true rfl) ⟨Nat.le_of_ble_eq_true rfl, Nat.le_of_ble_eq_true rfl⟩ dX9_node_21 ?_
  refine lv_if_ne (tgt := 33) hx hb dX9_node_24 (by decide) (fun c => absurd c (by decide)) (fun _ => ?_)
  refine lv_aload_n hx hb dX9_node_27 rfl (lv_at hl 0 rfl) ?_
  refine lv_iconst (v := 1) hx hb dX9_node_28 (by decide) ?_
  refine wrV (As := [.int 1]) (ci := 9) S (c_X9_no_0 l D cI cZ cJ o q H.size) mi_X9_no kw_7_104 rfl rfl ⟨Nat.le_of_ble_eq_true rfl, Nat.le_of_ble_eq_true rfl⟩ hP hD hK hS hA mW_0 rfl rfl hl.1 (Nat.le_of_ble_eq_true rfl) ⟨Nat.le_of_ble_eq_true rfl, Nat.le_of_ble_eq_true rfl⟩ dX9_node_29 (fun H locs hz hP hD hS => ?_)
  exact wEnd S hr hlocks hP hD hS (Nat.le_of_ble_eq_true rfl) (Nat.le_of_ble_eq_true rfl) dX9_node_32 rfl

set_option maxHeartbeats 8000000 in
set_option maxRecDepth 100000 in
theorem h_node_34 (l : Launch) (D : va_G) (cI cZ cJ : ClassId) (o : Nat) (u : Nat → Nat) (ao : Nat) (hst : l.stackTraces = false) (ra ga : Nat → Nat) (sz : Nat) (x2 : Int32) (x3 : Int32) (x4 : Int32) : vx_Met l yL_node (uWh yL_node cL_node 7 (some .int) [(0, 14, 17, 15), (0, 14, 21, 17)]) ({ frames := 8, cells := 1, slots := 6, locals := 126 }) (va_Pc [.ref o, .int 14, .int x2, .int x3, .int x4, .ref ao] (lS ra ga D (tyL cI cZ cJ) ((xW o u cI cZ cJ) ++ [(ao, .inl (cJ, 1, .inr (.inl (fun _ => 0))))]) sz)) (wQi (1) D ((xW o u cI cZ cJ) ++ [(ao, .inl (cJ, 1, .inr (.inl (fun _ => 0))))]) (va_A ((xW o u cI cZ cJ) ++ [(ao, .inl (cJ, 1, .inr (.inl (fun _ => 0))))]) sz)) (xN (va_A ((xW o u cI cZ cJ) ++ [(ao, .inl (cJ, 1, .inr (.inl (fun _ => 0))))]) sz)) 1 6 (va_A ((xW o u cI cZ cJ) ++ [(ao, .inl (cJ, 1, .inr (.inl (fun _ => 0))))]) sz) := by
  refine hStart (l := l) (y := yL_node) (b := cL_node) (n := 7) (r := (some .int)) (hh := [(0, 14, 17, 15), (0, 14, 21, 17)]) (rm := ({ frames := 8, cells := 1, slots := 6, locals := 126 })) (mc := 1) (ms := 6) (ra := ra) (ga := ga) (D := D) (tys := tyL cI cZ cJ) (ws := ((xW o u cI cZ cJ) ++ [(ao, .inl (cJ, 1, .inr (.inl (fun _ => 0))))])) (av := [.ref o, .int 14, .int x2, .int x3, .int x4, .ref ao]) (sz := sz) (lv := [(0, .ref o), (1, .int 14), (2, .int x2), (3, .int x3), (4, .int x4), (5, .ref ao)]) (Qc := fun A => wQi (1) D ((xW o u cI cZ cJ) ++ [(ao, .inl (cJ, 1, .inr (.inl (fun _ => 0))))]) A) (by decide) (Nat.le_of_ble_eq_true rfl) rfl ?_
  intro p e s m args below meth c ls A H S hr hlocks htab hl hK hP hD hS hA hB hC
  have hx := S.1
  have hb := S.2.1
  refine lv_aload hx hb dL_node_0 (lv_at hl 5 rfl) ?_
  refine lv_iconst (v := 0) hx hb dL_node_2 (by decide) ?_
  refine lv_aload_n hx hb dL_node_3 rfl (lv_at hl 0 rfl) ?_
  refine lv_iload_n hx hb dL_node_4 rfl (lv_at hl 1 rfl) ?_
  refine lv_iload_n hx hb dL_node_5 rfl (lv_at hl 2 rfl) ?_
  refine lv_iload_n hx hb dL_node_6 rfl (lv_at hl 3 rfl) ?_
  refine lv_iload hx hb dL_node_7 (lv_at hl 4 rfl) ?_
  refine cVi [] [(ao, .inl (cJ, 1, .inr (.inl (fun _ => 0))))] (As := [.int 14, .int x2, .int x3, .int x4]) (ci := 8) S (c_X8_node_34 l D cI cZ cJ o u hst ra ga H.size x2 x3 x4) mi_X8_node kw_6_23 rfl rfl ⟨Nat.le_of_ble_eq_true rfl, Nat.le_of_ble_eq_true rfl⟩ hP hD hK hS hA hB xW_0 rfl rfl hl.1 (Nat.le_of_ble_eq_true rfl) ⟨Nat.le_of_ble_eq_true rfl, Nat.le_of_ble_eq_true rfl⟩ dL_node_9 (fun ce q9 H locs hz hP hD hS hce hcv hcl => ?_)
  refine vx_catch (name := "java/lang/IllegalArgumentException") S.2.2.2.1 [] (⟨0, 14, 17, 15⟩ : ExceptionTableEntry) [(⟨0, 14, 21, 17⟩ : ExceptionTableEntry)] (htab.trans rfl) (fun _ h => absurd h List.not_mem_nil) (by decide) (by decide) (S.2.2.2.2 _ kw_5_177) (va_Nw.use rfl hB.c1) hce hcv hcl ?_
  have hP : va_P D vwCl ((xW o u cI cZ cJ) ++ [(ao, .inl (cJ, 1, .inr (.inl (fun _ => 0))))]) H := hP
  have hD : va_D A ((xW o u cI cZ cJ) ++ [(ao, .inl (cJ, 1, .inr (.inl (fun _ => 0))))]) := hD
  refine lv_astore (lv' := [(6, .ref q9), (0, .ref o), (1, .int 14), (2, .int x2), (3, .int x3), (4, .int x4), (5, .ref ao)]) hx hb dL_node_17 hl (by decide) rfl (fun ls hl => ?_)
  refine lv_iconst (v := 1) hx hb dL_node_19 (by decide) ?_
  exact vx_ret (wEnd S hr hlocks hP hD hS (Nat.le_of_ble_eq_true rfl) (Nat.le_of_ble_eq_true rfl) dL_node_20 rfl)

set_option maxHeartbeats 8000000 in
set_option maxRecDepth 100000 in
theorem c_X9_isIn_53 (l : Launch) (D : va_G) (cI cZ cJ : ClassId) (o : Nat) (q : Nat → Nat) : Met l yX9_isIn (uW yX9_isIn cX9_isIn 3 (some .boolean)) ({ frames := 0, cells := 0, slots := 0, locals := 0 }) (va_Pc [.int 14, .int 0, .int 21] (pS D (tyL cI cZ cJ) (mW o 0 q cI cZ))) (QcRead (1)) 0 0 (fun _ => False) := by
  refine rdStart (lv := [(0, .int 14), (1, .int 0), (2, .int 21)]) (by decide) (Nat.le_of_ble_eq_true rfl) rfl ?_
  intro p e s m args below meth c ls S hr hlocks hl hP hK
  have hx := S.1
  have hb := S.2.1
  refine lv_iload_n hx hb dX9_isIn_0 rfl (lv_at hl 0 rfl) ?_
  refine lv_iload_n hx hb dX9_isIn_1 rfl (lv_at hl 1 rfl) ?_
  refine lv_icmp_lt (tgt := 14) hx hb dX9_isIn_2 (by decide) (fun c => absurd c (by decide)) (fun _ => ?_)
  refine lv_iload_n hx hb dX9_isIn_5 rfl (lv_at hl 0 rfl) ?_
  refine lv_iload_n hx hb dX9_isIn_6 rfl (lv_at hl 2 rfl) ?_
  refine lv_icmp_gt (tgt := 14) hx hb dX9_isIn_7 (by decide) (fun c => absurd c (by decide)) (fun _ => ?_)
  refine lv_iconst (v := 1) hx hb dX9_isIn_10 (by decide) ?_
  refine lv_goto (tgt := 15) hx hb dX9_isIn_11 (by decide) ?_
  exact rdEndZ S hr hlocks dX9_isIn_15 rfl rfl

set_option maxHeartbeats 8000000 in
set_option maxRecDepth 100000 in
theorem c_X9_canBe_34 (l : Launch) (D : va_G) (cI cZ cJ : ClassId) (o : Nat) (q : Nat → Nat) (x2 : Int32) (x3 : Int32) (x4 : Int32) : Met l yX9_canBe (uW yX9_canBe cX9_canBe 5 (some .boolean)) ({ frames := 4, cells := 0, slots := 0, locals := 85 }) (va_Pc [.ref o, .int 14, .int x2, .int x3, .int x4] (pS D (tyL cI cZ cJ) (mW o 0 q cI cZ))) (QcRead (0)) 0 0 (fun _ => False) := by
  refine rdStart (lv := [(0, .ref o), (1, .int 14), (2, .int x2), (3, .int x3), (4, .int x4)]) (by decide) (Nat.le_of_ble_eq_true rfl) rfl ?_
  intro p e s m args below meth c ls S hr hlocks hl hP hK
  have hx := S.1
  have hb := S.2.1
  refine lv_iload_n hx hb dX9_canBe_0 rfl (lv_at hl 1 rfl) ?_
  refine lv_tableIn (off := 332) (tgt := 333) hx hb dX9_canBe_1 (by decide) (by decide) (by decide) (by decide) ?_
  refine lv_iload_n hx hb dX9_canBe_333 rfl (lv_at hl 2 rfl) ?_
  by_cases d_334 : x2 < 0
  · have hi_x2 : x2 ≤ (-1) := u_lt d_334 (by decide)
    refine rdS (As := [.int x2]) S (c_X9_isName_0 l D cI cZ cJ o q x2 hi_x2) ms_X9_isName kw_7_108 ⟨rfl, rfl⟩ ⟨Nat.le_of_ble_eq_true rfl, Nat.le_of_ble_eq_true rfl⟩ hP hK hl.1 (Nat.le_of_ble_eq_true rfl) ⟨Nat.le_of_ble_eq_true rfl, Nat.le_of_ble_eq_true rfl⟩ dX9_canBe_334 ?_
    refine lv_if_eq (tgt := 367) hx hb dX9_canBe_337 (by decide) (fun _ => ?_) (fun c => absurd c (by decide))
    refine lv_iconst (v := 0) hx hb dX9_canBe_367 (by decide) ?_
    exact rdEndZ S hr hlocks dX9_canBe_368 rfl rfl
  · have lo_x2 : 0 ≤ x2 := l_nlt d_334
    by_cases d_334 : 15 < x2
    · have lo_x2 : 16 ≤ x2 := l_gt d_334 (by decide)
      refine rdS (As := [.int x2]) S (c_X9_isName_1 l D cI cZ cJ o q x2 lo_x2) ms_X9_isName kw_7_108 ⟨rfl, rfl⟩ ⟨Nat.le_of_ble_eq_true rfl, Nat.le_of_ble_eq_true rfl⟩ hP hK hl.1 (Nat.le_of_ble_eq_true rfl) ⟨Nat.le_of_ble_eq_true rfl, Nat.le_of_ble_eq_true rfl⟩ dX9_canBe_334 ?_
      refine lv_if_eq (tgt := 367) hx hb dX9_canBe_337 (by decide) (fun _ => ?_) (fun c => absurd c (by decide))
      refine lv_iconst (v := 0) hx hb dX9_canBe_367 (by decide) ?_
      exact rdEndZ S hr hlocks dX9_canBe_368 rfl rfl
    · have hi_x2 : x2 ≤ 15 := u_ngt d_334
      refine rdS (As := [.int x2]) S (c_X9_isName_2 l D cI cZ cJ o q x2 lo_x2 hi_x2) ms_X9_isName kw_7_108 ⟨rfl, rfl⟩ ⟨Nat.le_of_ble_eq_true rfl, Nat.le_of_ble_eq_true rfl⟩ hP hK hl.1 (Nat.le_of_ble_eq_true rfl) ⟨Nat.le_of_ble_eq_true rfl, Nat.le_of_ble_eq_true rfl⟩ dX9_canBe_334 ?_
      refine lv_if_eq (tgt := 367) hx hb dX9_canBe_337 (by decide) (fun c => absurd c (by decide)) (fun _ => ?_)
      refine lv_aload_n hx hb dX9_canBe_340 rfl (lv_at hl 0 rfl) ?_
      refine lv_iload_n hx hb dX9_canBe_341 rfl (lv_at hl 3 rfl) ?_
      refine rdV (As := [.int x3]) (ci := 9) S (c_X9_isFreeExpression_0 l D cI cZ cJ o q x3) mi_X9_isFreeExpression kw_7_159 ⟨rfl, rfl⟩ ⟨Nat.le_of_ble_eq_true rfl, Nat.le_of_ble_eq_true rfl⟩ hP hK mW_0 rfl rfl hl.1 (Nat.le_of_ble_eq_true rfl) ⟨Nat.le_of_ble_eq_true rfl, Nat.le_of_ble_eq_true rfl⟩ dX9_canBe_342 ?_
      refine lv_if_eq (tgt := 367) hx hb dX9_canBe_345 (by decide) (fun _ => ?_) (fun c => absurd c (by decide))
      refine lv_iconst (v := 0) hx hb dX9_canBe_367 (by decide) ?_
      exact rdEndZ S hr hlocks dX9_canBe_368 rfl rfl

set_option maxHeartbeats 8000000 in
set_option maxRecDepth 100000 in
theorem c_X9_node_34 (l : Launch) (D : va_G) (cI cZ cJ : ClassId) (o : Nat) (q : Nat → Nat) (sz : Nat) (x2 : Int32) (x3 : Int32) (x4 : Int32) : Met l yX9_node (uW yX9_node cX9_node 6 (some .int)) ({ frames := 5, cells := 0, slots := 0, locals := 109 }) (va_Pc [.ref o, .int 14, .int x2, .int x3, .int x4] (wS D (tyL cI cZ cJ) (mW o 0 q cI cZ) sz)) (wQi (0) D (mW o 1 q cI cZ) (va_A (mW o 0 q cI cZ) sz)) 0 0 (va_A (mW o 0 q cI cZ) sz) := by
  refine wStart (lv := [(0, .ref o), (1, .int 14), (2, .int x2), (3, .int x3), (4, .int x4)]) (Qc := fun A => wQi (0) D (mW o 1 q cI cZ) A) (by decide) (Nat.le_of_ble_eq_true rfl) rfl ?_
  intro p e s m args below meth c ls A H S hr hlocks hnm hl hK hP hD hS hA
  have hx := S.1
  have hb := S.2.1
  refine lv_aload_n hx hb dX9_node_0 rfl (lv_at hl 0 rfl) ?_
  refine lv_iconst (v := 0) hx hb dX9_node_1 (by decide) ?_
  refine xp (ci := 9) (v := .int 0) S inX9 tyX9 tyX9_ok nmX9 rfl hK hP hD hS mW_0 0 (by decide) kw_6_148 rfl rfl rfl rfl (Nat.le_of_ble_eq_true rfl) dX9_node_2 (fun H locs hP hD hS => ?_)
  have hP : va_P D vwCl (mW o 0 q cI cZ) H := hP
  have hD : va_D A (mW o 0 q cI cZ) := hD
  refine lv_iload_n hx hb dX9_node_5 rfl (lv_at hl 1 rfl) ?_
  refine lv_iconst (v := 0) hx hb dX9_node_6 (by decide) ?_
  refine lv_bipush (v := 21) hx hb dX9_node_7 (by decide) ?_
  refine rdS (As := [.int 14, .int 0, .int 21]) S (c_X9_isIn_53 l D cI cZ cJ o q) ms_X9_isIn kw_7_101 ⟨rfl, rfl⟩ ⟨Nat.le_of_ble_eq_true rfl, Nat.le_of_ble_eq_true rfl⟩ hP hK hl.1 (Nat.le_of_ble_eq_true rfl) ⟨Nat.le_of_ble_eq_true rfl, Nat.le_of_ble_eq_true rfl⟩ dX9_node_9 ?_
  refine lv_if_eq (tgt := 27) hx hb dX9_node_12 (by decide) (fun c => absurd c (by decide)) (fun _ => ?_)
  refine lv_aload_n hx hb dX9_node_15 rfl (lv_at hl 0 rfl) ?_
  refine lv_iload_n hx hb dX9_node_16 rfl (lv_at hl 1 rfl) ?_
  refine lv_iload_n hx hb dX9_node_17 rfl (lv_at hl 2 rfl) ?_
  refine lv_iload_n hx hb dX9_node_18 rfl (lv_at hl 3 rfl) ?_
  refine lv_iload hx hb dX9_node_19 (lv_at hl 4 rfl) ?_
  refine rdV (As := [.int 14, .int x2, .int x3, .int x4]) (ci := 9) S (c_X9_canBe_34 l D cI cZ cJ o q x2 x3 x4) mi_X9_canBe kw_7_155 ⟨rfl, rfl⟩ ⟨Nat.le_of_ble_eq_true rfl, Nat.le_of_ble_eq_true rfl⟩ hP hK mW_0 rfl rfl hl.1 (Nat.le_of_ble_eq_true rfl) ⟨Nat.le_of_ble_eq_true rfl, Nat.le_of_ble_eq_true rfl⟩ dX9_node_21 ?_
  refine lv_if_ne (tgt := 33) hx hb dX9_node_24 (by decide) (fun c => absurd c (by decide)) (fun _ => ?_)
  refine lv_aload_n hx hb dX9_node_27 rfl (lv_at hl 0 rfl) ?_
  refine lv_iconst (v := 1) hx hb dX9_node_28 (by decide) ?_
  refine wrV (As := [.int 1]) (ci := 9) S (c_X9_no_0 l D cI cZ cJ o q H.size) mi_X9_no kw_7_104 rfl rfl ⟨Nat.le_of_ble_eq_true rfl, Nat.le_of_ble_eq_true rfl⟩ hP hD hK hS hA mW_0 rfl rfl hl.1 (Nat.le_of_ble_eq_true rfl) ⟨Nat.le_of_ble_eq_true rfl, Nat.le_of_ble_eq_true rfl⟩ dX9_node_29 (fun H locs hz hP hD hS => ?_)
  exact wEnd S hr hlocks hP hD hS (Nat.le_of_ble_eq_true rfl) (Nat.le_of_ble_eq_true rfl) dX9_node_32 rfl

set_option maxHeartbeats 8000000 in
set_option maxRecDepth 100000 in
theorem h_node_35 (l : Launch) (D : va_G) (cI cZ cJ : ClassId) (o : Nat) (u : Nat → Nat) (ao : Nat) (hst : l.stackTraces = false) (ra ga : Nat → Nat) (sz : Nat) (x2 : Int32) (x3 : Int32) (x4 : Int32) : vx_Met l yL_node (uWh yL_node cL_node 7 (some .int) [(0, 14, 17, 15), (0, 14, 21, 17)]) ({ frames := 8, cells := 1, slots := 6, locals := 126 }) (va_Pc [.ref o, .int 15, .int x2, .int x3, .int x4, .ref ao] (lS ra ga D (tyL cI cZ cJ) ((xW o u cI cZ cJ) ++ [(ao, .inl (cJ, 1, .inr (.inl (fun _ => 0))))]) sz)) (wQi (1) D ((xW o u cI cZ cJ) ++ [(ao, .inl (cJ, 1, .inr (.inl (fun _ => 0))))]) (va_A ((xW o u cI cZ cJ) ++ [(ao, .inl (cJ, 1, .inr (.inl (fun _ => 0))))]) sz)) (xN (va_A ((xW o u cI cZ cJ) ++ [(ao, .inl (cJ, 1, .inr (.inl (fun _ => 0))))]) sz)) 1 6 (va_A ((xW o u cI cZ cJ) ++ [(ao, .inl (cJ, 1, .inr (.inl (fun _ => 0))))]) sz) := by
  refine hStart (l := l) (y := yL_node) (b := cL_node) (n := 7) (r := (some .int)) (hh := [(0, 14, 17, 15), (0, 14, 21, 17)]) (rm := ({ frames := 8, cells := 1, slots := 6, locals := 126 })) (mc := 1) (ms := 6) (ra := ra) (ga := ga) (D := D) (tys := tyL cI cZ cJ) (ws := ((xW o u cI cZ cJ) ++ [(ao, .inl (cJ, 1, .inr (.inl (fun _ => 0))))])) (av := [.ref o, .int 15, .int x2, .int x3, .int x4, .ref ao]) (sz := sz) (lv := [(0, .ref o), (1, .int 15), (2, .int x2), (3, .int x3), (4, .int x4), (5, .ref ao)]) (Qc := fun A => wQi (1) D ((xW o u cI cZ cJ) ++ [(ao, .inl (cJ, 1, .inr (.inl (fun _ => 0))))]) A) (by decide) (Nat.le_of_ble_eq_true rfl) rfl ?_
  intro p e s m args below meth c ls A H S hr hlocks htab hl hK hP hD hS hA hB hC
  have hx := S.1
  have hb := S.2.1
  refine lv_aload hx hb dL_node_0 (lv_at hl 5 rfl) ?_
  refine lv_iconst (v := 0) hx hb dL_node_2 (by decide) ?_
  refine lv_aload_n hx hb dL_node_3 rfl (lv_at hl 0 rfl) ?_
  refine lv_iload_n hx hb dL_node_4 rfl (lv_at hl 1 rfl) ?_
  refine lv_iload_n hx hb dL_node_5 rfl (lv_at hl 2 rfl) ?_
  refine lv_iload_n hx hb dL_node_6 rfl (lv_at hl 3 rfl) ?_
  refine lv_iload hx hb dL_node_7 (lv_at hl 4 rfl) ?_
  refine cVi [] [(ao, .inl (cJ, 1, .inr (.inl (fun _ => 0))))] (As := [.int 15, .int x2, .int x3, .int x4]) (ci := 8) S (c_X8_node_35 l D cI cZ cJ o u hst ra ga H.size x2 x3 x4) mi_X8_node kw_6_23 rfl rfl ⟨Nat.le_of_ble_eq_true rfl, Nat.le_of_ble_eq_true rfl⟩ hP hD hK hS hA hB xW_0 rfl rfl hl.1 (Nat.le_of_ble_eq_true rfl) ⟨Nat.le_of_ble_eq_true rfl, Nat.le_of_ble_eq_true rfl⟩ dL_node_9 (fun ce q9 H locs hz hP hD hS hce hcv hcl => ?_)
  refine vx_catch (name := "java/lang/IllegalArgumentException") S.2.2.2.1 [] (⟨0, 14, 17, 15⟩ : ExceptionTableEntry) [(⟨0, 14, 21, 17⟩ : ExceptionTableEntry)] (htab.trans rfl) (fun _ h => absurd h List.not_mem_nil) (by decide) (by decide) (S.2.2.2.2 _ kw_5_177) (va_Nw.use rfl hB.c1) hce hcv hcl ?_
  have hP : va_P D vwCl ((xW o u cI cZ cJ) ++ [(ao, .inl (cJ, 1, .inr (.inl (fun _ => 0))))]) H := hP
  have hD : va_D A ((xW o u cI cZ cJ) ++ [(ao, .inl (cJ, 1, .inr (.inl (fun _ => 0))))]) := hD
  refine lv_astore (lv' := [(6, .ref q9), (0, .ref o), (1, .int 15), (2, .int x2), (3, .int x3), (4, .int x4), (5, .ref ao)]) hx hb dL_node_17 hl (by decide) rfl (fun ls hl => ?_)
  refine lv_iconst (v := 1) hx hb dL_node_19 (by decide) ?_
  exact vx_ret (wEnd S hr hlocks hP hD hS (Nat.le_of_ble_eq_true rfl) (Nat.le_of_ble_eq_true rfl) dL_node_20 rfl)

set_option maxHeartbeats 8000000 in
set_option maxRecDepth 100000 in
theorem c_X9_isIn_54 (l : Launch) (D : va_G) (cI cZ cJ : ClassId) (o : Nat) (q : Nat → Nat) : Met l yX9_isIn (uW yX9_isIn cX9_isIn 3 (some .boolean)) ({ frames := 0, cells := 0, slots := 0, locals := 0 }) (va_Pc [.int 15, .int 0, .int 21] (pS D (tyL cI cZ cJ) (mW o 0 q cI cZ))) (QcRead (1)) 0 0 (fun _ => False) := by
  refine rdStart (lv := [(0, .int 15), (1, .int 0), (2, .int 21)]) (by decide) (Nat.le_of_ble_eq_true rfl) rfl ?_
  intro p e s m args below meth c ls S hr hlocks hl hP hK
  have hx := S.1
  have hb := S.2.1
  refine lv_iload_n hx hb dX9_isIn_0 rfl (lv_at hl 0 rfl) ?_
  refine lv_iload_n hx hb dX9_isIn_1 rfl (lv_at hl 1 rfl) ?_
  refine lv_icmp_lt (tgt := 14) hx hb dX9_isIn_2 (by decide) (fun c => absurd c (by decide)) (fun _ => ?_)
  refine lv_iload_n hx hb dX9_isIn_5 rfl (lv_at hl 0 rfl) ?_
  refine lv_iload_n hx hb dX9_isIn_6 rfl (lv_at hl 2 rfl) ?_
  refine lv_icmp_gt (tgt := 14) hx hb dX9_isIn_7 (by decide) (fun c => absurd c (by decide)) (fun _ => ?_)
  refine lv_iconst (v := 1) hx hb dX9_isIn_10 (by decide) ?_
  refine lv_goto (tgt := 15) hx hb dX9_isIn_11 (by decide) ?_
  exact rdEndZ S hr hlocks dX9_isIn_15 rfl rfl

set_option maxHeartbeats 8000000 in
set_option maxRecDepth 100000 in
theorem c_X9_canBe_35 (l : Launch) (D : va_G) (cI cZ cJ : ClassId) (o : Nat) (q : Nat → Nat) (x2 : Int32) (x3 : Int32) (x4 : Int32) : Met l yX9_canBe (uW yX9_canBe cX9_canBe 5 (some .boolean)) ({ frames := 4, cells := 0, slots := 0, locals := 85 }) (va_Pc [.ref o, .int 15, .int x2, .int x3, .int x4] (pS D (tyL cI cZ cJ) (mW o 0 q cI cZ))) (QcRead (0)) 0 0 (fun _ => False) := by
  refine rdStart (lv := [(0, .ref o), (1, .int 15), (2, .int x2), (3, .int x3), (4, .int x4)]) (by decide) (Nat.le_of_ble_eq_true rfl) rfl ?_
  intro p e s m args below meth c ls S hr hlocks hl hP hK
  have hx := S.1
  have hb := S.2.1
  refine lv_iload_n hx hb dX9_canBe_0 rfl (lv_at hl 1 rfl) ?_
  refine lv_tableIn (off := 368) (tgt := 369) hx hb dX9_canBe_1 (by decide) (by decide) (by decide) (by decide) ?_
  refine lv_aload_n hx hb dX9_canBe_369 rfl (lv_at hl 0 rfl) ?_
  refine lv_iload_n hx hb dX9_canBe_370 rfl (lv_at hl 3 rfl) ?_
  refine rdV (As := [.int x3]) (ci := 9) S (c_X9_isFreeExpression_0 l D cI cZ cJ o q x3) mi_X9_isFreeExpression kw_7_159 ⟨rfl, rfl⟩ ⟨Nat.le_of_ble_eq_true rfl, Nat.le_of_ble_eq_true rfl⟩ hP hK mW_0 rfl rfl hl.1 (Nat.le_of_ble_eq_true rfl) ⟨Nat.le_of_ble_eq_true rfl, Nat.le_of_ble_eq_true rfl⟩ dX9_canBe_371 ?_
  refine lv_if_eq (tgt := 409) hx hb dX9_canBe_374 (by decide) (fun _ => ?_) (fun c => absurd c (by decide))
  refine lv_iconst (v := 0) hx hb dX9_canBe_409 (by decide) ?_
  exact rdEndZ S hr hlocks dX9_canBe_410 rfl rfl

set_option maxHeartbeats 8000000 in
set_option maxRecDepth 100000 in
theorem c_X9_node_35 (l : Launch) (D : va_G) (cI cZ cJ : ClassId) (o : Nat) (q : Nat → Nat) (sz : Nat) (x2 : Int32) (x3 : Int32) (x4 : Int32) : Met l yX9_node (uW yX9_node cX9_node 6 (some .int)) ({ frames := 5, cells := 0, slots := 0, locals := 109 }) (va_Pc [.ref o, .int 15, .int x2, .int x3, .int x4] (wS D (tyL cI cZ cJ) (mW o 0 q cI cZ) sz)) (wQi (0) D (mW o 1 q cI cZ) (va_A (mW o 0 q cI cZ) sz)) 0 0 (va_A (mW o 0 q cI cZ) sz) := by
  refine wStart (lv := [(0, .ref o), (1, .int 15), (2, .int x2), (3, .int x3), (4, .int x4)]) (Qc := fun A => wQi (0) D (mW o 1 q cI cZ) A) (by decide) (Nat.le_of_ble_eq_true rfl) rfl ?_
  intro p e s m args below meth c ls A H S hr hlocks hnm hl hK hP hD hS hA
  have hx := S.1
  have hb := S.2.1
  refine lv_aload_n hx hb dX9_node_0 rfl (lv_at hl 0 rfl) ?_
  refine lv_iconst (v := 0) hx hb dX9_node_1 (by decide) ?_
  refine xp (ci := 9) (v := .int 0) S inX9 tyX9 tyX9_ok nmX9 rfl hK hP hD hS mW_0 0 (by decide) kw_6_148 rfl rfl rfl rfl (Nat.le_of_ble_eq_true rfl) dX9_node_2 (fun H locs hP hD hS => ?_)
  have hP : va_P D vwCl (mW o 0 q cI cZ) H := hP
  have hD : va_D A (mW o 0 q cI cZ) := hD
  refine lv_iload_n hx hb dX9_node_5 rfl (lv_at hl 1 rfl) ?_
  refine lv_iconst (v := 0) hx hb dX9_node_6 (by decide) ?_
  refine lv_bipush (v := 21) hx hb dX9_node_7 (by decide) ?_
  refine rdS (As := [.int 15, .int 0, .int 21]) S (c_X9_isIn_54 l D cI cZ cJ o q) ms_X9_isIn kw_7_101 ⟨rfl, rfl⟩ ⟨Nat.le_of_ble_eq_true rfl, Nat.le_of_ble_eq_true rfl⟩ hP hK hl.1 (Nat.le_of_ble_eq_true rfl) ⟨Nat.le_of_ble_eq_true rfl, Nat.le_of_ble_eq_true rfl⟩ dX9_node_9 ?_
  refine lv_if_eq (tgt := 27) hx hb dX9_node_12 (by decide) (fun c => absurd c (by decide)) (fun _ => ?_)
  refine lv_aload_n hx hb dX9_node_15 rfl (lv_at hl 0 rfl) ?_
  refine lv_iload_n hx hb dX9_node_16 rfl (lv_at hl 1 rfl) ?_
  refine lv_iload_n hx hb dX9_node_17 rfl (lv_at hl 2 rfl) ?_
  refine lv_iload_n hx hb dX9_node_18 rfl (lv_at hl 3 rfl) ?_
  refine lv_iload hx hb dX9_node_19 (lv_at hl 4 rfl) ?_
  refine rdV (As := [.int 15, .int x2, .int x3, .int x4]) (ci := 9) S (c_X9_canBe_35 l D cI cZ cJ o q x2 x3 x4) mi_X9_canBe kw_7_155 ⟨rfl, rfl⟩ ⟨Nat.le_of_ble_eq_true rfl, Nat.le_of_ble_eq_true rfl⟩ hP hK mW_0 rfl rfl hl.1 (Nat.le_of_ble_eq_true rfl) ⟨Nat.le_of_ble_eq_true rfl, Nat.le_of_ble_eq_true rfl⟩ dX9_node_21 ?_
  refine lv_if_ne (tgt := 33) hx hb dX9_node_24 (by decide) (fun c => absurd c (by decide)) (fun _ => ?_)
  refine lv_aload_n hx hb dX9_node_27 rfl (lv_at hl 0 rfl) ?_
  refine lv_iconst (v := 1) hx hb dX9_node_28 (by decide) ?_
  refine wrV (As := [.int 1]) (ci := 9) S (c_X9_no_0 l D cI cZ cJ o q H.size) mi_X9_no kw_7_104 rfl rfl ⟨Nat.le_of_ble_eq_true rfl, Nat.le_of_ble_eq_true rfl⟩ hP hD hK hS hA mW_0 rfl rfl hl.1 (Nat.le_of_ble_eq_true rfl) ⟨Nat.le_of_ble_eq_true rfl, Nat.le_of_ble_eq_true rfl⟩ dX9_node_29 (fun H locs hz hP hD hS => ?_)
  exact wEnd S hr hlocks hP hD hS (Nat.le_of_ble_eq_true rfl) (Nat.le_of_ble_eq_true rfl) dX9_node_32 rfl

set_option maxHeartbeats 8000000 in
set_option maxRecDepth 100000 in
theorem h_node_36 (l : Launch) (D : va_G) (cI cZ cJ : ClassId) (o : Nat) (u : Nat → Nat) (ao : Nat) (hst : l.stackTraces = false) (ra ga : Nat → Nat) (sz : Nat) (x2 : Int32) (x3 : Int32) (x4 : Int32) : vx_Met l yL_node (uWh yL_node cL_node 7 (some .int) [(0, 14, 17, 15), (0, 14, 21, 17)]) ({ frames := 8, cells := 1, slots := 6, locals := 126 }) (va_Pc [.ref o, .int 16, .int x2, .int x3, .int x4, .ref ao] (lS ra ga D (tyL cI cZ cJ) ((xW o u cI cZ cJ) ++ [(ao, .inl (cJ, 1, .inr (.inl (fun _ => 0))))]) sz)) (wQi (1) D ((xW o u cI cZ cJ) ++ [(ao, .inl (cJ, 1, .inr (.inl (fun _ => 0))))]) (va_A ((xW o u cI cZ cJ) ++ [(ao, .inl (cJ, 1, .inr (.inl (fun _ => 0))))]) sz)) (xN (va_A ((xW o u cI cZ cJ) ++ [(ao, .inl (cJ, 1, .inr (.inl (fun _ => 0))))]) sz)) 1 6 (va_A ((xW o u cI cZ cJ) ++ [(ao, .inl (cJ, 1, .inr (.inl (fun _ => 0))))]) sz) := by
  refine hStart (l := l) (y := yL_node) (b := cL_node) (n := 7) (r := (some .int)) (hh := [(0, 14, 17, 15), (0, 14, 21, 17)]) (rm := ({ frames := 8, cells := 1, slots := 6, locals := 126 })) (mc := 1) (ms := 6) (ra := ra) (ga := ga) (D := D) (tys := tyL cI cZ cJ) (ws := ((xW o u cI cZ cJ) ++ [(ao, .inl (cJ, 1, .inr (.inl (fun _ => 0))))])) (av := [.ref o, .int 16, .int x2, .int x3, .int x4, .ref ao]) (sz := sz) (lv := [(0, .ref o), (1, .int 16), (2, .int x2), (3, .int x3), (4, .int x4), (5, .ref ao)]) (Qc := fun A => wQi (1) D ((xW o u cI cZ cJ) ++ [(ao, .inl (cJ, 1, .inr (.inl (fun _ => 0))))]) A) (by decide) (Nat.le_of_ble_eq_true rfl) rfl ?_
  intro p e s m args below meth c ls A H S hr hlocks htab hl hK hP hD hS hA hB hC
  have hx := S.1
  have hb := S.2.1
  refine lv_aload hx hb dL_node_0 (lv_at hl 5 rfl) ?_
  refine lv_iconst (v := 0) hx hb dL_node_2 (by decide) ?_
  refine lv_aload_n hx hb dL_node_3 rfl (lv_at hl 0 rfl) ?_
  refine lv_iload_n hx hb dL_node_4 rfl (lv_at hl 1 rfl) ?_
  refine lv_iload_n hx hb dL_node_5 rfl (lv_at hl 2 rfl) ?_
  refine lv_iload_n hx hb dL_node_6 rfl (lv_at hl 3 rfl) ?_
  refine lv_iload hx hb dL_node_7 (lv_at hl 4 rfl) ?_
  refine cVi [] [(ao, .inl (cJ, 1, .inr (.inl (fun _ => 0))))] (As := [.int 16, .int x2, .int x3, .int x4]) (ci := 8) S (c_X8_node_36 l D cI cZ cJ o u hst ra ga H.size x2 x3 x4) mi_X8_node kw_6_23 rfl rfl ⟨Nat.le_of_ble_eq_true rfl, Nat.le_of_ble_eq_true rfl⟩ hP hD hK hS hA hB xW_0 rfl rfl hl.1 (Nat.le_of_ble_eq_true rfl) ⟨Nat.le_of_ble_eq_true rfl, Nat.le_of_ble_eq_true rfl⟩ dL_node_9 (fun ce q9 H locs hz hP hD hS hce hcv hcl => ?_)
  refine vx_catch (name := "java/lang/IllegalArgumentException") S.2.2.2.1 [] (⟨0, 14, 17, 15⟩ : ExceptionTableEntry) [(⟨0, 14, 21, 17⟩ : ExceptionTableEntry)] (htab.trans rfl) (fun _ h => absurd h List.not_mem_nil) (by decide) (by decide) (S.2.2.2.2 _ kw_5_177) (va_Nw.use rfl hB.c1) hce hcv hcl ?_
  have hP : va_P D vwCl ((xW o u cI cZ cJ) ++ [(ao, .inl (cJ, 1, .inr (.inl (fun _ => 0))))]) H := hP
  have hD : va_D A ((xW o u cI cZ cJ) ++ [(ao, .inl (cJ, 1, .inr (.inl (fun _ => 0))))]) := hD
  refine lv_astore (lv' := [(6, .ref q9), (0, .ref o), (1, .int 16), (2, .int x2), (3, .int x3), (4, .int x4), (5, .ref ao)]) hx hb dL_node_17 hl (by decide) rfl (fun ls hl => ?_)
  refine lv_iconst (v := 1) hx hb dL_node_19 (by decide) ?_
  exact vx_ret (wEnd S hr hlocks hP hD hS (Nat.le_of_ble_eq_true rfl) (Nat.le_of_ble_eq_true rfl) dL_node_20 rfl)

set_option maxHeartbeats 8000000 in
set_option maxRecDepth 100000 in
theorem c_X9_isIn_55 (l : Launch) (D : va_G) (cI cZ cJ : ClassId) (o : Nat) (q : Nat → Nat) : Met l yX9_isIn (uW yX9_isIn cX9_isIn 3 (some .boolean)) ({ frames := 0, cells := 0, slots := 0, locals := 0 }) (va_Pc [.int 16, .int 0, .int 21] (pS D (tyL cI cZ cJ) (mW o 0 q cI cZ))) (QcRead (1)) 0 0 (fun _ => False) := by
  refine rdStart (lv := [(0, .int 16), (1, .int 0), (2, .int 21)]) (by decide) (Nat.le_of_ble_eq_true rfl) rfl ?_
  intro p e s m args below meth c ls S hr hlocks hl hP hK
  have hx := S.1
  have hb := S.2.1
  refine lv_iload_n hx hb dX9_isIn_0 rfl (lv_at hl 0 rfl) ?_
  refine lv_iload_n hx hb dX9_isIn_1 rfl (lv_at hl 1 rfl) ?_
  refine lv_icmp_lt (tgt := 14) hx hb dX9_isIn_2 (by decide) (fun c => absurd c (by decide)) (fun _ => ?_)
  refine lv_iload_n hx hb dX9_isIn_5 rfl (lv_at hl 0 rfl) ?_
  refine lv_iload_n hx hb dX9_isIn_6 rfl (lv_at hl 2 rfl) ?_
  refine lv_icmp_gt (tgt := 14) hx hb dX9_isIn_7 (by decide) (fun c => absurd c (by decide)) (fun _ => ?_)
  refine lv_iconst (v := 1) hx hb dX9_isIn_10 (by decide) ?_
  refine lv_goto (tgt := 15) hx hb dX9_isIn_11 (by decide) ?_
  exact rdEndZ S hr hlocks dX9_isIn_15 rfl rfl

set_option maxHeartbeats 8000000 in
set_option maxRecDepth 100000 in
theorem c_X9_isIn_56 (l : Launch) (D : va_G) (cI cZ cJ : ClassId) (o : Nat) (q : Nat → Nat) (x2 : Int32) (hi_x2 : x2 ≤ (-1)) : Met l yX9_isIn (uW yX9_isIn cX9_isIn 3 (some .boolean)) ({ frames := 0, cells := 0, slots := 0, locals := 0 }) (va_Pc [.int x2, .int 0, .int 9] (pS D (tyL cI cZ cJ) (mW o 0 q cI cZ))) (QcRead (0)) 0 0 (fun _ => False) := by
  refine rdStart (lv := [(0, .int x2), (1, .int 0), (2, .int 9)]) (by decide) (Nat.le_of_ble_eq_true rfl) rfl ?_
  intro p e s m args below meth c ls S hr hlocks hl hP hK
  have hx := S.1
  have hb := S.2.1
  refine lv_iload_n hx hb dX9_isIn_0 rfl (lv_at hl 0 rfl) ?_
  refine lv_iload_n hx hb dX9_isIn_1 rfl (lv_at hl 1 rfl) ?_
  refine lv_icmp_lt (tgt := 14) hx hb dX9_isIn_2 (by decide) (fun _ => ?_) (fun c => absurd (b_lt hi_x2 (by decide)) c)
  refine lv_iconst (v := 0) hx hb dX9_isIn_14 (by decide) ?_
  exact rdEndZ S hr hlocks dX9_isIn_15 rfl rfl

set_option maxHeartbeats 8000000 in
set_option maxRecDepth 100000 in
theorem c_X9_isIn_57 (l : Launch) (D : va_G) (cI cZ cJ : ClassId) (o : Nat) (q : Nat → Nat) (x2 : Int32) (lo_x2 : 10 ≤ x2) : Met l yX9_isIn (uW yX9_isIn cX9_isIn 3 (some .boolean)) ({ frames := 0, cells := 0, slots := 0, locals := 0 }) (va_Pc [.int x2, .int 0, .int 9] (pS D (tyL cI cZ cJ) (mW o 0 q cI cZ))) (QcRead (0)) 0 0 (fun _ => False) := by
  refine rdStart (lv := [(0, .int x2), (1, .int 0), (2, .int 9)]) (by decide) (Nat.le_of_ble_eq_true rfl) rfl ?_
  intro p e s m args below meth c ls S hr hlocks hl hP hK
  have hx := S.1
  have hb := S.2.1
  refine lv_iload_n hx hb dX9_isIn_0 rfl (lv_at hl 0 rfl) ?_
  refine lv_iload_n hx hb dX9_isIn_1 rfl (lv_at hl 1 rfl) ?_
  refine lv_icmp_lt (tgt := 14) hx hb dX9_isIn_2 (by decide) (fun c => absurd c (b_nlt lo_x2 (by decide))) (fun _ => ?_)
  refine lv_iload_n hx hb dX9_isIn_5 rfl (lv_at hl 0 rfl) ?_
  refine lv_iload_n hx hb dX9_isIn_6 rfl (lv_at hl 2 rfl) ?_
  refine lv_icmp_gt (tgt := 14) hx hb dX9_isIn_7 (by decide) (fun _ => ?_) (fun c => absurd (b_gt lo_x2 (by decide)) c)
  refine lv_iconst (v := 0) hx hb dX9_isIn_14 (by decide) ?_
  exact rdEndZ S hr hlocks dX9_isIn_15 rfl rfl

set_option maxHeartbeats 8000000 in
set_option maxRecDepth 100000 in
theorem c_X9_isIn_58 (l : Launch) (D : va_G) (cI cZ cJ : ClassId) (o : Nat) (q : Nat → Nat) (x2 : Int32) (lo_x2 : 0 ≤ x2) (hi_x2 : x2 ≤ 9) : Met l yX9_isIn (uW yX9_isIn cX9_isIn 3 (some .boolean)) ({ frames := 0, cells := 0, slots := 0, locals := 0 }) (va_Pc [.int x2, .int 0, .int 9] (pS D (tyL cI cZ cJ) (mW o 0 q cI cZ))) (QcRead (1)) 0 0 (fun _ => False) := by
  refine rdStart (lv := [(0, .int x2), (1, .int 0), (2, .int 9)]) (by decide) (Nat.le_of_ble_eq_true rfl) rfl ?_
  intro p e s m args below meth c ls S hr hlocks hl hP hK
  have hx := S.1
  have hb := S.2.1
  refine lv_iload_n hx hb dX9_isIn_0 rfl (lv_at hl 0 rfl) ?_
  refine lv_iload_n hx hb dX9_isIn_1 rfl (lv_at hl 1 rfl) ?_
  refine lv_icmp_lt (tgt := 14) hx hb dX9_isIn_2 (by decide) (fun c => absurd c (b_nlt lo_x2 (by decide))) (fun _ => ?_)
  refine lv_iload_n hx hb dX9_isIn_5 rfl (lv_at hl 0 rfl) ?_
  refine lv_iload_n hx hb dX9_isIn_6 rfl (lv_at hl 2 rfl) ?_
  refine lv_icmp_gt (tgt := 14) hx hb dX9_isIn_7 (by decide) (fun c => absurd c (b_ngt hi_x2 (by decide))) (fun _ => ?_)
  refine lv_iconst (v := 1) hx hb dX9_isIn_10 (by decide) ?_
  refine lv_goto (tgt := 15) hx hb dX9_isIn_11 (by decide) ?_
  exact rdEndZ S hr hlocks dX9_isIn_15 rfl rfl

set_option maxHeartbeats 8000000 in
set_option maxRecDepth 100000 in
theorem c_X9_canBe_36 (l : Launch) (D : va_G) (cI cZ cJ : ClassId) (o : Nat) (q : Nat → Nat) (x2 : Int32) (x3 : Int32) (x4 : Int32) : Met l yX9_canBe (uW yX9_canBe cX9_canBe 5 (some .boolean)) ({ frames := 4, cells := 0, slots := 0, locals := 85 }) (va_Pc [.ref o, .int 16, .int x2, .int x3, .int x4] (pS D (tyL cI cZ cJ) (mW o 0 q cI cZ))) (QcRead (0)) 0 0 (fun _ => False) := by
  refine rdStart (lv := [(0, .ref o), (1, .int 16), (2, .int x2), (3, .int x3), (4, .int x4)]) (by decide) (Nat.le_of_ble_eq_true rfl) rfl ?_
  intro p e s m args below meth c ls S hr hlocks hl hP hK
  have hx := S.1
  have hb := S.2.1
  refine lv_iload_n hx hb dX9_canBe_0 rfl (lv_at hl 1 rfl) ?_
  refine lv_tableIn (off := 410) (tgt := 411) hx hb dX9_canBe_1 (by decide) (by decide) (by decide) (by decide) ?_
  refine lv_iload_n hx hb dX9_canBe_411 rfl (lv_at hl 2 rfl) ?_
  refine lv_iconst (v := 0) hx hb dX9_canBe_412 (by decide) ?_
  refine lv_bipush (v := 9) hx hb dX9_canBe_413 (by decide) ?_
  by_cases d_415 : x2 < 0
  · have hi_x2 : x2 ≤ (-1) := u_lt d_415 (by decide)
    refine rdS (As := [.int x2, .int 0, .int 9]) S (c_X9_isIn_56 l D cI cZ cJ o q x2 hi_x2) ms_X9_isIn kw_7_101 ⟨rfl, rfl⟩ ⟨Nat.le_of_ble_eq_true rfl, Nat.le_of_ble_eq_true rfl⟩ hP hK hl.1 (Nat.le_of_ble_eq_true rfl) ⟨Nat.le_of_ble_eq_true rfl, Nat.le_of_ble_eq_true rfl⟩ dX9_canBe_415 ?_
    refine lv_if_eq (tgt := 442) hx hb dX9_canBe_418 (by decide) (fun _ => ?_) (fun c => absurd c (by decide))
    refine lv_iconst (v := 0) hx hb dX9_canBe_442 (by decide) ?_
    exact rdEndZ S hr hlocks dX9_canBe_443 rfl rfl
  · have lo_x2 : 0 ≤ x2 := l_nlt d_415
    by_cases d_415 : 9 < x2
    · have lo_x2 : 10 ≤ x2 := l_gt d_415 (by decide)
      refine rdS (As := [.int x2, .int 0, .int 9]) S (c_X9_isIn_57 l D cI cZ cJ o q x2 lo_x2) ms_X9_isIn kw_7_101 ⟨rfl, rfl⟩ ⟨Nat.le_of_ble_eq_true rfl, Nat.le_of_ble_eq_true rfl⟩ hP hK hl.1 (Nat.le_of_ble_eq_true rfl) ⟨Nat.le_of_ble_eq_true rfl, Nat.le_of_ble_eq_true rfl⟩ dX9_canBe_415 ?_
      refine lv_if_eq (tgt := 442) hx hb dX9_canBe_418 (by decide) (fun _ => ?_) (fun c => absurd c (by decide))
      refine lv_iconst (v := 0) hx hb dX9_canBe_442 (by decide) ?_
      exact rdEndZ S hr hlocks dX9_canBe_443 rfl rfl
    · have hi_x2 : x2 ≤ 9 := u_ngt d_415
      refine rdS (As := [.int x2, .int 0, .int 9]) S (c_X9_isIn_58 l D cI cZ cJ o q x2 lo_x2 hi_x2) ms_X9_isIn kw_7_101 ⟨rfl, rfl⟩ ⟨Nat.le_of_ble_eq_true rfl, Nat.le_of_ble_eq_true rfl⟩ hP hK hl.1 (Nat.le_of_ble_eq_true rfl) ⟨Nat.le_of_ble_eq_true rfl, Nat.le_of_ble_eq_true rfl⟩ dX9_canBe_415 ?_
      refine lv_if_eq (tgt := 442) hx hb dX9_canBe_418 (by decide) (fun c => absurd c (by decide)) (fun _ => ?_)
      refine lv_aload_n hx hb dX9_canBe_421 rfl (lv_at hl 0 rfl) ?_
      refine lv_iload_n hx hb dX9_canBe_422 rfl (lv_at hl 3 rfl) ?_
      refine rdV (As := [.int x3]) (ci := 9) S (c_X9_isFreeExpression_0 l D cI cZ cJ o q x3) mi_X9_isFreeExpression kw_7_159 ⟨rfl, rfl⟩ ⟨Nat.le_of_ble_eq_true rfl, Nat.le_of_ble_eq_true rfl⟩ hP hK mW_0 rfl rfl hl.1 (Nat.le_of_ble_eq_true rfl) ⟨Nat.le_of_ble_eq_true rfl, Nat.le_of_ble_eq_true rfl⟩ dX9_canBe_423 ?_
      refine lv_if_eq (tgt := 442) hx hb dX9_canBe_426 (by decide) (fun _ => ?_) (fun c => absurd c (by decide))
      refine lv_iconst (v := 0) hx hb dX9_canBe_442 (by decide) ?_
      exact rdEndZ S hr hlocks dX9_canBe_443 rfl rfl

set_option maxHeartbeats 8000000 in
set_option maxRecDepth 100000 in
theorem c_X9_node_36 (l : Launch) (D : va_G) (cI cZ cJ : ClassId) (o : Nat) (q : Nat → Nat) (sz : Nat) (x2 : Int32) (x3 : Int32) (x4 : Int32) : Met l yX9_node (uW yX9_node cX9_node 6 (some .int)) ({ frames := 5, cells := 0, slots := 0, locals := 109 }) (va_Pc [.ref o, .int 16, .int x2, .int x3, .int x4] (wS D (tyL cI cZ cJ) (mW o 0 q cI cZ) sz)) (wQi (0) D (mW o 1 q cI cZ) (va_A (mW o 0 q cI cZ) sz)) 0 0 (va_A (mW o 0 q cI cZ) sz) := by
  refine wStart (lv := [(0, .ref o), (1, .int 16), (2, .int x2), (3, .int x3), (4, .int x4)]) (Qc := fun A => wQi (0) D (mW o 1 q cI cZ) A) (by decide) (Nat.le_of_ble_eq_true rfl) rfl ?_
  intro p e s m args below meth c ls A H S hr hlocks hnm hl hK hP hD hS hA
  have hx := S.1
  have hb := S.2.1
  refine lv_aload_n hx hb dX9_node_0 rfl (lv_at hl 0 rfl) ?_
  refine lv_iconst (v := 0) hx hb dX9_node_1 (by decide) ?_
  refine xp (ci := 9) (v := .int 0) S inX9 tyX9 tyX9_ok nmX9 rfl hK hP hD hS mW_0 0 (by decide) kw_6_148 rfl rfl rfl rfl (Nat.le_of_ble_eq_true rfl) dX9_node_2 (fun H locs hP hD hS => ?_)
  have hP : va_P D vwCl (mW o 0 q cI cZ) H := hP
  have hD : va_D A (mW o 0 q cI cZ) := hD
  refine lv_iload_n hx hb dX9_node_5 rfl (lv_at hl 1 rfl) ?_
  refine lv_iconst (v := 0) hx hb dX9_node_6 (by decide) ?_
  refine lv_bipush (v := 21) hx hb dX9_node_7 (by decide) ?_
  refine rdS (As := [.int 16, .int 0, .int 21]) S (c_X9_isIn_55 l D cI cZ cJ o q) ms_X9_isIn kw_7_101 ⟨rfl, rfl⟩ ⟨Nat.le_of_ble_eq_true rfl, Nat.le_of_ble_eq_true rfl⟩ hP hK hl.1 (Nat.le_of_ble_eq_true rfl) ⟨Nat.le_of_ble_eq_true rfl, Nat.le_of_ble_eq_true rfl⟩ dX9_node_9 ?_
  refine lv_if_eq (tgt := 27) hx hb dX9_node_12 (by decide) (fun c => absurd c (by decide)) (fun _ => ?_)
  refine lv_aload_n hx hb dX9_node_15 rfl (lv_at hl 0 rfl) ?_
  refine lv_iload_n hx hb dX9_node_16 rfl (lv_at hl 1 rfl) ?_
  refine lv_iload_n hx hb dX9_node_17 rfl (lv_at hl 2 rfl) ?_
  refine lv_iload_n hx hb dX9_node_18 rfl (lv_at hl 3 rfl) ?_
  refine lv_iload hx hb dX9_node_19 (lv_at hl 4 rfl) ?_
  refine rdV (As := [.int 16, .int x2, .int x3, .int x4]) (ci := 9) S (c_X9_canBe_36 l D cI cZ cJ o q x2 x3 x4) mi_X9_canBe kw_7_155 ⟨rfl, rfl⟩ ⟨Nat.le_of_ble_eq_true rfl, Nat.le_of_ble_eq_true rfl⟩ hP hK mW_0 rfl rfl hl.1 (Nat.le_of_ble_eq_true rfl) ⟨Nat.le_of_ble_eq_true rfl, Nat.le_of_ble_eq_true rfl⟩ dX9_node_21 ?_
  refine lv_if_ne (tgt := 33) hx hb dX9_node_24 (by decide) (fun c => absurd c (by decide)) (fun _ => ?_)
  refine lv_aload_n hx hb dX9_node_27 rfl (lv_at hl 0 rfl) ?_
  refine lv_iconst (v := 1) hx hb dX9_node_28 (by decide) ?_
  refine wrV (As := [.int 1]) (ci := 9) S (c_X9_no_0 l D cI cZ cJ o q H.size) mi_X9_no kw_7_104 rfl rfl ⟨Nat.le_of_ble_eq_true rfl, Nat.le_of_ble_eq_true rfl⟩ hP hD hK hS hA mW_0 rfl rfl hl.1 (Nat.le_of_ble_eq_true rfl) ⟨Nat.le_of_ble_eq_true rfl, Nat.le_of_ble_eq_true rfl⟩ dX9_node_29 (fun H locs hz hP hD hS => ?_)
  exact wEnd S hr hlocks hP hD hS (Nat.le_of_ble_eq_true rfl) (Nat.le_of_ble_eq_true rfl) dX9_node_32 rfl

set_option maxHeartbeats 8000000 in
set_option maxRecDepth 100000 in
theorem h_node_37 (l : Launch) (D : va_G) (cI cZ cJ : ClassId) (o : Nat) (u : Nat → Nat) (ao : Nat) (hst : l.stackTraces = false) (ra ga : Nat → Nat) (sz : Nat) (x2 : Int32) (x3 : Int32) (x4 : Int32) (hi_x2 : x2 ≤ (-1)) : vx_Met l yL_node (uWh yL_node cL_node 7 (some .int) [(0, 14, 17, 15), (0, 14, 21, 17)]) ({ frames := 8, cells := 1, slots := 6, locals := 126 }) (va_Pc [.ref o, .int 17, .int x2, .int x3, .int x4, .ref ao] (lS ra ga D (tyL cI cZ cJ) ((xW o u cI cZ cJ) ++ [(ao, .inl (cJ, 1, .inr (.inl (fun _ => 0))))]) sz)) (wQi (1) D ((xW o u cI cZ cJ) ++ [(ao, .inl (cJ, 1, .inr (.inl (fun _ => 0))))]) (va_A ((xW o u cI cZ cJ) ++ [(ao, .inl (cJ, 1, .inr (.inl (fun _ => 0))))]) sz)) (xN (va_A ((xW o u cI cZ cJ) ++ [(ao, .inl (cJ, 1, .inr (.inl (fun _ => 0))))]) sz)) 1 6 (va_A ((xW o u cI cZ cJ) ++ [(ao, .inl (cJ, 1, .inr (.inl (fun _ => 0))))]) sz) := by
  refine hStart (l := l) (y := yL_node) (b := cL_node) (n := 7) (r := (some .int)) (hh := [(0, 14, 17, 15), (0, 14, 21, 17)]) (rm := ({ frames := 8, cells := 1, slots := 6, locals := 126 })) (mc := 1) (ms := 6) (ra := ra) (ga := ga) (D := D) (tys := tyL cI cZ cJ) (ws := ((xW o u cI cZ cJ) ++ [(ao, .inl (cJ, 1, .inr (.inl (fun _ => 0))))])) (av := [.ref o, .int 17, .int x2, .int x3, .int x4, .ref ao]) (sz := sz) (lv := [(0, .ref o), (1, .int 17), (2, .int x2), (3, .int x3), (4, .int x4), (5, .ref ao)]) (Qc := fun A => wQi (1) D ((xW o u cI cZ cJ) ++ [(ao, .inl (cJ, 1, .inr (.inl (fun _ => 0))))]) A) (by decide) (Nat.le_of_ble_eq_true rfl) rfl ?_
  intro p e s m args below meth c ls A H S hr hlocks htab hl hK hP hD hS hA hB hC
  have hx := S.1
  have hb := S.2.1
  refine lv_aload hx hb dL_node_0 (lv_at hl 5 rfl) ?_
  refine lv_iconst (v := 0) hx hb dL_node_2 (by decide) ?_
  refine lv_aload_n hx hb dL_node_3 rfl (lv_at hl 0 rfl) ?_
  refine lv_iload_n hx hb dL_node_4 rfl (lv_at hl 1 rfl) ?_
  refine lv_iload_n hx hb dL_node_5 rfl (lv_at hl 2 rfl) ?_
  refine lv_iload_n hx hb dL_node_6 rfl (lv_at hl 3 rfl) ?_
  refine lv_iload hx hb dL_node_7 (lv_at hl 4 rfl) ?_
  refine cVi [] [(ao, .inl (cJ, 1, .inr (.inl (fun _ => 0))))] (As := [.int 17, .int x2, .int x3, .int x4]) (ci := 8) S (c_X8_node_37 l D cI cZ cJ o u hst ra ga H.size x2 x3 x4 hi_x2) mi_X8_node kw_6_23 rfl rfl ⟨Nat.le_of_ble_eq_true rfl, Nat.le_of_ble_eq_true rfl⟩ hP hD hK hS hA hB xW_0 rfl rfl hl.1 (Nat.le_of_ble_eq_true rfl) ⟨Nat.le_of_ble_eq_true rfl, Nat.le_of_ble_eq_true rfl⟩ dL_node_9 (fun ce q9 H locs hz hP hD hS hce hcv hcl => ?_)
  refine vx_catch (name := "java/lang/IllegalArgumentException") S.2.2.2.1 [] (⟨0, 14, 17, 15⟩ : ExceptionTableEntry) [(⟨0, 14, 21, 17⟩ : ExceptionTableEntry)] (htab.trans rfl) (fun _ h => absurd h List.not_mem_nil) (by decide) (by decide) (S.2.2.2.2 _ kw_5_177) (va_Nw.use rfl hB.c1) hce hcv hcl ?_
  have hP : va_P D vwCl ((xW o u cI cZ cJ) ++ [(ao, .inl (cJ, 1, .inr (.inl (fun _ => 0))))]) H := hP
  have hD : va_D A ((xW o u cI cZ cJ) ++ [(ao, .inl (cJ, 1, .inr (.inl (fun _ => 0))))]) := hD
  refine lv_astore (lv' := [(6, .ref q9), (0, .ref o), (1, .int 17), (2, .int x2), (3, .int x3), (4, .int x4), (5, .ref ao)]) hx hb dL_node_17 hl (by decide) rfl (fun ls hl => ?_)
  refine lv_iconst (v := 1) hx hb dL_node_19 (by decide) ?_
  exact vx_ret (wEnd S hr hlocks hP hD hS (Nat.le_of_ble_eq_true rfl) (Nat.le_of_ble_eq_true rfl) dL_node_20 rfl)

set_option maxHeartbeats 8000000 in
set_option maxRecDepth 100000 in
theorem c_X9_isIn_59 (l : Launch) (D : va_G) (cI cZ cJ : ClassId) (o : Nat) (q : Nat → Nat) : Met l yX9_isIn (uW yX9_isIn cX9_isIn 3 (some .boolean)) ({ frames := 0, cells := 0, slots := 0, locals := 0 }) (va_Pc [.int 17, .int 0, .int 21] (pS D (tyL cI cZ cJ) (mW o 0 q cI cZ))) (QcRead (1)) 0 0 (fun _ => False) := by
  refine rdStart (lv := [(0, .int 17), (1, .int 0), (2, .int 21)]) (by decide) (Nat.le_of_ble_eq_true rfl) rfl ?_
  intro p e s m args below meth c ls S hr hlocks hl hP hK
  have hx := S.1
  have hb := S.2.1
  refine lv_iload_n hx hb dX9_isIn_0 rfl (lv_at hl 0 rfl) ?_
  refine lv_iload_n hx hb dX9_isIn_1 rfl (lv_at hl 1 rfl) ?_
  refine lv_icmp_lt (tgt := 14) hx hb dX9_isIn_2 (by decide) (fun c => absurd c (by decide)) (fun _ => ?_)
  refine lv_iload_n hx hb dX9_isIn_5 rfl (lv_at hl 0 rfl) ?_
  refine lv_iload_n hx hb dX9_isIn_6 rfl (lv_at hl 2 rfl) ?_
  refine lv_icmp_gt (tgt := 14) hx hb dX9_isIn_7 (by decide) (fun c => absurd c (by decide)) (fun _ => ?_)
  refine lv_iconst (v := 1) hx hb dX9_isIn_10 (by decide) ?_
  refine lv_goto (tgt := 15) hx hb dX9_isIn_11 (by decide) ?_
  exact rdEndZ S hr hlocks dX9_isIn_15 rfl rfl

set_option maxHeartbeats 8000000 in
set_option maxRecDepth 100000 in
theorem c_X9_canBe_37 (l : Launch) (D : va_G) (cI cZ cJ : ClassId) (o : Nat) (q : Nat → Nat) (x2 : Int32) (x3 : Int32) (x4 : Int32) (hi_x2 : x2 ≤ (-1)) : Met l yX9_canBe (uW yX9_canBe cX9_canBe 5 (some .boolean)) ({ frames := 1, cells := 0, slots := 0, locals := 22 }) (va_Pc [.ref o, .int 17, .int x2, .int x3, .int x4] (pS D (tyL cI cZ cJ) (mW o 0 q cI cZ))) (QcRead (0)) 0 0 (fun _ => False) := by
  refine rdStart (lv := [(0, .ref o), (1, .int 17), (2, .int x2), (3, .int x3), (4, .int x4)]) (by decide) (Nat.le_of_ble_eq_true rfl) rfl ?_
  intro p e s m args below meth c ls S hr hlocks hl hP hK
  have hx := S.1
  have hb := S.2.1
  refine lv_iload_n hx hb dX9_canBe_0 rfl (lv_at hl 1 rfl) ?_
  refine lv_tableIn (off := 443) (tgt := 444) hx hb dX9_canBe_1 (by decide) (by decide) (by decide) (by decide) ?_
  refine lv_iload_n hx hb dX9_canBe_444 rfl (lv_at hl 2 rfl) ?_
  refine lv_iconst (v := 0) hx hb dX9_canBe_445 (by decide) ?_
  refine lv_bipush (v := 9) hx hb dX9_canBe_446 (by decide) ?_
  refine rdS (As := [.int x2, .int 0, .int 9]) S (c_X9_isIn_56 l D cI cZ cJ o q x2 hi_x2) ms_X9_isIn kw_7_101 ⟨rfl, rfl⟩ ⟨Nat.le_of_ble_eq_true rfl, Nat.le_of_ble_eq_true rfl⟩ hP hK hl.1 (Nat.le_of_ble_eq_true rfl) ⟨Nat.le_of_ble_eq_true rfl, Nat.le_of_ble_eq_true rfl⟩ dX9_canBe_448 ?_
  refine lv_if_eq (tgt := 467) hx hb dX9_canBe_451 (by decide) (fun _ => ?_) (fun c => absurd c (by decide))
  refine lv_iconst (v := 0) hx hb dX9_canBe_467 (by decide) ?_
  exact rdEndZ S hr hlocks dX9_canBe_468 rfl rfl

set_option maxHeartbeats 8000000 in
set_option maxRecDepth 100000 in
theorem c_X9_node_37 (l : Launch) (D : va_G) (cI cZ cJ : ClassId) (o : Nat) (q : Nat → Nat) (sz : Nat) (x2 : Int32) (x3 : Int32) (x4 : Int32) (hi_x2 : x2 ≤ (-1)) : Met l yX9_node (uW yX9_node cX9_node 6 (some .int)) ({ frames := 2, cells := 0, slots := 0, locals := 46 }) (va_Pc [.ref o, .int 17, .int x2, .int x3, .int x4] (wS D (tyL cI cZ cJ) (mW o 0 q cI cZ) sz)) (wQi (0) D (mW o 1 q cI cZ) (va_A (mW o 0 q cI cZ) sz)) 0 0 (va_A (mW o 0 q cI cZ) sz) := by
  refine wStart (lv := [(0, .ref o), (1, .int 17), (2, .int x2), (3, .int x3), (4, .int x4)]) (Qc := fun A => wQi (0) D (mW o 1 q cI cZ) A) (by decide) (Nat.le_of_ble_eq_true rfl) rfl ?_
  intro p e s m args below meth c ls A H S hr hlocks hnm hl hK hP hD hS hA
  have hx := S.1
  have hb := S.2.1
  refine lv_aload_n hx hb dX9_node_0 rfl (lv_at hl 0 rfl) ?_
  refine lv_iconst (v := 0) hx hb dX9_node_1 (by decide) ?_
  refine xp (ci := 9) (v := .int 0) S inX9 tyX9 tyX9_ok nmX9 rfl hK hP hD hS mW_0 0 (by decide) kw_6_148 rfl rfl rfl rfl (Nat.le_of_ble_eq_true rfl) dX9_node_2 (fun H locs hP hD hS => ?_)
  have hP : va_P D vwCl (mW o 0 q cI cZ) H := hP
  have hD : va_D A (mW o 0 q cI cZ) := hD
  refine lv_iload_n hx hb dX9_node_5 rfl (lv_at hl 1 rfl) ?_
  refine lv_iconst (v := 0) hx hb dX9_node_6 (by decide) ?_
  refine lv_bipush (v := 21) hx hb dX9_node_7 (by decide) ?_
  refine rdS (As := [.int 17, .int 0, .int 21]) S (c_X9_isIn_59 l D cI cZ cJ o q) ms_X9_isIn kw_7_101 ⟨rfl, rfl⟩ ⟨Nat.le_of_ble_eq_true rfl, Nat.le_of_ble_eq_true rfl⟩ hP hK hl.1 (Nat.le_of_ble_eq_true rfl) ⟨Nat.le_of_ble_eq_true rfl, Nat.le_of_ble_eq_true rfl⟩ dX9_node_9 ?_
  refine lv_if_eq (tgt := 27) hx hb dX9_node_12 (by decide) (fun c => absurd c (by decide)) (fun _ => ?_)
  refine lv_aload_n hx hb dX9_node_15 rfl (lv_at hl 0 rfl) ?_
  refine lv_iload_n hx hb dX9_node_16 rfl (lv_at hl 1 rfl) ?_
  refine lv_iload_n hx hb dX9_node_17 rfl (lv_at hl 2 rfl) ?_
  refine lv_iload_n hx hb dX9_node_18 rfl (lv_at hl 3 rfl) ?_
  refine lv_iload hx hb dX9_node_19 (lv_at hl 4 rfl) ?_
  refine rdV (As := [.int 17, .int x2, .int x3, .int x4]) (ci := 9) S (c_X9_canBe_37 l D cI cZ cJ o q x2 x3 x4 hi_x2) mi_X9_canBe kw_7_155 ⟨rfl, rfl⟩ ⟨Nat.le_of_ble_eq_true rfl, Nat.le_of_ble_eq_true rfl⟩ hP hK mW_0 rfl rfl hl.1 (Nat.le_of_ble_eq_true rfl) ⟨Nat.le_of_ble_eq_true rfl, Nat.le_of_ble_eq_true rfl⟩ dX9_node_21 ?_
  refine lv_if_ne (tgt := 33) hx hb dX9_node_24 (by decide) (fun c => absurd c (by decide)) (fun _ => ?_)
  refine lv_aload_n hx hb dX9_node_27 rfl (lv_at hl 0 rfl) ?_
  refine lv_iconst (v := 1) hx hb dX9_node_28 (by decide) ?_
  refine wrV (As := [.int 1]) (ci := 9) S (c_X9_no_0 l D cI cZ cJ o q H.size) mi_X9_no kw_7_104 rfl rfl ⟨Nat.le_of_ble_eq_true rfl, Nat.le_of_ble_eq_true rfl⟩ hP hD hK hS hA mW_0 rfl rfl hl.1 (Nat.le_of_ble_eq_true rfl) ⟨Nat.le_of_ble_eq_true rfl, Nat.le_of_ble_eq_true rfl⟩ dX9_node_29 (fun H locs hz hP hD hS => ?_)
  exact wEnd S hr hlocks hP hD hS (Nat.le_of_ble_eq_true rfl) (Nat.le_of_ble_eq_true rfl) dX9_node_32 rfl

set_option maxHeartbeats 8000000 in
set_option maxRecDepth 100000 in
theorem h_node_38 (l : Launch) (D : va_G) (cI cZ cJ : ClassId) (o : Nat) (u : Nat → Nat) (ao : Nat) (hst : l.stackTraces = false) (ra ga : Nat → Nat) (sz : Nat) (x2 : Int32) (x3 : Int32) (x4 : Int32) (lo_x2 : 10 ≤ x2) : vx_Met l yL_node (uWh yL_node cL_node 7 (some .int) [(0, 14, 17, 15), (0, 14, 21, 17)]) ({ frames := 8, cells := 1, slots := 6, locals := 126 }) (va_Pc [.ref o, .int 17, .int x2, .int x3, .int x4, .ref ao] (lS ra ga D (tyL cI cZ cJ) ((xW o u cI cZ cJ) ++ [(ao, .inl (cJ, 1, .inr (.inl (fun _ => 0))))]) sz)) (wQi (1) D ((xW o u cI cZ cJ) ++ [(ao, .inl (cJ, 1, .inr (.inl (fun _ => 0))))]) (va_A ((xW o u cI cZ cJ) ++ [(ao, .inl (cJ, 1, .inr (.inl (fun _ => 0))))]) sz)) (xN (va_A ((xW o u cI cZ cJ) ++ [(ao, .inl (cJ, 1, .inr (.inl (fun _ => 0))))]) sz)) 1 6 (va_A ((xW o u cI cZ cJ) ++ [(ao, .inl (cJ, 1, .inr (.inl (fun _ => 0))))]) sz) := by
  refine hStart (l := l) (y := yL_node) (b := cL_node) (n := 7) (r := (some .int)) (hh := [(0, 14, 17, 15), (0, 14, 21, 17)]) (rm := ({ frames := 8, cells := 1, slots := 6, locals := 126 })) (mc := 1) (ms := 6) (ra := ra) (ga := ga) (D := D) (tys := tyL cI cZ cJ) (ws := ((xW o u cI cZ cJ) ++ [(ao, .inl (cJ, 1, .inr (.inl (fun _ => 0))))])) (av := [.ref o, .int 17, .int x2, .int x3, .int x4, .ref ao]) (sz := sz) (lv := [(0, .ref o), (1, .int 17), (2, .int x2), (3, .int x3), (4, .int x4), (5, .ref ao)]) (Qc := fun A => wQi (1) D ((xW o u cI cZ cJ) ++ [(ao, .inl (cJ, 1, .inr (.inl (fun _ => 0))))]) A) (by decide) (Nat.le_of_ble_eq_true rfl) rfl ?_
  intro p e s m args below meth c ls A H S hr hlocks htab hl hK hP hD hS hA hB hC
  have hx := S.1
  have hb := S.2.1
  refine lv_aload hx hb dL_node_0 (lv_at hl 5 rfl) ?_
  refine lv_iconst (v := 0) hx hb dL_node_2 (by decide) ?_
  refine lv_aload_n hx hb dL_node_3 rfl (lv_at hl 0 rfl) ?_
  refine lv_iload_n hx hb dL_node_4 rfl (lv_at hl 1 rfl) ?_
  refine lv_iload_n hx hb dL_node_5 rfl (lv_at hl 2 rfl) ?_
  refine lv_iload_n hx hb dL_node_6 rfl (lv_at hl 3 rfl) ?_
  refine lv_iload hx hb dL_node_7 (lv_at hl 4 rfl) ?_
  refine cVi [] [(ao, .inl (cJ, 1, .inr (.inl (fun _ => 0))))] (As := [.int 17, .int x2, .int x3, .int x4]) (ci := 8) S (c_X8_node_38 l D cI cZ cJ o u hst ra ga H.size x2 x3 x4 lo_x2) mi_X8_node kw_6_23 rfl rfl ⟨Nat.le_of_ble_eq_true rfl, Nat.le_of_ble_eq_true rfl⟩ hP hD hK hS hA hB xW_0 rfl rfl hl.1 (Nat.le_of_ble_eq_true rfl) ⟨Nat.le_of_ble_eq_true rfl, Nat.le_of_ble_eq_true rfl⟩ dL_node_9 (fun ce q9 H locs hz hP hD hS hce hcv hcl => ?_)
  refine vx_catch (name := "java/lang/IllegalArgumentException") S.2.2.2.1 [] (⟨0, 14, 17, 15⟩ : ExceptionTableEntry) [(⟨0, 14, 21, 17⟩ : ExceptionTableEntry)] (htab.trans rfl) (fun _ h => absurd h List.not_mem_nil) (by decide) (by decide) (S.2.2.2.2 _ kw_5_177) (va_Nw.use rfl hB.c1) hce hcv hcl ?_
  have hP : va_P D vwCl ((xW o u cI cZ cJ) ++ [(ao, .inl (cJ, 1, .inr (.inl (fun _ => 0))))]) H := hP
  have hD : va_D A ((xW o u cI cZ cJ) ++ [(ao, .inl (cJ, 1, .inr (.inl (fun _ => 0))))]) := hD
  refine lv_astore (lv' := [(6, .ref q9), (0, .ref o), (1, .int 17), (2, .int x2), (3, .int x3), (4, .int x4), (5, .ref ao)]) hx hb dL_node_17 hl (by decide) rfl (fun ls hl => ?_)
  refine lv_iconst (v := 1) hx hb dL_node_19 (by decide) ?_
  exact vx_ret (wEnd S hr hlocks hP hD hS (Nat.le_of_ble_eq_true rfl) (Nat.le_of_ble_eq_true rfl) dL_node_20 rfl)

set_option maxHeartbeats 8000000 in
set_option maxRecDepth 100000 in
theorem c_X9_canBe_38 (l : Launch) (D : va_G) (cI cZ cJ : ClassId) (o : Nat) (q : Nat → Nat) (x2 : Int32) (x3 : Int32) (x4 : Int32) (lo_x2 : 10 ≤ x2) : Met l yX9_canBe (uW yX9_canBe cX9_canBe 5 (some .boolean)) ({ frames := 1, cells := 0, slots := 0, locals := 22 }) (va_Pc [.ref o, .int 17, .int x2, .int x3, .int x4] (pS D (tyL cI cZ cJ) (mW o 0 q cI cZ))) (QcRead (0)) 0 0 (fun _ => False) := by
  refine rdStart (lv := [(0, .ref o), (1, .int 17), (2, .int x2), (3, .int x3), (4, .int x4)]) (by decide) (Nat.le_of_ble_eq_true rfl) rfl ?_
  intro p e s m args below meth c ls S hr hlocks hl hP hK
  have hx := S.1
  have hb := S.2.1
  refine lv_iload_n hx hb dX9_canBe_0 rfl (lv_at hl 1 rfl) ?_
  refine lv_tableIn (off := 443) (tgt := 444) hx hb dX9_canBe_1 (by decide) (by decide) (by decide) (by decide) ?_
  refine lv_iload_n hx hb dX9_canBe_444 rfl (lv_at hl 2 rfl) ?_
  refine lv_iconst (v := 0) hx hb dX9_canBe_445 (by decide) ?_
  refine lv_bipush (v := 9) hx hb dX9_canBe_446 (by decide) ?_
  refine rdS (As := [.int x2, .int 0, .int 9]) S (c_X9_isIn_57 l D cI cZ cJ o q x2 lo_x2) ms_X9_isIn kw_7_101 ⟨rfl, rfl⟩ ⟨Nat.le_of_ble_eq_true rfl, Nat.le_of_ble_eq_true rfl⟩ hP hK hl.1 (Nat.le_of_ble_eq_true rfl) ⟨Nat.le_of_ble_eq_true rfl, Nat.le_of_ble_eq_true rfl⟩ dX9_canBe_448 ?_
  refine lv_if_eq (tgt := 467) hx hb dX9_canBe_451 (by decide) (fun _ => ?_) (fun c => absurd c (by decide))
  refine lv_iconst (v := 0) hx hb dX9_canBe_467 (by decide) ?_
  exact rdEndZ S hr hlocks dX9_canBe_468 rfl rfl

set_option maxHeartbeats 8000000 in
set_option maxRecDepth 100000 in
theorem c_X9_node_38 (l : Launch) (D : va_G) (cI cZ cJ : ClassId) (o : Nat) (q : Nat → Nat) (sz : Nat) (x2 : Int32) (x3 : Int32) (x4 : Int32) (lo_x2 : 10 ≤ x2) : Met l yX9_node (uW yX9_node cX9_node 6 (some .int)) ({ frames := 2, cells := 0, slots := 0, locals := 46 }) (va_Pc [.ref o, .int 17, .int x2, .int x3, .int x4] (wS D (tyL cI cZ cJ) (mW o 0 q cI cZ) sz)) (wQi (0) D (mW o 1 q cI cZ) (va_A (mW o 0 q cI cZ) sz)) 0 0 (va_A (mW o 0 q cI cZ) sz) := by
  refine wStart (lv := [(0, .ref o), (1, .int 17), (2, .int x2), (3, .int x3), (4, .int x4)]) (Qc := fun A => wQi (0) D (mW o 1 q cI cZ) A) (by decide) (Nat.le_of_ble_eq_true rfl) rfl ?_
  intro p e s m args below meth c ls A H S hr hlocks hnm hl hK hP hD hS hA
  have hx := S.1
  have hb := S.2.1
  refine lv_aload_n hx hb dX9_node_0 rfl (lv_at hl 0 rfl) ?_
  refine lv_iconst (v := 0) hx hb dX9_node_1 (by decide) ?_
  refine xp (ci := 9) (v := .int 0) S inX9 tyX9 tyX9_ok nmX9 rfl hK hP hD hS mW_0 0 (by decide) kw_6_148 rfl rfl rfl rfl (Nat.le_of_ble_eq_true rfl) dX9_node_2 (fun H locs hP hD hS => ?_)
  have hP : va_P D vwCl (mW o 0 q cI cZ) H := hP
  have hD : va_D A (mW o 0 q cI cZ) := hD
  refine lv_iload_n hx hb dX9_node_5 rfl (lv_at hl 1 rfl) ?_
  refine lv_iconst (v := 0) hx hb dX9_node_6 (by decide) ?_
  refine lv_bipush (v := 21) hx hb dX9_node_7 (by decide) ?_
  refine rdS (As := [.int 17, .int 0, .int 21]) S (c_X9_isIn_59 l D cI cZ cJ o q) ms_X9_isIn kw_7_101 ⟨rfl, rfl⟩ ⟨Nat.le_of_ble_eq_true rfl, Nat.le_of_ble_eq_true rfl⟩ hP hK hl.1 (Nat.le_of_ble_eq_true rfl) ⟨Nat.le_of_ble_eq_true rfl, Nat.le_of_ble_eq_true rfl⟩ dX9_node_9 ?_
  refine lv_if_eq (tgt := 27) hx hb dX9_node_12 (by decide) (fun c => absurd c (by decide)) (fun _ => ?_)
  refine lv_aload_n hx hb dX9_node_15 rfl (lv_at hl 0 rfl) ?_
  refine lv_iload_n hx hb dX9_node_16 rfl (lv_at hl 1 rfl) ?_
  refine lv_iload_n hx hb dX9_node_17 rfl (lv_at hl 2 rfl) ?_
  refine lv_iload_n hx hb dX9_node_18 rfl (lv_at hl 3 rfl) ?_
  refine lv_iload hx hb dX9_node_19 (lv_at hl 4 rfl) ?_
  refine rdV (As := [.int 17, .int x2, .int x3, .int x4]) (ci := 9) S (c_X9_canBe_38 l D cI cZ cJ o q x2 x3 x4 lo_x2) mi_X9_canBe kw_7_155 ⟨rfl, rfl⟩ ⟨Nat.le_of_ble_eq_true rfl, Nat.le_of_ble_eq_true rfl⟩ hP hK mW_0 rfl rfl hl.1 (Nat.le_of_ble_eq_true rfl) ⟨Nat.le_of_ble_eq_true rfl, Nat.le_of_ble_eq_true rfl⟩ dX9_node_21 ?_
  refine lv_if_ne (tgt := 33) hx hb dX9_node_24 (by decide) (fun c => absurd c (by decide)) (fun _ => ?_)
  refine lv_aload_n hx hb dX9_node_27 rfl (lv_at hl 0 rfl) ?_
  refine lv_iconst (v := 1) hx hb dX9_node_28 (by decide) ?_
  refine wrV (As := [.int 1]) (ci := 9) S (c_X9_no_0 l D cI cZ cJ o q H.size) mi_X9_no kw_7_104 rfl rfl ⟨Nat.le_of_ble_eq_true rfl, Nat.le_of_ble_eq_true rfl⟩ hP hD hK hS hA mW_0 rfl rfl hl.1 (Nat.le_of_ble_eq_true rfl) ⟨Nat.le_of_ble_eq_true rfl, Nat.le_of_ble_eq_true rfl⟩ dX9_node_29 (fun H locs hz hP hD hS => ?_)
  exact wEnd S hr hlocks hP hD hS (Nat.le_of_ble_eq_true rfl) (Nat.le_of_ble_eq_true rfl) dX9_node_32 rfl

set_option maxHeartbeats 8000000 in
set_option maxRecDepth 100000 in
theorem h_node_39 (l : Launch) (D : va_G) (cI cZ cJ : ClassId) (o : Nat) (u : Nat → Nat) (ao : Nat) (hst : l.stackTraces = false) (ra ga : Nat → Nat) (sz : Nat) (x2 : Int32) (lo_x2 : 0 ≤ x2) (hi_x2 : x2 ≤ 9) : vx_Met l yL_node (uWh yL_node cL_node 7 (some .int) [(0, 14, 17, 15), (0, 14, 21, 17)]) ({ frames := 3, cells := 0, slots := 0, locals := 71 }) (va_Pc [.ref o, .int 17, .int x2, .int 0, .int 0, .ref ao] (lS ra ga D (tyL cI cZ cJ) ((xW o u cI cZ cJ) ++ [(ao, .inl (cJ, 1, .inr (.inl (fun _ => 0))))]) sz)) (wQi (0) D (((((((((xW o u cI cZ cJ).set 13 ((u 12), .inr (5, ([.int 0, .ref (u 13), .ref (u 14), .ref (u 15), .ref (u 16), .ref (u 17), .ref (u 18)].set 0 (.int 1))))).set 14 ((u 13), .inl (cI, 110, .inl (upd (fun _ => 0) (0 : Int32).toNatClampNeg 17)))).set 15 ((u 14), .inl (cI, 110, .inl (upd (fun _ => 0) (0 : Int32).toNatClampNeg x2)))).set 16 ((u 15), .inl (cI, 110, .inl (upd (fun _ => 0) (0 : Int32).toNatClampNeg 0)))).set 17 ((u 16), .inl (cI, 110, .inl (upd (fun _ => 0) (0 : Int32).toNatClampNeg 0)))).set 18 ((u 17), .inl (cI, 110, .inl (upd (fun _ => 0) (0 : Int32).toNatClampNeg (-1))))).set 19 ((u 18), .inl (cI, 110, .inl (upd (fun _ => 0) (0 : Int32).toNatClampNeg (-1))))) ++ [(ao, .inl (cJ, 1, .inr (.inl (vp_updL (fun _ => 0) (0 : Int32).toNatClampNeg 0))))]) (va_A ((xW o u cI cZ cJ) ++ [(ao, .inl (cJ, 1, .inr (.inl (fun _ => 0))))]) sz)) (xN (va_A ((xW o u cI cZ cJ) ++ [(ao, .inl (cJ, 1, .inr (.inl (fun _ => 0))))]) sz)) 0 0 (va_A ((xW o u cI cZ cJ) ++ [(ao, .inl (cJ, 1, .inr (.inl (fun _ => 0))))]) sz) := by
  refine hStart (l := l) (y := yL_node) (b := cL_node) (n := 7) (r := (some .int)) (hh := [(0, 14, 17, 15), (0, 14, 21, 17)]) (rm := ({ frames := 3, cells := 0, slots := 0, locals := 71 })) (mc := 0) (ms := 0) (ra := ra) (ga := ga) (D := D) (tys := tyL cI cZ cJ) (ws := ((xW o u cI cZ cJ) ++ [(ao, .inl (cJ, 1, .inr (.inl (fun _ => 0))))])) (av := [.ref o, .int 17, .int x2, .int 0, .int 0, .ref ao]) (sz := sz) (lv := [(0, .ref o), (1, .int 17), (2, .int x2), (3, .int 0), (4, .int 0), (5, .ref ao)]) (Qc := fun A => wQi (0) D (((((((((xW o u cI cZ cJ).set 13 ((u 12), .inr (5, ([.int 0, .ref (u 13), .ref (u 14), .ref (u 15), .ref (u 16), .ref (u 17), .ref (u 18)].set 0 (.int 1))))).set 14 ((u 13), .inl (cI, 110, .inl (upd (fun _ => 0) (0 : Int32).toNatClampNeg 17)))).set 15 ((u 14), .inl (cI, 110, .inl (upd (fun _ => 0) (0 : Int32).toNatClampNeg x2)))).set 16 ((u 15), .inl (cI, 110, .inl (upd (fun _ => 0) (0 : Int32).toNatClampNeg 0)))).set 17 ((u 16), .inl (cI, 110, .inl (upd (fun _ => 0) (0 : Int32).toNatClampNeg 0)))).set 18 ((u 17), .inl (cI, 110, .inl (upd (fun _ => 0) (0 : Int32).toNatClampNeg (-1))))).set 19 ((u 18), .inl (cI, 110, .inl (upd (fun _ => 0) (0 : Int32).toNatClampNeg (-1))))) ++ [(ao, .inl (cJ, 1, .inr (.inl (vp_updL (fun _ => 0) (0 : Int32).toNatClampNeg 0))))]) A) (by decide) (Nat.le_of_ble_eq_true rfl) rfl ?_
  intro p e s m args below meth c ls A H S hr hlocks htab hl hK hP hD hS hA hB hC
  have hx := S.1
  have hb := S.2.1
  refine lv_aload hx hb dL_node_0 (lv_at hl 5 rfl) ?_
  refine lv_iconst (v := 0) hx hb dL_node_2 (by decide) ?_
  refine lv_aload_n hx hb dL_node_3 rfl (lv_at hl 0 rfl) ?_
  refine lv_iload_n hx hb dL_node_4 rfl (lv_at hl 1 rfl) ?_
  refine lv_iload_n hx hb dL_node_5 rfl (lv_at hl 2 rfl) ?_
  refine lv_iload_n hx hb dL_node_6 rfl (lv_at hl 3 rfl) ?_
  refine lv_iload hx hb dL_node_7 (lv_at hl 4 rfl) ?_
  refine faVi [] [(ao, .inl (cJ, 1, .inr (.inl (fun _ => 0))))] (As := [.int 17, .int x2, .int 0, .int 0]) (ci := 8) S (c_X8_node_39 l D cI cZ cJ o u ra ga H.size x2 lo_x2 hi_x2) mi_X8_node kw_6_23 rfl rfl ⟨Nat.le_of_ble_eq_true rfl, Nat.le_of_ble_eq_true rfl⟩ hP hD hK hS hA hB xW_0 rfl rfl hl.1 (Nat.le_of_ble_eq_true rfl) ⟨Nat.le_of_ble_eq_true rfl, Nat.le_of_ble_eq_true rfl⟩ dL_node_9 (fun H locs hz hP hD hS => ?_)
  have hP : va_P D vwCl (((((((((xW o u cI cZ cJ).set 13 ((u 12), .inr (5, ([.int 0, .ref (u 13), .ref (u 14), .ref (u 15), .ref (u 16), .ref (u 17), .ref (u 18)].set 0 (.int 1))))).set 14 ((u 13), .inl (cI, 110, .inl (upd (fun _ => 0) (0 : Int32).toNatClampNeg 17)))).set 15 ((u 14), .inl (cI, 110, .inl (upd (fun _ => 0) (0 : Int32).toNatClampNeg x2)))).set 16 ((u 15), .inl (cI, 110, .inl (upd (fun _ => 0) (0 : Int32).toNatClampNeg 0)))).set 17 ((u 16), .inl (cI, 110, .inl (upd (fun _ => 0) (0 : Int32).toNatClampNeg 0)))).set 18 ((u 17), .inl (cI, 110, .inl (upd (fun _ => 0) (0 : Int32).toNatClampNeg (-1))))).set 19 ((u 18), .inl (cI, 110, .inl (upd (fun _ => 0) (0 : Int32).toNatClampNeg (-1))))) ++ [(ao, .inl (cJ, 1, .inr (.inl (fun _ => 0))))]) H := hP
  have hD : va_D A (((((((((xW o u cI cZ cJ).set 13 ((u 12), .inr (5, ([.int 0, .ref (u 13), .ref (u 14), .ref (u 15), .ref (u 16), .ref (u 17), .ref (u 18)].set 0 (.int 1))))).set 14 ((u 13), .inl (cI, 110, .inl (upd (fun _ => 0) (0 : Int32).toNatClampNeg 17)))).set 15 ((u 14), .inl (cI, 110, .inl (upd (fun _ => 0) (0 : Int32).toNatClampNeg x2)))).set 16 ((u 15), .inl (cI, 110, .inl (upd (fun _ => 0) (0 : Int32).toNatClampNeg 0)))).set 17 ((u 16), .inl (cI, 110, .inl (upd (fun _ => 0) (0 : Int32).toNatClampNeg 0)))).set 18 ((u 17), .inl (cI, 110, .inl (upd (fun _ => 0) (0 : Int32).toNatClampNeg (-1))))).set 19 ((u 18), .inl (cI, 110, .inl (upd (fun _ => 0) (0 : Int32).toNatClampNeg (-1))))) ++ [(ao, .inl (cJ, 1, .inr (.inl (fun _ => 0))))]) := hD
  refine lv_i2l (v := 0) hx hb dL_node_12 (by decide) ?_
  refine xlast (t0 := 2) S hK hP hD hS (q0 := 88) rfl rfl (vin rfl) dL_node_13 (fun H locs hP hD hS => ?_)
  have hP : va_P D vwCl (((((((((xW o u cI cZ cJ).set 13 ((u 12), .inr (5, ([.int 0, .ref (u 13), .ref (u 14), .ref (u 15), .ref (u 16), .ref (u 17), .ref (u 18)].set 0 (.int 1))))).set 14 ((u 13), .inl (cI, 110, .inl (upd (fun _ => 0) (0 : Int32).toNatClampNeg 17)))).set 15 ((u 14), .inl (cI, 110, .inl (upd (fun _ => 0) (0 : Int32).toNatClampNeg x2)))).set 16 ((u 15), .inl (cI, 110, .inl (upd (fun _ => 0) (0 : Int32).toNatClampNeg 0)))).set 17 ((u 16), .inl (cI, 110, .inl (upd (fun _ => 0) (0 : Int32).toNatClampNeg 0)))).set 18 ((u 17), .inl (cI, 110, .inl (upd (fun _ => 0) (0 : Int32).toNatClampNeg (-1))))).set 19 ((u 18), .inl (cI, 110, .inl (upd (fun _ => 0) (0 : Int32).toNatClampNeg (-1))))) ++ [(ao, .inl (cJ, 1, .inr (.inl (vp_updL (fun _ => 0) (0 : Int32).toNatClampNeg 0))))]) H := hP
  have hD : va_D A (((((((((xW o u cI cZ cJ).set 13 ((u 12), .inr (5, ([.int 0, .ref (u 13), .ref (u 14), .ref (u 15), .ref (u 16), .ref (u 17), .ref (u 18)].set 0 (.int 1))))).set 14 ((u 13), .inl (cI, 110, .inl (upd (fun _ => 0) (0 : Int32).toNatClampNeg 17)))).set 15 ((u 14), .inl (cI, 110, .inl (upd (fun _ => 0) (0 : Int32).toNatClampNeg x2)))).set 16 ((u 15), .inl (cI, 110, .inl (upd (fun _ => 0) (0 : Int32).toNatClampNeg 0)))).set 17 ((u 16), .inl (cI, 110, .inl (upd (fun _ => 0) (0 : Int32).toNatClampNeg 0)))).set 18 ((u 17), .inl (cI, 110, .inl (upd (fun _ => 0) (0 : Int32).toNatClampNeg (-1))))).set 19 ((u 18), .inl (cI, 110, .inl (upd (fun _ => 0) (0 : Int32).toNatClampNeg (-1))))) ++ [(ao, .inl (cJ, 1, .inr (.inl (vp_updL (fun _ => 0) (0 : Int32).toNatClampNeg 0))))]) := hD
  refine lv_goto (tgt := 25) hx hb dL_node_14 (by decide) ?_
  refine lv_iconst (v := 0) hx hb dL_node_25 (by decide) ?_
  exact vx_ret (wEnd S hr hlocks hP hD hS (Nat.le_of_ble_eq_true rfl) (Nat.le_of_ble_eq_true rfl) dL_node_26 rfl)

set_option maxHeartbeats 8000000 in
set_option maxRecDepth 100000 in
theorem c_X9_canBe_39 (l : Launch) (D : va_G) (cI cZ cJ : ClassId) (o : Nat) (q : Nat → Nat) (x2 : Int32) (lo_x2 : 0 ≤ x2) (hi_x2 : x2 ≤ 9) : Met l yX9_canBe (uW yX9_canBe cX9_canBe 5 (some .boolean)) ({ frames := 1, cells := 0, slots := 0, locals := 22 }) (va_Pc [.ref o, .int 17, .int x2, .int 0, .int 0] (pS D (tyL cI cZ cJ) (mW o 0 q cI cZ))) (QcRead (1)) 0 0 (fun _ => False) := by
  refine rdStart (lv := [(0, .ref o), (1, .int 17), (2, .int x2), (3, .int 0), (4, .int 0)]) (by decide) (Nat.le_of_ble_eq_true rfl) rfl ?_
  intro p e s m args below meth c ls S hr hlocks hl hP hK
  have hx := S.1
  have hb := S.2.1
  refine lv_iload_n hx hb dX9_canBe_0 rfl (lv_at hl 1 rfl) ?_
  refine lv_tableIn (off := 443) (tgt := 444) hx hb dX9_canBe_1 (by decide) (by decide) (by decide) (by decide) ?_
  refine lv_iload_n hx hb dX9_canBe_444 rfl (lv_at hl 2 rfl) ?_
  refine lv_iconst (v := 0) hx hb dX9_canBe_445 (by decide) ?_
  refine lv_bipush (v := 9) hx hb dX9_canBe_446 (by decide) ?_
  refine rdS (As := [.int x2, .int 0, .int 9]) S (c_X9_isIn_58 l D cI cZ cJ o q x2 lo_x2 hi_x2) ms_X9_isIn kw_7_101 ⟨rfl, rfl⟩ ⟨Nat.le_of_ble_eq_true rfl, Nat.le_of_ble_eq_true rfl⟩ hP hK hl.1 (Nat.le_of_ble_eq_true rfl) ⟨Nat.le_of_ble_eq_true rfl, Nat.le_of_ble_eq_true rfl⟩ dX9_canBe_448 ?_
  refine lv_if_eq (tgt := 467) hx hb dX9_canBe_451 (by decide) (fun c => absurd c (by decide)) (fun _ => ?_)
  refine lv_iload_n hx hb dX9_canBe_454 rfl (lv_at hl 3 rfl) ?_
  refine lv_if_ne (tgt := 467) hx hb dX9_canBe_455 (by decide) (fun c => absurd c (by decide)) (fun _ => ?_)
  refine lv_iload hx hb dX9_canBe_458 (lv_at hl 4 rfl) ?_
  refine lv_if_ne (tgt := 467) hx hb dX9_canBe_460 (by decide) (fun c => absurd c (by decide)) (fun _ => ?_)
  refine lv_iconst (v := 1) hx hb dX9_canBe_463 (by decide) ?_
  refine lv_goto (tgt := 468) hx hb dX9_canBe_464 (by decide) ?_
  exact rdEndZ S hr hlocks dX9_canBe_468 rfl rfl

set_option maxHeartbeats 8000000 in
set_option maxRecDepth 100000 in
theorem c_X9_parts_5 (l : Launch) (D : va_G) (cI cZ cJ : ClassId) (o : Nat) (q : Nat → Nat) (x2 : Int32) (lo_x2 : 0 ≤ x2) (hi_x2 : x2 ≤ 9) : Met l yX9_parts (uW yX9_parts cX9_parts 1 (some .int)) ({ frames := 0, cells := 0, slots := 0, locals := 0 }) (va_Pc [.int 17] (pS D (tyL cI cZ cJ) (((((((mW o 0 q cI cZ).set 12 ((q 11), .inl (cI, 110, .inl (upd (fun _ => 0) (0 : Int32).toNatClampNeg 17)))).set 13 ((q 12), .inl (cI, 110, .inl (upd (fun _ => 0) (0 : Int32).toNatClampNeg x2)))).set 14 ((q 13), .inl (cI, 110, .inl (upd (fun _ => 0) (0 : Int32).toNatClampNeg 0)))).set 15 ((q 14), .inl (cI, 110, .inl (upd (fun _ => 0) (0 : Int32).toNatClampNeg 0)))).set 16 ((q 15), .inl (cI, 110, .inl (upd (fun _ => 0) (0 : Int32).toNatClampNeg (-1))))).set 17 ((q 16), .inl (cI, 110, .inl (upd (fun _ => 0) (0 : Int32).toNatClampNeg (-1))))))) (QcRead (0)) 0 0 (fun _ => False) := by
  refine rdStart (lv := [(0, .int 17)]) (by decide) (Nat.le_of_ble_eq_true rfl) rfl ?_
  intro p e s m args below meth c ls S hr hlocks hl hP hK
  have hx := S.1
  have hb := S.2.1
  refine lv_iload_n hx hb dX9_parts_0 rfl (lv_at hl 0 rfl) ?_
  refine lv_tableIn (off := 103) (tgt := 104) hx hb dX9_parts_1 (by decide) (by decide) (by decide) (by decide) ?_
  refine lv_iconst (v := 0) hx hb dX9_parts_104 (by decide) ?_
  exact rdEnd S hr hlocks dX9_parts_105 rfl

set_option maxHeartbeats 8000000 in
set_option maxRecDepth 100000 in
theorem c_X9_has_15 (l : Launch) (D : va_G) (cI cZ cJ : ClassId) (o : Nat) (q : Nat → Nat) (x2 : Int32) (lo_x2 : 0 ≤ x2) (hi_x2 : x2 ≤ 9) : Met l yX9_has (uW yX9_has cX9_has 2 (some .boolean)) ({ frames := 0, cells := 0, slots := 0, locals := 0 }) (va_Pc [.int 0, .int 0] (pS D (tyL cI cZ cJ) (((((((mW o 0 q cI cZ).set 12 ((q 11), .inl (cI, 110, .inl (upd (fun _ => 0) (0 : Int32).toNatClampNeg 17)))).set 13 ((q 12), .inl (cI, 110, .inl (upd (fun _ => 0) (0 : Int32).toNatClampNeg x2)))).set 14 ((q 13), .inl (cI, 110, .inl (upd (fun _ => 0) (0 : Int32).toNatClampNeg 0)))).set 15 ((q 14), .inl (cI, 110, .inl (upd (fun _ => 0) (0 : Int32).toNatClampNeg 0)))).set 16 ((q 15), .inl (cI, 110, .inl (upd (fun _ => 0) (0 : Int32).toNatClampNeg (-1))))).set 17 ((q 16), .inl (cI, 110, .inl (upd (fun _ => 0) (0 : Int32).toNatClampNeg (-1))))))) (QcRead (0)) 0 0 (fun _ => False) := by
  refine rdStart (lv := [(0, .int 0), (1, .int 0)]) (by decide) (Nat.le_of_ble_eq_true rfl) rfl ?_
  intro p e s m args below meth c ls S hr hlocks hl hP hK
  have hx := S.1
  have hb := S.2.1
  refine lv_iload_n hx hb dX9_has_0 rfl (lv_at hl 0 rfl) ?_
  refine lv_iload_n hx hb dX9_has_1 rfl (lv_at hl 1 rfl) ?_
  refine xishr (v := 0) S dX9_has_2 (by decide) ?_
  refine lv_iconst (v := 1) hx hb dX9_has_3 (by decide) ?_
  refine xiand (v := 0) S dX9_has_4 (by decide) ?_
  refine lv_iconst (v := 1) hx hb dX9_has_5 (by decide) ?_
  refine lv_icmp_ne (tgt := 13) hx hb dX9_has_6 (by decide) (fun _ => ?_) (fun c => absurd c (by decide))
  refine lv_iconst (v := 0) hx hb dX9_has_13 (by decide) ?_
  exact rdEndZ S hr hlocks dX9_has_14 rfl rfl

set_option maxHeartbeats 8000000 in
set_option maxRecDepth 100000 in
theorem c_X9_part_15 (l : Launch) (D : va_G) (cI cZ cJ : ClassId) (o : Nat) (q : Nat → Nat) (x2 : Int32) (lo_x2 : 0 ≤ x2) (hi_x2 : x2 ≤ 9) : Met l yX9_part (uW yX9_part cX9_part 3 (some .int)) ({ frames := 1, cells := 0, slots := 0, locals := 21 }) (va_Pc [.ref o, .int 0, .int 0] (pS D (tyL cI cZ cJ) (((((((mW o 0 q cI cZ).set 12 ((q 11), .inl (cI, 110, .inl (upd (fun _ => 0) (0 : Int32).toNatClampNeg 17)))).set 13 ((q 12), .inl (cI, 110, .inl (upd (fun _ => 0) (0 : Int32).toNatClampNeg x2)))).set 14 ((q 13), .inl (cI, 110, .inl (upd (fun _ => 0) (0 : Int32).toNatClampNeg 0)))).set 15 ((q 14), .inl (cI, 110, .inl (upd (fun _ => 0) (0 : Int32).toNatClampNeg 0)))).set 16 ((q 15), .inl (cI, 110, .inl (upd (fun _ => 0) (0 : Int32).toNatClampNeg (-1))))).set 17 ((q 16), .inl (cI, 110, .inl (upd (fun _ => 0) (0 : Int32).toNatClampNeg (-1))))))) (QcRead ((-1))) 0 0 (fun _ => False) := by
  refine rdStart (lv := [(0, .ref o), (1, .int 0), (2, .int 0)]) (by decide) (Nat.le_of_ble_eq_true rfl) rfl ?_
  intro p e s m args below meth c ls S hr hlocks hl hP hK
  have hx := S.1
  have hb := S.2.1
  refine lv_aload_n hx hb dX9_part_0 rfl (lv_at hl 0 rfl) ?_
  refine xg (ci := 9) S inX9 rfl hK hP (q0 := 0) rfl 14 (by decide) mF_14 kw_6_162 rfl dX9_part_1 ?_
  refine lv_iload_n hx hb dX9_part_4 rfl (lv_at hl 1 rfl) ?_
  refine xiald (t0 := 0) (v := 17) S hK hP (q0 := 12) rfl rfl (vin rfl) rfl dX9_part_5 ?_
  refine rdS (As := [.int 17]) S (c_X9_parts_5 l D cI cZ cJ o q x2 lo_x2 hi_x2) ms_X9_parts kw_7_189 ⟨rfl, rfl⟩ ⟨Nat.le_of_ble_eq_true rfl, Nat.le_of_ble_eq_true rfl⟩ hP hK hl.1 (Nat.le_of_ble_eq_true rfl) ⟨Nat.le_of_ble_eq_true rfl, Nat.le_of_ble_eq_true rfl⟩ dX9_part_6 ?_
  refine lv_iload_n hx hb dX9_part_9 rfl (lv_at hl 2 rfl) ?_
  refine rdS (As := [.int 0, .int 0]) S (c_X9_has_15 l D cI cZ cJ o q x2 lo_x2 hi_x2) ms_X9_has kw_7_192 ⟨rfl, rfl⟩ ⟨Nat.le_of_ble_eq_true rfl, Nat.le_of_ble_eq_true rfl⟩ hP hK hl.1 (Nat.le_of_ble_eq_true rfl) ⟨Nat.le_of_ble_eq_true rfl, Nat.le_of_ble_eq_true rfl⟩ dX9_part_10 ?_
  refine lv_if_ne (tgt := 18) hx hb dX9_part_13 (by decide) (fun c => absurd c (by decide)) (fun _ => ?_)
  refine lv_iconst (v := (-1)) hx hb dX9_part_16 (by decide) ?_
  exact rdEnd S hr hlocks dX9_part_17 rfl

set_option maxHeartbeats 8000000 in
set_option maxRecDepth 100000 in
theorem c_X9_has_16 (l : Launch) (D : va_G) (cI cZ cJ : ClassId) (o : Nat) (q : Nat → Nat) (x2 : Int32) (lo_x2 : 0 ≤ x2) (hi_x2 : x2 ≤ 9) : Met l yX9_has (uW yX9_has cX9_has 2 (some .boolean)) ({ frames := 0, cells := 0, slots := 0, locals := 0 }) (va_Pc [.int 0, .int 1] (pS D (tyL cI cZ cJ) (((((((mW o 0 q cI cZ).set 12 ((q 11), .inl (cI, 110, .inl (upd (fun _ => 0) (0 : Int32).toNatClampNeg 17)))).set 13 ((q 12), .inl (cI, 110, .inl (upd (fun _ => 0) (0 : Int32).toNatClampNeg x2)))).set 14 ((q 13), .inl (cI, 110, .inl (upd (fun _ => 0) (0 : Int32).toNatClampNeg 0)))).set 15 ((q 14), .inl (cI, 110, .inl (upd (fun _ => 0) (0 : Int32).toNatClampNeg 0)))).set 16 ((q 15), .inl (cI, 110, .inl (upd (fun _ => 0) (0 : Int32).toNatClampNeg (-1))))).set 17 ((q 16), .inl (cI, 110, .inl (upd (fun _ => 0) (0 : Int32).toNatClampNeg (-1))))))) (QcRead (0)) 0 0 (fun _ => False) := by
  refine rdStart (lv := [(0, .int 0), (1, .int 1)]) (by decide) (Nat.le_of_ble_eq_true rfl) rfl ?_
  intro p e s m args below meth c ls S hr hlocks hl hP hK
  have hx := S.1
  have hb := S.2.1
  refine lv_iload_n hx hb dX9_has_0 rfl (lv_at hl 0 rfl) ?_
  refine lv_iload_n hx hb dX9_has_1 rfl (lv_at hl 1 rfl) ?_
  refine xishr (v := 0) S dX9_has_2 (by decide) ?_
  refine lv_iconst (v := 1) hx hb dX9_has_3 (by decide) ?_
  refine xiand (v := 0) S dX9_has_4 (by decide) ?_
  refine lv_iconst (v := 1) hx hb dX9_has_5 (by decide) ?_
  refine lv_icmp_ne (tgt := 13) hx hb dX9_has_6 (by decide) (fun _ => ?_) (fun c => absurd c (by decide))
  refine lv_iconst (v := 0) hx hb dX9_has_13 (by decide) ?_
  exact rdEndZ S hr hlocks dX9_has_14 rfl rfl

set_option maxHeartbeats 8000000 in
set_option maxRecDepth 100000 in
theorem c_X9_part_16 (l : Launch) (D : va_G) (cI cZ cJ : ClassId) (o : Nat) (q : Nat → Nat) (x2 : Int32) (lo_x2 : 0 ≤ x2) (hi_x2 : x2 ≤ 9) : Met l yX9_part (uW yX9_part cX9_part 3 (some .int)) ({ frames := 1, cells := 0, slots := 0, locals := 21 }) (va_Pc [.ref o, .int 0, .int 1] (pS D (tyL cI cZ cJ) (((((((mW o 0 q cI cZ).set 12 ((q 11), .inl (cI, 110, .inl (upd (fun _ => 0) (0 : Int32).toNatClampNeg 17)))).set 13 ((q 12), .inl (cI, 110, .inl (upd (fun _ => 0) (0 : Int32).toNatClampNeg x2)))).set 14 ((q 13), .inl (cI, 110, .inl (upd (fun _ => 0) (0 : Int32).toNatClampNeg 0)))).set 15 ((q 14), .inl (cI, 110, .inl (upd (fun _ => 0) (0 : Int32).toNatClampNeg 0)))).set 16 ((q 15), .inl (cI, 110, .inl (upd (fun _ => 0) (0 : Int32).toNatClampNeg (-1))))).set 17 ((q 16), .inl (cI, 110, .inl (upd (fun _ => 0) (0 : Int32).toNatClampNeg (-1))))))) (QcRead ((-1))) 0 0 (fun _ => False) := by
  refine rdStart (lv := [(0, .ref o), (1, .int 0), (2, .int 1)]) (by decide) (Nat.le_of_ble_eq_true rfl) rfl ?_
  intro p e s m args below meth c ls S hr hlocks hl hP hK
  have hx := S.1
  have hb := S.2.1
  refine lv_aload_n hx hb dX9_part_0 rfl (lv_at hl 0 rfl) ?_
  refine xg (ci := 9) S inX9 rfl hK hP (q0 := 0) rfl 14 (by decide) mF_14 kw_6_162 rfl dX9_part_1 ?_
  refine lv_iload_n hx hb dX9_part_4 rfl (lv_at hl 1 rfl) ?_
  refine xiald (t0 := 0) (v := 17) S hK hP (q0 := 12) rfl rfl (vin rfl) rfl dX9_part_5 ?_
  refine rdS (As := [.int 17]) S (c_X9_parts_5 l D cI cZ cJ o q x2 lo_x2 hi_x2) ms_X9_parts kw_7_189 ⟨rfl, rfl⟩ ⟨Nat.le_of_ble_eq_true rfl, Nat.le_of_ble_eq_true rfl⟩ hP hK hl.1 (Nat.le_of_ble_eq_true rfl) ⟨Nat.le_of_ble_eq_true rfl, Nat.le_of_ble_eq_true rfl⟩ dX9_part_6 ?_
  refine lv_iload_n hx hb dX9_part_9 rfl (lv_at hl 2 rfl) ?_
  refine rdS (As := [.int 0, .int 1]) S (c_X9_has_16 l D cI cZ cJ o q x2 lo_x2 hi_x2) ms_X9_has kw_7_192 ⟨rfl, rfl⟩ ⟨Nat.le_of_ble_eq_true rfl, Nat.le_of_ble_eq_true rfl⟩ hP hK hl.1 (Nat.le_of_ble_eq_true rfl) ⟨Nat.le_of_ble_eq_true rfl, Nat.le_of_ble_eq_true rfl⟩ dX9_part_10 ?_
  refine lv_if_ne (tgt := 18) hx hb dX9_part_13 (by decide) (fun c => absurd c (by decide)) (fun _ => ?_)
  refine lv_iconst (v := (-1)) hx hb dX9_part_16 (by decide) ?_
  exact rdEnd S hr hlocks dX9_part_17 rfl

set_option maxHeartbeats 8000000 in
set_option maxRecDepth 100000 in
theorem c_X9_has_17 (l : Launch) (D : va_G) (cI cZ cJ : ClassId) (o : Nat) (q : Nat → Nat) (x2 : Int32) (lo_x2 : 0 ≤ x2) (hi_x2 : x2 ≤ 9) : Met l yX9_has (uW yX9_has cX9_has 2 (some .boolean)) ({ frames := 0, cells := 0, slots := 0, locals := 0 }) (va_Pc [.int 0, .int 2] (pS D (tyL cI cZ cJ) (((((((mW o 0 q cI cZ).set 12 ((q 11), .inl (cI, 110, .inl (upd (fun _ => 0) (0 : Int32).toNatClampNeg 17)))).set 13 ((q 12), .inl (cI, 110, .inl (upd (fun _ => 0) (0 : Int32).toNatClampNeg x2)))).set 14 ((q 13), .inl (cI, 110, .inl (upd (fun _ => 0) (0 : Int32).toNatClampNeg 0)))).set 15 ((q 14), .inl (cI, 110, .inl (upd (fun _ => 0) (0 : Int32).toNatClampNeg 0)))).set 16 ((q 15), .inl (cI, 110, .inl (upd (fun _ => 0) (0 : Int32).toNatClampNeg (-1))))).set 17 ((q 16), .inl (cI, 110, .inl (upd (fun _ => 0) (0 : Int32).toNatClampNeg (-1))))))) (QcRead (0)) 0 0 (fun _ => False) := by
  refine rdStart (lv := [(0, .int 0), (1, .int 2)]) (by decide) (Nat.le_of_ble_eq_true rfl) rfl ?_
  intro p e s m args below meth c ls S hr hlocks hl hP hK
  have hx := S.1
  have hb := S.2.1
  refine lv_iload_n hx hb dX9_has_0 rfl (lv_at hl 0 rfl) ?_
  refine lv_iload_n hx hb dX9_has_1 rfl (lv_at hl 1 rfl) ?_
  refine xishr (v := 0) S dX9_has_2 (by decide) ?_
  refine lv_iconst (v := 1) hx hb dX9_has_3 (by decide) ?_
  refine xiand (v := 0) S dX9_has_4 (by decide) ?_
  refine lv_iconst (v := 1) hx hb dX9_has_5 (by decide) ?_
  refine lv_icmp_ne (tgt := 13) hx hb dX9_has_6 (by decide) (fun _ => ?_) (fun c => absurd c (by decide))
  refine lv_iconst (v := 0) hx hb dX9_has_13 (by decide) ?_
  exact rdEndZ S hr hlocks dX9_has_14 rfl rfl

set_option maxHeartbeats 8000000 in
set_option maxRecDepth 100000 in
theorem c_X9_part_17 (l : Launch) (D : va_G) (cI cZ cJ : ClassId) (o : Nat) (q : Nat → Nat) (x2 : Int32) (lo_x2 : 0 ≤ x2) (hi_x2 : x2 ≤ 9) : Met l yX9_part (uW yX9_part cX9_part 3 (some .int)) ({ frames := 1, cells := 0, slots := 0, locals := 21 }) (va_Pc [.ref o, .int 0, .int 2] (pS D (tyL cI cZ cJ) (((((((mW o 0 q cI cZ).set 12 ((q 11), .inl (cI, 110, .inl (upd (fun _ => 0) (0 : Int32).toNatClampNeg 17)))).set 13 ((q 12), .inl (cI, 110, .inl (upd (fun _ => 0) (0 : Int32).toNatClampNeg x2)))).set 14 ((q 13), .inl (cI, 110, .inl (upd (fun _ => 0) (0 : Int32).toNatClampNeg 0)))).set 15 ((q 14), .inl (cI, 110, .inl (upd (fun _ => 0) (0 : Int32).toNatClampNeg 0)))).set 16 ((q 15), .inl (cI, 110, .inl (upd (fun _ => 0) (0 : Int32).toNatClampNeg (-1))))).set 17 ((q 16), .inl (cI, 110, .inl (upd (fun _ => 0) (0 : Int32).toNatClampNeg (-1))))))) (QcRead ((-1))) 0 0 (fun _ => False) := by
  refine rdStart (lv := [(0, .ref o), (1, .int 0), (2, .int 2)]) (by decide) (Nat.le_of_ble_eq_true rfl) rfl ?_
  intro p e s m args below meth c ls S hr hlocks hl hP hK
  have hx := S.1
  have hb := S.2.1
  refine lv_aload_n hx hb dX9_part_0 rfl (lv_at hl 0 rfl) ?_
  refine xg (ci := 9) S inX9 rfl hK hP (q0 := 0) rfl 14 (by decide) mF_14 kw_6_162 rfl dX9_part_1 ?_
  refine lv_iload_n hx hb dX9_part_4 rfl (lv_at hl 1 rfl) ?_
  refine xiald (t0 := 0) (v := 17) S hK hP (q0 := 12) rfl rfl (vin rfl) rfl dX9_part_5 ?_
  refine rdS (As := [.int 17]) S (c_X9_parts_5 l D cI cZ cJ o q x2 lo_x2 hi_x2) ms_X9_parts kw_7_189 ⟨rfl, rfl⟩ ⟨Nat.le_of_ble_eq_true rfl, Nat.le_of_ble_eq_true rfl⟩ hP hK hl.1 (Nat.le_of_ble_eq_true rfl) ⟨Nat.le_of_ble_eq_true rfl, Nat.le_of_ble_eq_true rfl⟩ dX9_part_6 ?_
  refine lv_iload_n hx hb dX9_part_9 rfl (lv_at hl 2 rfl) ?_
  refine rdS (As := [.int 0, .int 2]) S (c_X9_has_17 l D cI cZ cJ o q x2 lo_x2 hi_x2) ms_X9_has kw_7_192 ⟨rfl, rfl⟩ ⟨Nat.le_of_ble_eq_true rfl, Nat.le_of_ble_eq_true rfl⟩ hP hK hl.1 (Nat.le_of_ble_eq_true rfl) ⟨Nat.le_of_ble_eq_true rfl, Nat.le_of_ble_eq_true rfl⟩ dX9_part_10 ?_
  refine lv_if_ne (tgt := 18) hx hb dX9_part_13 (by decide) (fun c => absurd c (by decide)) (fun _ => ?_)
  refine lv_iconst (v := (-1)) hx hb dX9_part_16 (by decide) ?_
  exact rdEnd S hr hlocks dX9_part_17 rfl

set_option maxHeartbeats 8000000 in
set_option maxRecDepth 100000 in
theorem c_X9_node_39 (l : Launch) (D : va_G) (cI cZ cJ : ClassId) (o : Nat) (q : Nat → Nat) (sz : Nat) (x2 : Int32) (lo_x2 : 0 ≤ x2) (hi_x2 : x2 ≤ 9) : Met l yX9_node (uW yX9_node cX9_node 6 (some .int)) ({ frames := 2, cells := 0, slots := 0, locals := 46 }) (va_Pc [.ref o, .int 17, .int x2, .int 0, .int 0] (wS D (tyL cI cZ cJ) (mW o 0 q cI cZ) sz)) (wQi (0) D ((((((((mW o 0 q cI cZ).set 0 (o, .inr (9, ((mF 0 q).set 13 (.int 1))))).set 12 ((q 11), .inl (cI, 110, .inl (upd (fun _ => 0) (0 : Int32).toNatClampNeg 17)))).set 13 ((q 12), .inl (cI, 110, .inl (upd (fun _ => 0) (0 : Int32).toNatClampNeg x2)))).set 14 ((q 13), .inl (cI, 110, .inl (upd (fun _ => 0) (0 : Int32).toNatClampNeg 0)))).set 15 ((q 14), .inl (cI, 110, .inl (upd (fun _ => 0) (0 : Int32).toNatClampNeg 0)))).set 16 ((q 15), .inl (cI, 110, .inl (upd (fun _ => 0) (0 : Int32).toNatClampNeg (-1))))).set 17 ((q 16), .inl (cI, 110, .inl (upd (fun _ => 0) (0 : Int32).toNatClampNeg (-1))))) (va_A (mW o 0 q cI cZ) sz)) 0 0 (va_A (mW o 0 q cI cZ) sz) := by
  refine wStart (lv := [(0, .ref o), (1, .int 17), (2, .int x2), (3, .int 0), (4, .int 0)]) (Qc := fun A => wQi (0) D ((((((((mW o 0 q cI cZ).set 0 (o, .inr (9, ((mF 0 q).set 13 (.int 1))))).set 12 ((q 11), .inl (cI, 110, .inl (upd (fun _ => 0) (0 : Int32).toNatClampNeg 17)))).set 13 ((q 12), .inl (cI, 110, .inl (upd (fun _ => 0) (0 : Int32).toNatClampNeg x2)))).set 14 ((q 13), .inl (cI, 110, .inl (upd (fun _ => 0) (0 : Int32).toNatClampNeg 0)))).set 15 ((q 14), .inl (cI, 110, .inl (upd (fun _ => 0) (0 : Int32).toNatClampNeg 0)))).set 16 ((q 15), .inl (cI, 110, .inl (upd (fun _ => 0) (0 : Int32).toNatClampNeg (-1))))).set 17 ((q 16), .inl (cI, 110, .inl (upd (fun _ => 0) (0 : Int32).toNatClampNeg (-1))))) A) (by decide) (Nat.le_of_ble_eq_true rfl) rfl ?_
  intro p e s m args below meth c ls A H S hr hlocks hnm hl hK hP hD hS hA
  have hx := S.1
  have hb := S.2.1
  refine lv_aload_n hx hb dX9_node_0 rfl (lv_at hl 0 rfl) ?_
  refine lv_iconst (v := 0) hx hb dX9_node_1 (by decide) ?_
  refine xp (ci := 9) (v := .int 0) S inX9 tyX9 tyX9_ok nmX9 rfl hK hP hD hS mW_0 0 (by decide) kw_6_148 rfl rfl rfl rfl (Nat.le_of_ble_eq_true rfl) dX9_node_2 (fun H locs hP hD hS => ?_)
  have hP : va_P D vwCl (mW o 0 q cI cZ) H := hP
  have hD : va_D A (mW o 0 q cI cZ) := hD
  refine lv_iload_n hx hb dX9_node_5 rfl (lv_at hl 1 rfl) ?_
  refine lv_iconst (v := 0) hx hb dX9_node_6 (by decide) ?_
  refine lv_bipush (v := 21) hx hb dX9_node_7 (by decide) ?_
  refine rdS (As := [.int 17, .int 0, .int 21]) S (c_X9_isIn_59 l D cI cZ cJ o q) ms_X9_isIn kw_7_101 ⟨rfl, rfl⟩ ⟨Nat.le_of_ble_eq_true rfl, Nat.le_of_ble_eq_true rfl⟩ hP hK hl.1 (Nat.le_of_ble_eq_true rfl) ⟨Nat.le_of_ble_eq_true rfl, Nat.le_of_ble_eq_true rfl⟩ dX9_node_9 ?_
  refine lv_if_eq (tgt := 27) hx hb dX9_node_12 (by decide) (fun c => absurd c (by decide)) (fun _ => ?_)
  refine lv_aload_n hx hb dX9_node_15 rfl (lv_at hl 0 rfl) ?_
  refine lv_iload_n hx hb dX9_node_16 rfl (lv_at hl 1 rfl) ?_
  refine lv_iload_n hx hb dX9_node_17 rfl (lv_at hl 2 rfl) ?_
  refine lv_iload_n hx hb dX9_node_18 rfl (lv_at hl 3 rfl) ?_
  refine lv_iload hx hb dX9_node_19 (lv_at hl 4 rfl) ?_
  refine rdV (As := [.int 17, .int x2, .int 0, .int 0]) (ci := 9) S (c_X9_canBe_39 l D cI cZ cJ o q x2 lo_x2 hi_x2) mi_X9_canBe kw_7_155 ⟨rfl, rfl⟩ ⟨Nat.le_of_ble_eq_true rfl, Nat.le_of_ble_eq_true rfl⟩ hP hK mW_0 rfl rfl hl.1 (Nat.le_of_ble_eq_true rfl) ⟨Nat.le_of_ble_eq_true rfl, Nat.le_of_ble_eq_true rfl⟩ dX9_node_21 ?_
  refine lv_if_ne (tgt := 33) hx hb dX9_node_24 (by decide) (fun _ => ?_) (fun c => absurd c (by decide))
  refine lv_aload_n hx hb dX9_node_33 rfl (lv_at hl 0 rfl) ?_
  refine xg (ci := 9) S inX9 rfl hK hP mW_0 13 (by decide) mF_13 kw_6_161 rfl dX9_node_34 ?_
  refine lv_bipush (v := 110) hx hb dX9_node_37 (by decide) ?_
  refine lv_icmp_ne (tgt := 48) hx hb dX9_node_39 (by decide) (fun _ => ?_) (fun c => absurd c (by decide))
  refine lv_aload_n hx hb dX9_node_48 rfl (lv_at hl 0 rfl) ?_
  refine xg (ci := 9) S inX9 rfl hK hP mW_0 14 (by decide) mF_14 kw_6_162 rfl dX9_node_49 ?_
  refine lv_aload_n hx hb dX9_node_52 rfl (lv_at hl 0 rfl) ?_
  refine xg (ci := 9) S inX9 rfl hK hP mW_0 13 (by decide) mF_13 kw_6_161 rfl dX9_node_53 ?_
  refine lv_iload_n hx hb dX9_node_56 rfl (lv_at hl 1 rfl) ?_
  refine xiast (t0 := 0) S hK hP hD hS mW_12 rfl (vin rfl) dX9_node_57 (fun H locs hP hD hS => ?_)
  have hP : va_P D vwCl ((mW o 0 q cI cZ).set 12 ((q 11), .inl (cI, 110, .inl (upd (fun _ => 0) (0 : Int32).toNatClampNeg 17)))) H := hP
  have hD : va_D A ((mW o 0 q cI cZ).set 12 ((q 11), .inl (cI, 110, .inl (upd (fun _ => 0) (0 : Int32).toNatClampNeg 17)))) := hD
  refine lv_aload_n hx hb dX9_node_58 rfl (lv_at hl 0 rfl) ?_
  refine xg (ci := 9) S inX9 rfl hK hP (q0 := 0) rfl 15 (by decide) mF_15 kw_6_163 rfl dX9_node_59 ?_
  refine lv_aload_n hx hb dX9_node_62 rfl (lv_at hl 0 rfl) ?_
  refine xg (ci := 9) S inX9 rfl hK hP (q0 := 0) rfl 13 (by decide) mF_13 kw_6_161 rfl dX9_node_63 ?_
  refine lv_iload_n hx hb dX9_node_66 rfl (lv_at hl 2 rfl) ?_
  refine xiast (t0 := 0) S hK hP hD hS (q0 := 13) rfl rfl (vin rfl) dX9_node_67 (fun H locs hP hD hS => ?_)
  have hP : va_P D vwCl (((mW o 0 q cI cZ).set 12 ((q 11), .inl (cI, 110, .inl (upd (fun _ => 0) (0 : Int32).toNatClampNeg 17)))).set 13 ((q 12), .inl (cI, 110, .inl (upd (fun _ => 0) (0 : Int32).toNatClampNeg x2)))) H := hP
  have hD : va_D A (((mW o 0 q cI cZ).set 12 ((q 11), .inl (cI, 110, .inl (upd (fun _ => 0) (0 : Int32).toNatClampNeg 17)))).set 13 ((q 12), .inl (cI, 110, .inl (upd (fun _ => 0) (0 : Int32).toNatClampNeg x2)))) := hD
  refine lv_aload_n hx hb dX9_node_68 rfl (lv_at hl 0 rfl) ?_
  refine xg (ci := 9) S inX9 rfl hK hP (q0 := 0) rfl 16 (by decide) mF_16 kw_6_164 rfl dX9_node_69 ?_
  refine lv_aload_n hx hb dX9_node_72 rfl (lv_at hl 0 rfl) ?_
  refine xg (ci := 9) S inX9 rfl hK hP (q0 := 0) rfl 13 (by decide) mF_13 kw_6_161 rfl dX9_node_73 ?_
  refine lv_iload_n hx hb dX9_node_76 rfl (lv_at hl 3 rfl) ?_
  refine xiast (t0 := 0) S hK hP hD hS (q0 := 14) rfl rfl (vin rfl) dX9_node_77 (fun H locs hP hD hS => ?_)
  have hP : va_P D vwCl ((((mW o 0 q cI cZ).set 12 ((q 11), .inl (cI, 110, .inl (upd (fun _ => 0) (0 : Int32).toNatClampNeg 17)))).set 13 ((q 12), .inl (cI, 110, .inl (upd (fun _ => 0) (0 : Int32).toNatClampNeg x2)))).set 14 ((q 13), .inl (cI, 110, .inl (upd (fun _ => 0) (0 : Int32).toNatClampNeg 0)))) H := hP
  have hD : va_D A ((((mW o 0 q cI cZ).set 12 ((q 11), .inl (cI, 110, .inl (upd (fun _ => 0) (0 : Int32).toNatClampNeg 17)))).set 13 ((q 12), .inl (cI, 110, .inl (upd (fun _ => 0) (0 : Int32).toNatClampNeg x2)))).set 14 ((q 13), .inl (cI, 110, .inl (upd (fun _ => 0) (0 : Int32).toNatClampNeg 0)))) := hD
  refine lv_aload_n hx hb dX9_node_78 rfl (lv_at hl 0 rfl) ?_
  refine xg (ci := 9) S inX9 rfl hK hP (q0 := 0) rfl 17 (by decide) mF_17 kw_6_165 rfl dX9_node_79 ?_
  refine lv_aload_n hx hb dX9_node_82 rfl (lv_at hl 0 rfl) ?_
  refine xg (ci := 9) S inX9 rfl hK hP (q0 := 0) rfl 13 (by decide) mF_13 kw_6_161 rfl dX9_node_83 ?_
  refine lv_iload hx hb dX9_node_86 (lv_at hl 4 rfl) ?_
  refine xiast (t0 := 0) S hK hP hD hS (q0 := 15) rfl rfl (vin rfl) dX9_node_88 (fun H locs hP hD hS => ?_)
  have hP : va_P D vwCl (((((mW o 0 q cI cZ).set 12 ((q 11), .inl (cI, 110, .inl (upd (fun _ => 0) (0 : Int32).toNatClampNeg 17)))).set 13 ((q 12), .inl (cI, 110, .inl (upd (fun _ => 0) (0 : Int32).toNatClampNeg x2)))).set 14 ((q 13), .inl (cI, 110, .inl (upd (fun _ => 0) (0 : Int32).toNatClampNeg 0)))).set 15 ((q 14), .inl (cI, 110, .inl (upd (fun _ => 0) (0 : Int32).toNatClampNeg 0)))) H := hP
  have hD : va_D A (((((mW o 0 q cI cZ).set 12 ((q 11), .inl (cI, 110, .inl (upd (fun _ => 0) (0 : Int32).toNatClampNeg 17)))).set 13 ((q 12), .inl (cI, 110, .inl (upd (fun _ => 0) (0 : Int32).toNatClampNeg x2)))).set 14 ((q 13), .inl (cI, 110, .inl (upd (fun _ => 0) (0 : Int32).toNatClampNeg 0)))).set 15 ((q 14), .inl (cI, 110, .inl (upd (fun _ => 0) (0 : Int32).toNatClampNeg 0)))) := hD
  refine lv_aload_n hx hb dX9_node_89 rfl (lv_at hl 0 rfl) ?_
  refine xg (ci := 9) S inX9 rfl hK hP (q0 := 0) rfl 18 (by decide) mF_18 kw_6_166 rfl dX9_node_90 ?_
  refine lv_aload_n hx hb dX9_node_93 rfl (lv_at hl 0 rfl) ?_
  refine xg (ci := 9) S inX9 rfl hK hP (q0 := 0) rfl 13 (by decide) mF_13 kw_6_161 rfl dX9_node_94 ?_
  refine lv_iconst (v := (-1)) hx hb dX9_node_97 (by decide) ?_
  refine xiast (t0 := 0) S hK hP hD hS (q0 := 16) rfl rfl (vin rfl) dX9_node_98 (fun H locs hP hD hS => ?_)
  have hP : va_P D vwCl ((((((mW o 0 q cI cZ).set 12 ((q 11), .inl (cI, 110, .inl (upd (fun _ => 0) (0 : Int32).toNatClampNeg 17)))).set 13 ((q 12), .inl (cI, 110, .inl (upd (fun _ => 0) (0 : Int32).toNatClampNeg x2)))).set 14 ((q 13), .inl (cI, 110, .inl (upd (fun _ => 0) (0 : Int32).toNatClampNeg 0)))).set 15 ((q 14), .inl (cI, 110, .inl (upd (fun _ => 0) (0 : Int32).toNatClampNeg 0)))).set 16 ((q 15), .inl (cI, 110, .inl (upd (fun _ => 0) (0 : Int32).toNatClampNeg (-1))))) H := hP
  have hD : va_D A ((((((mW o 0 q cI cZ).set 12 ((q 11), .inl (cI, 110, .inl (upd (fun _ => 0) (0 : Int32).toNatClampNeg 17)))).set 13 ((q 12), .inl (cI, 110, .inl (upd (fun _ => 0) (0 : Int32).toNatClampNeg x2)))).set 14 ((q 13), .inl (cI, 110, .inl (upd (fun _ => 0) (0 : Int32).toNatClampNeg 0)))).set 15 ((q 14), .inl (cI, 110, .inl (upd (fun _ => 0) (0 : Int32).toNatClampNeg 0)))).set 16 ((q 15), .inl (cI, 110, .inl (upd (fun _ => 0) (0 : Int32).toNatClampNeg (-1))))) := hD
  refine lv_aload_n hx hb dX9_node_99 rfl (lv_at hl 0 rfl) ?_
  refine xg (ci := 9) S inX9 rfl hK hP (q0 := 0) rfl 19 (by decide) mF_19 kw_6_167 rfl dX9_node_100 ?_
  refine lv_aload_n hx hb dX9_node_103 rfl (lv_at hl 0 rfl) ?_
  refine xg (ci := 9) S inX9 rfl hK hP (q0 := 0) rfl 13 (by decide) mF_13 kw_6_161 rfl dX9_node_104 ?_
  refine lv_iconst (v := (-1)) hx hb dX9_node_107 (by decide) ?_
  refine xiast (t0 := 0) S hK hP hD hS (q0 := 17) rfl rfl (vin rfl) dX9_node_108 (fun H locs hP hD hS => ?_)
  have hP : va_P D vwCl (((((((mW o 0 q cI cZ).set 12 ((q 11), .inl (cI, 110, .inl (upd (fun _ => 0) (0 : Int32).toNatClampNeg 17)))).set 13 ((q 12), .inl (cI, 110, .inl (upd (fun _ => 0) (0 : Int32).toNatClampNeg x2)))).set 14 ((q 13), .inl (cI, 110, .inl (upd (fun _ => 0) (0 : Int32).toNatClampNeg 0)))).set 15 ((q 14), .inl (cI, 110, .inl (upd (fun _ => 0) (0 : Int32).toNatClampNeg 0)))).set 16 ((q 15), .inl (cI, 110, .inl (upd (fun _ => 0) (0 : Int32).toNatClampNeg (-1))))).set 17 ((q 16), .inl (cI, 110, .inl (upd (fun _ => 0) (0 : Int32).toNatClampNeg (-1))))) H := hP
  have hD : va_D A (((((((mW o 0 q cI cZ).set 12 ((q 11), .inl (cI, 110, .inl (upd (fun _ => 0) (0 : Int32).toNatClampNeg 17)))).set 13 ((q 12), .inl (cI, 110, .inl (upd (fun _ => 0) (0 : Int32).toNatClampNeg x2)))).set 14 ((q 13), .inl (cI, 110, .inl (upd (fun _ => 0) (0 : Int32).toNatClampNeg 0)))).set 15 ((q 14), .inl (cI, 110, .inl (upd (fun _ => 0) (0 : Int32).toNatClampNeg 0)))).set 16 ((q 15), .inl (cI, 110, .inl (upd (fun _ => 0) (0 : Int32).toNatClampNeg (-1))))).set 17 ((q 16), .inl (cI, 110, .inl (upd (fun _ => 0) (0 : Int32).toNatClampNeg (-1))))) := hD
  refine lv_iconst (v := 0) hx hb dX9_node_109 (by decide) ?_
  refine lv_istore (lv' := [(5, .int 0), (0, .ref o), (1, .int 17), (2, .int x2), (3, .int 0), (4, .int 0)]) hx hb dX9_node_110 hl (by decide) rfl (fun ls hl => ?_)
  refine lv_iload hx hb dX9_node_112 (lv_at hl 0 rfl) ?_
  refine lv_iconst (v := 3) hx hb dX9_node_114 (by decide) ?_
  refine lv_icmp_ge (tgt := 157) hx hb dX9_node_115 (by decide) (fun c => absurd c (by decide)) (fun _ => ?_)
  refine lv_aload_n hx hb dX9_node_118 rfl (lv_at hl 1 rfl) ?_
  refine lv_aload_n hx hb dX9_node_119 rfl (lv_at hl 1 rfl) ?_
  refine xg (ci := 9) S inX9 rfl hK hP (q0 := 0) rfl 13 (by decide) mF_13 kw_6_161 rfl dX9_node_120 ?_
  refine lv_iload hx hb dX9_node_123 (lv_at hl 0 rfl) ?_
  refine rdV (As := [.int 0, .int 0]) (ci := 9) S (c_X9_part_15 l D cI cZ cJ o q x2 lo_x2 hi_x2) mi_X9_part kw_7_185 ⟨rfl, rfl⟩ ⟨Nat.le_of_ble_eq_true rfl, Nat.le_of_ble_eq_true rfl⟩ hP hK (k := 0) rfl rfl rfl hl.1 (Nat.le_of_ble_eq_true rfl) ⟨Nat.le_of_ble_eq_true rfl, Nat.le_of_ble_eq_true rfl⟩ dX9_node_125 ?_
  refine lv_iconst (v := (-1)) hx hb dX9_node_128 (by decide) ?_
  refine lv_icmp_eq (tgt := 151) hx hb dX9_node_129 (by decide) (fun _ => ?_) (fun c => absurd c (by decide))
  refine lv_iinc (v := 1) (lv' := [(5, .int 1), (0, .ref o), (1, .int 17), (2, .int x2), (3, .int 0), (4, .int 0)]) hx hb dX9_node_151 hl (k := 0) rfl (by decide) (by decide) rfl (fun ls hl => ?_)
  refine lv_goto (tgt := 112) hx hb dX9_node_154 (by decide) ?_
  refine lv_iload hx hb dX9_node_112 (lv_at hl 0 rfl) ?_
  refine lv_iconst (v := 3) hx hb dX9_node_114 (by decide) ?_
  refine lv_icmp_ge (tgt := 157) hx hb dX9_node_115 (by decide) (fun c => absurd c (by decide)) (fun _ => ?_)
  refine lv_aload_n hx hb dX9_node_118 rfl (lv_at hl 1 rfl) ?_
  refine lv_aload_n hx hb dX9_node_119 rfl (lv_at hl 1 rfl) ?_
  refine xg (ci := 9) S inX9 rfl hK hP (q0 := 0) rfl 13 (by decide) mF_13 kw_6_161 rfl dX9_node_120 ?_
  refine lv_iload hx hb dX9_node_123 (lv_at hl 0 rfl) ?_
  refine rdV (As := [.int 0, .int 1]) (ci := 9) S (c_X9_part_16 l D cI cZ cJ o q x2 lo_x2 hi_x2) mi_X9_part kw_7_185 ⟨rfl, rfl⟩ ⟨Nat.le_of_ble_eq_true rfl, Nat.le_of_ble_eq_true rfl⟩ hP hK (k := 0) rfl rfl rfl hl.1 (Nat.le_of_ble_eq_true rfl) ⟨Nat.le_of_ble_eq_true rfl, Nat.le_of_ble_eq_true rfl⟩ dX9_node_125 ?_
  refine lv_iconst (v := (-1)) hx hb dX9_node_128 (by decide) ?_
  refine lv_icmp_eq (tgt := 151) hx hb dX9_node_129 (by decide) (fun _ => ?_) (fun c => absurd c (by decide))
  refine lv_iinc (v := 2) (lv' := [(5, .int 2), (0, .ref o), (1, .int 17), (2, .int x2), (3, .int 0), (4, .int 0)]) hx hb dX9_node_151 hl (k := 0) rfl (by decide) (by decide) rfl (fun ls hl => ?_)
  refine lv_goto (tgt := 112) hx hb dX9_node_154 (by decide) ?_
  refine lv_iload hx hb dX9_node_112 (lv_at hl 0 rfl) ?_
  refine lv_iconst (v := 3) hx hb dX9_node_114 (by decide) ?_
  refine lv_icmp_ge (tgt := 157) hx hb dX9_node_115 (by decide) (fun c => absurd c (by decide)) (fun _ => ?_)
  refine lv_aload_n hx hb dX9_node_118 rfl (lv_at hl 1 rfl) ?_
  refine lv_aload_n hx hb dX9_node_119 rfl (lv_at hl 1 rfl) ?_
  refine xg (ci := 9) S inX9 rfl hK hP (q0 := 0) rfl 13 (by decide) mF_13 kw_6_161 rfl dX9_node_120 ?_
  refine lv_iload hx hb dX9_node_123 (lv_at hl 0 rfl) ?_
  refine rdV (As := [.int 0, .int 2]) (ci := 9) S (c_X9_part_17 l D cI cZ cJ o q x2 lo_x2 hi_x2) mi_X9_part kw_7_185 ⟨rfl, rfl⟩ ⟨Nat.le_of_ble_eq_true rfl, Nat.le_of_ble_eq_true rfl⟩ hP hK (k := 0) rfl rfl rfl hl.1 (Nat.le_of_ble_eq_true rfl) ⟨Nat.le_of_ble_eq_true rfl, Nat.le_of_ble_eq_true rfl⟩ dX9_node_125 ?_
  refine lv_iconst (v := (-1)) hx hb dX9_node_128 (by decide) ?_
  refine lv_icmp_eq (tgt := 151) hx hb dX9_node_129 (by decide) (fun _ => ?_) (fun c => absurd c (by decide))
  refine lv_iinc (v := 3) (lv' := [(5, .int 3), (0, .ref o), (1, .int 17), (2, .int x2), (3, .int 0), (4, .int 0)]) hx hb dX9_node_151 hl (k := 0) rfl (by decide) (by decide) rfl (fun ls hl => ?_)
  refine lv_goto (tgt := 112) hx hb dX9_node_154 (by decide) ?_
  refine lv_iload hx hb dX9_node_112 (lv_at hl 0 rfl) ?_
  refine lv_iconst (v := 3) hx hb dX9_node_114 (by decide) ?_
  refine lv_icmp_ge (tgt := 157) hx hb dX9_node_115 (by decide) (fun _ => ?_) (fun c => absurd c (by decide))
  refine lv_aload_n hx hb dX9_node_157 rfl (lv_at hl 1 rfl) ?_
  refine lv_dup hx hb dX9_node_158 rfl ?_
  refine xg (ci := 9) S inX9 rfl hK hP (q0 := 0) rfl 13 (by decide) mF_13 kw_6_161 rfl dX9_node_159 ?_
  refine lv_dup_x1 hx hb dX9_node_162 rfl rfl ?_
  refine lv_iconst (v := 1) hx hb dX9_node_163 (by decide) ?_
  refine xiadd (v := 1) S dX9_node_164 (by decide) ?_
  refine xp (ci := 9) (v := .int 1) S inX9 tyX9 tyX9_ok nmX9 rfl hK hP hD hS (q0 := 0) rfl 13 (by decide) kw_6_161 rfl rfl rfl rfl (Nat.le_of_ble_eq_true rfl) dX9_node_165 (fun H locs hP hD hS => ?_)
  have hP : va_P D vwCl ((((((((mW o 0 q cI cZ).set 0 (o, .inr (9, ((mF 0 q).set 13 (.int 1))))).set 12 ((q 11), .inl (cI, 110, .inl (upd (fun _ => 0) (0 : Int32).toNatClampNeg 17)))).set 13 ((q 12), .inl (cI, 110, .inl (upd (fun _ => 0) (0 : Int32).toNatClampNeg x2)))).set 14 ((q 13), .inl (cI, 110, .inl (upd (fun _ => 0) (0 : Int32).toNatClampNeg 0)))).set 15 ((q 14), .inl (cI, 110, .inl (upd (fun _ => 0) (0 : Int32).toNatClampNeg 0)))).set 16 ((q 15), .inl (cI, 110, .inl (upd (fun _ => 0) (0 : Int32).toNatClampNeg (-1))))).set 17 ((q 16), .inl (cI, 110, .inl (upd (fun _ => 0) (0 : Int32).toNatClampNeg (-1))))) H := hP
  have hD : va_D A ((((((((mW o 0 q cI cZ).set 0 (o, .inr (9, ((mF 0 q).set 13 (.int 1))))).set 12 ((q 11), .inl (cI, 110, .inl (upd (fun _ => 0) (0 : Int32).toNatClampNeg 17)))).set 13 ((q 12), .inl (cI, 110, .inl (upd (fun _ => 0) (0 : Int32).toNatClampNeg x2)))).set 14 ((q 13), .inl (cI, 110, .inl (upd (fun _ => 0) (0 : Int32).toNatClampNeg 0)))).set 15 ((q 14), .inl (cI, 110, .inl (upd (fun _ => 0) (0 : Int32).toNatClampNeg 0)))).set 16 ((q 15), .inl (cI, 110, .inl (upd (fun _ => 0) (0 : Int32).toNatClampNeg (-1))))).set 17 ((q 16), .inl (cI, 110, .inl (upd (fun _ => 0) (0 : Int32).toNatClampNeg (-1))))) := hD
  exact wEnd S hr hlocks hP hD hS (Nat.le_of_ble_eq_true rfl) (Nat.le_of_ble_eq_true rfl) dX9_node_168 rfl

set_option maxHeartbeats 8000000 in
set_option maxRecDepth 100000 in
theorem c_X9_thrown_14 (l : Launch) (D : va_G) (cI cZ cJ : ClassId) (o : Nat) (q : Nat → Nat) (x2 : Int32) (lo_x2 : 0 ≤ x2) (hi_x2 : x2 ≤ 9) : Met l yX9_thrown (uW yX9_thrown cX9_thrown 1 (some .int)) ({ frames := 0, cells := 0, slots := 0, locals := 0 }) (va_Pc [.ref o] (pS D (tyL cI cZ cJ) ((((((((mW o 0 q cI cZ).set 0 (o, .inr (9, ((mF 0 q).set 13 (.int 1))))).set 12 ((q 11), .inl (cI, 110, .inl (upd (fun _ => 0) (0 : Int32).toNatClampNeg 17)))).set 13 ((q 12), .inl (cI, 110, .inl (upd (fun _ => 0) (0 : Int32).toNatClampNeg x2)))).set 14 ((q 13), .inl (cI, 110, .inl (upd (fun _ => 0) (0 : Int32).toNatClampNeg 0)))).set 15 ((q 14), .inl (cI, 110, .inl (upd (fun _ => 0) (0 : Int32).toNatClampNeg 0)))).set 16 ((q 15), .inl (cI, 110, .inl (upd (fun _ => 0) (0 : Int32).toNatClampNeg (-1))))).set 17 ((q 16), .inl (cI, 110, .inl (upd (fun _ => 0) (0 : Int32).toNatClampNeg (-1))))))) (QcRead (0)) 0 0 (fun _ => False) := by
  refine rdStart (lv := [(0, .ref o)]) (by decide) (Nat.le_of_ble_eq_true rfl) rfl ?_
  intro p e s m args below meth c ls S hr hlocks hl hP hK
  have hx := S.1
  have hb := S.2.1
  refine lv_aload_n hx hb dX9_thrown_0 rfl (lv_at hl 0 rfl) ?_
  refine xg (ci := 9) S inX9 rfl hK hP (q0 := 0) rfl 0 (by decide) rfl kw_6_148 rfl dX9_thrown_1 ?_
  exact rdEnd S hr hlocks dX9_thrown_4 rfl

set_option maxHeartbeats 8000000 in
set_option maxRecDepth 100000 in
theorem h_node_40 (l : Launch) (D : va_G) (cI cZ cJ : ClassId) (o : Nat) (u : Nat → Nat) (ao : Nat) (hst : l.stackTraces = false) (ra ga : Nat → Nat) (sz : Nat) (x2 : Int32) (x4 : Int32) (lo_x2 : 0 ≤ x2) (hi_x2 : x2 ≤ 9) (ne_x4_0 : ¬ x4 = 0) : vx_Met l yL_node (uWh yL_node cL_node 7 (some .int) [(0, 14, 17, 15), (0, 14, 21, 17)]) ({ frames := 8, cells := 1, slots := 6, locals := 126 }) (va_Pc [.ref o, .int 17, .int x2, .int 0, .int x4, .ref ao] (lS ra ga D (tyL cI cZ cJ) ((xW o u cI cZ cJ) ++ [(ao, .inl (cJ, 1, .inr (.inl (fun _ => 0))))]) sz)) (wQi (1) D ((xW o u cI cZ cJ) ++ [(ao, .inl (cJ, 1, .inr (.inl (fun _ => 0))))]) (va_A ((xW o u cI cZ cJ) ++ [(ao, .inl (cJ, 1, .inr (.inl (fun _ => 0))))]) sz)) (xN (va_A ((xW o u cI cZ cJ) ++ [(ao, .inl (cJ, 1, .inr (.inl (fun _ => 0))))]) sz)) 1 6 (va_A ((xW o u cI cZ cJ) ++ [(ao, .inl (cJ, 1, .inr (.inl (fun _ => 0))))]) sz) := by
  refine hStart (l := l) (y := yL_node) (b := cL_node) (n := 7) (r := (some .int)) (hh := [(0, 14, 17, 15), (0, 14, 21, 17)]) (rm := ({ frames := 8, cells := 1, slots := 6, locals := 126 })) (mc := 1) (ms := 6) (ra := ra) (ga := ga) (D := D) (tys := tyL cI cZ cJ) (ws := ((xW o u cI cZ cJ) ++ [(ao, .inl (cJ, 1, .inr (.inl (fun _ => 0))))])) (av := [.ref o, .int 17, .int x2, .int 0, .int x4, .ref ao]) (sz := sz) (lv := [(0, .ref o), (1, .int 17), (2, .int x2), (3, .int 0), (4, .int x4), (5, .ref ao)]) (Qc := fun A => wQi (1) D ((xW o u cI cZ cJ) ++ [(ao, .inl (cJ, 1, .inr (.inl (fun _ => 0))))]) A) (by decide) (Nat.le_of_ble_eq_true rfl) rfl ?_
  intro p e s m args below meth c ls A H S hr hlocks htab hl hK hP hD hS hA hB hC
  have hx := S.1
  have hb := S.2.1
  refine lv_aload hx hb dL_node_0 (lv_at hl 5 rfl) ?_
  refine lv_iconst (v := 0) hx hb dL_node_2 (by decide) ?_
  refine lv_aload_n hx hb dL_node_3 rfl (lv_at hl 0 rfl) ?_
  refine lv_iload_n hx hb dL_node_4 rfl (lv_at hl 1 rfl) ?_
  refine lv_iload_n hx hb dL_node_5 rfl (lv_at hl 2 rfl) ?_
  refine lv_iload_n hx hb dL_node_6 rfl (lv_at hl 3 rfl) ?_
  refine lv_iload hx hb dL_node_7 (lv_at hl 4 rfl) ?_
  refine cVi [] [(ao, .inl (cJ, 1, .inr (.inl (fun _ => 0))))] (As := [.int 17, .int x2, .int 0, .int x4]) (ci := 8) S (c_X8_node_40 l D cI cZ cJ o u hst ra ga H.size x2 x4 lo_x2 hi_x2 ne_x4_0) mi_X8_node kw_6_23 rfl rfl ⟨Nat.le_of_ble_eq_true rfl, Nat.le_of_ble_eq_true rfl⟩ hP hD hK hS hA hB xW_0 rfl rfl hl.1 (Nat.le_of_ble_eq_true rfl) ⟨Nat.le_of_ble_eq_true rfl, Nat.le_of_ble_eq_true rfl⟩ dL_node_9 (fun ce q9 H locs hz hP hD hS hce hcv hcl => ?_)
  refine vx_catch (name := "java/lang/IllegalArgumentException") S.2.2.2.1 [] (⟨0, 14, 17, 15⟩ : ExceptionTableEntry) [(⟨0, 14, 21, 17⟩ : ExceptionTableEntry)] (htab.trans rfl) (fun _ h => absurd h List.not_mem_nil) (by decide) (by decide) (S.2.2.2.2 _ kw_5_177) (va_Nw.use rfl hB.c1) hce hcv hcl ?_
  have hP : va_P D vwCl ((xW o u cI cZ cJ) ++ [(ao, .inl (cJ, 1, .inr (.inl (fun _ => 0))))]) H := hP
  have hD : va_D A ((xW o u cI cZ cJ) ++ [(ao, .inl (cJ, 1, .inr (.inl (fun _ => 0))))]) := hD
  refine lv_astore (lv' := [(6, .ref q9), (0, .ref o), (1, .int 17), (2, .int x2), (3, .int 0), (4, .int x4), (5, .ref ao)]) hx hb dL_node_17 hl (by decide) rfl (fun ls hl => ?_)
  refine lv_iconst (v := 1) hx hb dL_node_19 (by decide) ?_
  exact vx_ret (wEnd S hr hlocks hP hD hS (Nat.le_of_ble_eq_true rfl) (Nat.le_of_ble_eq_true rfl) dL_node_20 rfl)

set_option maxHeartbeats 8000000 in
set_option maxRecDepth 100000 in
theorem c_X9_canBe_40 (l : Launch) (D : va_G) (cI cZ cJ : ClassId) (o : Nat) (q : Nat → Nat) (x2 : Int32) (x4 : Int32) (lo_x2 : 0 ≤ x2) (hi_x2 : x2 ≤ 9) (ne_x4_0 : ¬ x4 = 0) : Met l yX9_canBe (uW yX9_canBe cX9_canBe 5 (some .boolean)) ({ frames := 1, cells := 0, slots := 0, locals := 22 }) (va_Pc [.ref o, .int 17, .int x2, .int 0, .int x4] (pS D (tyL cI cZ cJ) (mW o 0 q cI cZ))) (QcRead (0)) 0 0 (fun _ => False) := by
  refine rdStart (lv := [(0, .ref o), (1, .int 17), (2, .int x2), (3, .int 0), (4, .int x4)]) (by decide) (Nat.le_of_ble_eq_true rfl) rfl ?_
  intro p e s m args below meth c ls S hr hlocks hl hP hK
  have hx := S.1
  have hb := S.2.1
  refine lv_iload_n hx hb dX9_canBe_0 rfl (lv_at hl 1 rfl) ?_
  refine lv_tableIn (off := 443) (tgt := 444) hx hb dX9_canBe_1 (by decide) (by decide) (by decide) (by decide) ?_
  refine lv_iload_n hx hb dX9_canBe_444 rfl (lv_at hl 2 rfl) ?_
  refine lv_iconst (v := 0) hx hb dX9_canBe_445 (by decide) ?_
  refine lv_bipush (v := 9) hx hb dX9_canBe_446 (by decide) ?_
  refine rdS (As := [.int x2, .int 0, .int 9]) S (c_X9_isIn_58 l D cI cZ cJ o q x2 lo_x2 hi_x2) ms_X9_isIn kw_7_101 ⟨rfl, rfl⟩ ⟨Nat.le_of_ble_eq_true rfl, Nat.le_of_ble_eq_true rfl⟩ hP hK hl.1 (Nat.le_of_ble_eq_true rfl) ⟨Nat.le_of_ble_eq_true rfl, Nat.le_of_ble_eq_true rfl⟩ dX9_canBe_448 ?_
  refine lv_if_eq (tgt := 467) hx hb dX9_canBe_451 (by decide) (fun c => absurd c (by decide)) (fun _ => ?_)
  refine lv_iload_n hx hb dX9_canBe_454 rfl (lv_at hl 3 rfl) ?_
  refine lv_if_ne (tgt := 467) hx hb dX9_canBe_455 (by decide) (fun c => absurd c (by decide)) (fun _ => ?_)
  refine lv_iload hx hb dX9_canBe_458 (lv_at hl 4 rfl) ?_
  refine lv_if_ne (tgt := 467) hx hb dX9_canBe_460 (by decide) (fun _ => ?_) (fun c => absurd c ne_x4_0)
  refine lv_iconst (v := 0) hx hb dX9_canBe_467 (by decide) ?_
  exact rdEndZ S hr hlocks dX9_canBe_468 rfl rfl

set_option maxHeartbeats 8000000 in
set_option maxRecDepth 100000 in
theorem c_X9_node_40 (l : Launch) (D : va_G) (cI cZ cJ : ClassId) (o : Nat) (q : Nat → Nat) (sz : Nat) (x2 : Int32) (x4 : Int32) (lo_x2 : 0 ≤ x2) (hi_x2 : x2 ≤ 9) (ne_x4_0 : ¬ x4 = 0) : Met l yX9_node (uW yX9_node cX9_node 6 (some .int)) ({ frames := 2, cells := 0, slots := 0, locals := 46 }) (va_Pc [.ref o, .int 17, .int x2, .int 0, .int x4] (wS D (tyL cI cZ cJ) (mW o 0 q cI cZ) sz)) (wQi (0) D (mW o 1 q cI cZ) (va_A (mW o 0 q cI cZ) sz)) 0 0 (va_A (mW o 0 q cI cZ) sz) := by
  refine wStart (lv := [(0, .ref o), (1, .int 17), (2, .int x2), (3, .int 0), (4, .int x4)]) (Qc := fun A => wQi (0) D (mW o 1 q cI cZ) A) (by decide) (Nat.le_of_ble_eq_true rfl) rfl ?_
  intro p e s m args below meth c ls A H S hr hlocks hnm hl hK hP hD hS hA
  have hx := S.1
  have hb := S.2.1
  refine lv_aload_n hx hb dX9_node_0 rfl (lv_at hl 0 rfl) ?_
  refine lv_iconst (v := 0) hx hb dX9_node_1 (by decide) ?_
  refine xp (ci := 9) (v := .int 0) S inX9 tyX9 tyX9_ok nmX9 rfl hK hP hD hS mW_0 0 (by decide) kw_6_148 rfl rfl rfl rfl (Nat.le_of_ble_eq_true rfl) dX9_node_2 (fun H locs hP hD hS => ?_)
  have hP : va_P D vwCl (mW o 0 q cI cZ) H := hP
  have hD : va_D A (mW o 0 q cI cZ) := hD
  refine lv_iload_n hx hb dX9_node_5 rfl (lv_at hl 1 rfl) ?_
  refine lv_iconst (v := 0) hx hb dX9_node_6 (by decide) ?_
  refine lv_bipush (v := 21) hx hb dX9_node_7 (by decide) ?_
  refine rdS (As := [.int 17, .int 0, .int 21]) S (c_X9_isIn_59 l D cI cZ cJ o q) ms_X9_isIn kw_7_101 ⟨rfl, rfl⟩ ⟨Nat.le_of_ble_eq_true rfl, Nat.le_of_ble_eq_true rfl⟩ hP hK hl.1 (Nat.le_of_ble_eq_true rfl) ⟨Nat.le_of_ble_eq_true rfl, Nat.le_of_ble_eq_true rfl⟩ dX9_node_9 ?_
  refine lv_if_eq (tgt := 27) hx hb dX9_node_12 (by decide) (fun c => absurd c (by decide)) (fun _ => ?_)
  refine lv_aload_n hx hb dX9_node_15 rfl (lv_at hl 0 rfl) ?_
  refine lv_iload_n hx hb dX9_node_16 rfl (lv_at hl 1 rfl) ?_
  refine lv_iload_n hx hb dX9_node_17 rfl (lv_at hl 2 rfl) ?_
  refine lv_iload_n hx hb dX9_node_18 rfl (lv_at hl 3 rfl) ?_
  refine lv_iload hx hb dX9_node_19 (lv_at hl 4 rfl) ?_
  refine rdV (As := [.int 17, .int x2, .int 0, .int x4]) (ci := 9) S (c_X9_canBe_40 l D cI cZ cJ o q x2 x4 lo_x2 hi_x2 ne_x4_0) mi_X9_canBe kw_7_155 ⟨rfl, rfl⟩ ⟨Nat.le_of_ble_eq_true rfl, Nat.le_of_ble_eq_true rfl⟩ hP hK mW_0 rfl rfl hl.1 (Nat.le_of_ble_eq_true rfl) ⟨Nat.le_of_ble_eq_true rfl, Nat.le_of_ble_eq_true rfl⟩ dX9_node_21 ?_
  refine lv_if_ne (tgt := 33) hx hb dX9_node_24 (by decide) (fun c => absurd c (by decide)) (fun _ => ?_)
  refine lv_aload_n hx hb dX9_node_27 rfl (lv_at hl 0 rfl) ?_
  refine lv_iconst (v := 1) hx hb dX9_node_28 (by decide) ?_
  refine wrV (As := [.int 1]) (ci := 9) S (c_X9_no_0 l D cI cZ cJ o q H.size) mi_X9_no kw_7_104 rfl rfl ⟨Nat.le_of_ble_eq_true rfl, Nat.le_of_ble_eq_true rfl⟩ hP hD hK hS hA mW_0 rfl rfl hl.1 (Nat.le_of_ble_eq_true rfl) ⟨Nat.le_of_ble_eq_true rfl, Nat.le_of_ble_eq_true rfl⟩ dX9_node_29 (fun H locs hz hP hD hS => ?_)
  exact wEnd S hr hlocks hP hD hS (Nat.le_of_ble_eq_true rfl) (Nat.le_of_ble_eq_true rfl) dX9_node_32 rfl

set_option maxHeartbeats 8000000 in
set_option maxRecDepth 100000 in
theorem h_node_41 (l : Launch) (D : va_G) (cI cZ cJ : ClassId) (o : Nat) (u : Nat → Nat) (ao : Nat) (hst : l.stackTraces = false) (ra ga : Nat → Nat) (sz : Nat) (x2 : Int32) (x3 : Int32) (x4 : Int32) (lo_x2 : 0 ≤ x2) (hi_x2 : x2 ≤ 9) (ne_x3_0 : ¬ x3 = 0) : vx_Met l yL_node (uWh yL_node cL_node 7 (some .int) [(0, 14, 17, 15), (0, 14, 21, 17)]) ({ frames := 8, cells := 1, slots := 6, locals := 126 }) (va_Pc [.ref o, .int 17, .int x2, .int x3, .int x4, .ref ao] (lS ra ga D (tyL cI cZ cJ) ((xW o u cI cZ cJ) ++ [(ao, .inl (cJ, 1, .inr (.inl (fun _ => 0))))]) sz)) (wQi (1) D ((xW o u cI cZ cJ) ++ [(ao, .inl (cJ, 1, .inr (.inl (fun _ => 0))))]) (va_A ((xW o u cI cZ cJ) ++ [(ao, .inl (cJ, 1, .inr (.inl (fun _ => 0))))]) sz)) (xN (va_A ((xW o u cI cZ cJ) ++ [(ao, .inl (cJ, 1, .inr (.inl (fun _ => 0))))]) sz)) 1 6 (va_A ((xW o u cI cZ cJ) ++ [(ao, .inl (cJ, 1, .inr (.inl (fun _ => 0))))]) sz) := by
  refine hStart (l := l) (y := yL_node) (b := cL_node) (n := 7) (r := (some .int)) (hh := [(0, 14, 17, 15), (0, 14, 21, 17)]) (rm := ({ frames := 8, cells := 1, slots := 6, locals := 126 })) (mc := 1) (ms := 6) (ra := ra) (ga := ga) (D := D) (tys := tyL cI cZ cJ) (ws := ((xW o u cI cZ cJ) ++ [(ao, .inl (cJ, 1, .inr (.inl (fun _ => 0))))])) (av := [.ref o, .int 17, .int x2, .int x3, .int x4, .ref ao]) (sz := sz) (lv := [(0, .ref o), (1, .int 17), (2, .int x2), (3, .int x3), (4, .int x4), (5, .ref ao)]) (Qc := fun A => wQi (1) D ((xW o u cI cZ cJ) ++ [(ao, .inl (cJ, 1, .inr (.inl (fun _ => 0))))]) A) (by decide) (Nat.le_of_ble_eq_true rfl) rfl ?_
  intro p e s m args below meth c ls A H S hr hlocks htab hl hK hP hD hS hA hB hC
  have hx := S.1
  have hb := S.2.1
  refine lv_aload hx hb dL_node_0 (lv_at hl 5 rfl) ?_
  refine lv_iconst (v := 0) hx hb dL_node_2 (by decide) ?_
  refine lv_aload_n hx hb dL_node_3 rfl (lv_at hl 0 rfl) ?_
  refine lv_iload_n hx hb dL_node_4 rfl (lv_at hl 1 rfl) ?_
  refine lv_iload_n hx hb dL_node_5 rfl (lv_at hl 2 rfl) ?_
  refine lv_iload_n hx hb dL_node_6 rfl (lv_at hl 3 rfl) ?_
  refine lv_iload hx hb dL_node_7 (lv_at hl 4 rfl) ?_
  refine cVi [] [(ao, .inl (cJ, 1, .inr (.inl (fun _ => 0))))] (As := [.int 17, .int x2, .int x3, .int x4]) (ci := 8) S (c_X8_node_41 l D cI cZ cJ o u hst ra ga H.size x2 x3 x4 lo_x2 hi_x2 ne_x3_0) mi_X8_node kw_6_23 rfl rfl ⟨Nat.le_of_ble_eq_true rfl, Nat.le_of_ble_eq_true rfl⟩ hP hD hK hS hA hB xW_0 rfl rfl hl.1 (Nat.le_of_ble_eq_true rfl) ⟨Nat.le_of_ble_eq_true rfl, Nat.le_of_ble_eq_true rfl⟩ dL_node_9 (fun ce q9 H locs hz hP hD hS hce hcv hcl => ?_)
  refine vx_catch (name := "java/lang/IllegalArgumentException") S.2.2.2.1 [] (⟨0, 14, 17, 15⟩ : ExceptionTableEntry) [(⟨0, 14, 21, 17⟩ : ExceptionTableEntry)] (htab.trans rfl) (fun _ h => absurd h List.not_mem_nil) (by decide) (by decide) (S.2.2.2.2 _ kw_5_177) (va_Nw.use rfl hB.c1) hce hcv hcl ?_
  have hP : va_P D vwCl ((xW o u cI cZ cJ) ++ [(ao, .inl (cJ, 1, .inr (.inl (fun _ => 0))))]) H := hP
  have hD : va_D A ((xW o u cI cZ cJ) ++ [(ao, .inl (cJ, 1, .inr (.inl (fun _ => 0))))]) := hD
  refine lv_astore (lv' := [(6, .ref q9), (0, .ref o), (1, .int 17), (2, .int x2), (3, .int x3), (4, .int x4), (5, .ref ao)]) hx hb dL_node_17 hl (by decide) rfl (fun ls hl => ?_)
  refine lv_iconst (v := 1) hx hb dL_node_19 (by decide) ?_
  exact vx_ret (wEnd S hr hlocks hP hD hS (Nat.le_of_ble_eq_true rfl) (Nat.le_of_ble_eq_true rfl) dL_node_20 rfl)

set_option maxHeartbeats 8000000 in
set_option maxRecDepth 100000 in
theorem c_X9_canBe_41 (l : Launch) (D : va_G) (cI cZ cJ : ClassId) (o : Nat) (q : Nat → Nat) (x2 : Int32) (x3 : Int32) (x4 : Int32) (lo_x2 : 0 ≤ x2) (hi_x2 : x2 ≤ 9) (ne_x3_0 : ¬ x3 = 0) : Met l yX9_canBe (uW yX9_canBe cX9_canBe 5 (some .boolean)) ({ frames := 1, cells := 0, slots := 0, locals := 22 }) (va_Pc [.ref o, .int 17, .int x2, .int x3, .int x4] (pS D (tyL cI cZ cJ) (mW o 0 q cI cZ))) (QcRead (0)) 0 0 (fun _ => False) := by
  refine rdStart (lv := [(0, .ref o), (1, .int 17), (2, .int x2), (3, .int x3), (4, .int x4)]) (by decide) (Nat.le_of_ble_eq_true rfl) rfl ?_
  intro p e s m args below meth c ls S hr hlocks hl hP hK
  have hx := S.1
  have hb := S.2.1
  refine lv_iload_n hx hb dX9_canBe_0 rfl (lv_at hl 1 rfl) ?_
  refine lv_tableIn (off := 443) (tgt := 444) hx hb dX9_canBe_1 (by decide) (by decide) (by decide) (by decide) ?_
  refine lv_iload_n hx hb dX9_canBe_444 rfl (lv_at hl 2 rfl) ?_
  refine lv_iconst (v := 0) hx hb dX9_canBe_445 (by decide) ?_
  refine lv_bipush (v := 9) hx hb dX9_canBe_446 (by decide) ?_
  refine rdS (As := [.int x2, .int 0, .int 9]) S (c_X9_isIn_58 l D cI cZ cJ o q x2 lo_x2 hi_x2) ms_X9_isIn kw_7_101 ⟨rfl, rfl⟩ ⟨Nat.le_of_ble_eq_true rfl, Nat.le_of_ble_eq_true rfl⟩ hP hK hl.1 (Nat.le_of_ble_eq_true rfl) ⟨Nat.le_of_ble_eq_true rfl, Nat.le_of_ble_eq_true rfl⟩ dX9_canBe_448 ?_
  refine lv_if_eq (tgt := 467) hx hb dX9_canBe_451 (by decide) (fun c => absurd c (by decide)) (fun _ => ?_)
  refine lv_iload_n hx hb dX9_canBe_454 rfl (lv_at hl 3 rfl) ?_
  refine lv_if_ne (tgt := 467) hx hb dX9_canBe_455 (by decide) (fun _ => ?_) (fun c => absurd c ne_x3_0)
  refine lv_iconst (v := 0) hx hb dX9_canBe_467 (by decide) ?_
  exact rdEndZ S hr hlocks dX9_canBe_468 rfl rfl

set_option maxHeartbeats 8000000 in
set_option maxRecDepth 100000 in
theorem c_X9_node_41 (l : Launch) (D : va_G) (cI cZ cJ : ClassId) (o : Nat) (q : Nat → Nat) (sz : Nat) (x2 : Int32) (x3 : Int32) (x4 : Int32) (lo_x2 : 0 ≤ x2) (hi_x2 : x2 ≤ 9) (ne_x3_0 : ¬ x3 = 0) : Met l yX9_node (uW yX9_node cX9_node 6 (some .int)) ({ frames := 2, cells := 0, slots := 0, locals := 46 }) (va_Pc [.ref o, .int 17, .int x2, .int x3, .int x4] (wS D (tyL cI cZ cJ) (mW o 0 q cI cZ) sz)) (wQi (0) D (mW o 1 q cI cZ) (va_A (mW o 0 q cI cZ) sz)) 0 0 (va_A (mW o 0 q cI cZ) sz) := by
  refine wStart (lv := [(0, .ref o), (1, .int 17), (2, .int x2), (3, .int x3), (4, .int x4)]) (Qc := fun A => wQi (0) D (mW o 1 q cI cZ) A) (by decide) (Nat.le_of_ble_eq_true rfl) rfl ?_
  intro p e s m args below meth c ls A H S hr hlocks hnm hl hK hP hD hS hA
  have hx := S.1
  have hb := S.2.1
  refine lv_aload_n hx hb dX9_node_0 rfl (lv_at hl 0 rfl) ?_
  refine lv_iconst (v := 0) hx hb dX9_node_1 (by decide) ?_
  refine xp (ci := 9) (v := .int 0) S inX9 tyX9 tyX9_ok nmX9 rfl hK hP hD hS mW_0 0 (by decide) kw_6_148 rfl rfl rfl rfl (Nat.le_of_ble_eq_true rfl) dX9_node_2 (fun H locs hP hD hS => ?_)
  have hP : va_P D vwCl (mW o 0 q cI cZ) H := hP
  have hD : va_D A (mW o 0 q cI cZ) := hD
  refine lv_iload_n hx hb dX9_node_5 rfl (lv_at hl 1 rfl) ?_
  refine lv_iconst (v := 0) hx hb dX9_node_6 (by decide) ?_
  refine lv_bipush (v := 21) hx hb dX9_node_7 (by decide) ?_
  refine rdS (As := [.int 17, .int 0, .int 21]) S (c_X9_isIn_59 l D cI cZ cJ o q) ms_X9_isIn kw_7_101 ⟨rfl, rfl⟩ ⟨Nat.le_of_ble_eq_true rfl, Nat.le_of_ble_eq_true rfl⟩ hP hK hl.1 (Nat.le_of_ble_eq_true rfl) ⟨Nat.le_of_ble_eq_true rfl, Nat.le_of_ble_eq_true rfl⟩ dX9_node_9 ?_
  refine lv_if_eq (tgt := 27) hx hb dX9_node_12 (by decide) (fun c => absurd c (by decide)) (fun _ => ?_)
  refine lv_aload_n hx hb dX9_node_15 rfl (lv_at hl 0 rfl) ?_
  refine lv_iload_n hx hb dX9_node_16 rfl (lv_at hl 1 rfl) ?_
  refine lv_iload_n hx hb dX9_node_17 rfl (lv_at hl 2 rfl) ?_
  refine lv_iload_n hx hb dX9_node_18 rfl (lv_at hl 3 rfl) ?_
  refine lv_iload hx hb dX9_node_19 (lv_at hl 4 rfl) ?_
  refine rdV (As := [.int 17, .int x2, .int x3, .int x4]) (ci := 9) S (c_X9_canBe_41 l D cI cZ cJ o q x2 x3 x4 lo_x2 hi_x2 ne_x3_0) mi_X9_canBe kw_7_155 ⟨rfl, rfl⟩ ⟨Nat.le_of_ble_eq_true rfl, Nat.le_of_ble_eq_true rfl⟩ hP hK mW_0 rfl rfl hl.1 (Nat.le_of_ble_eq_true rfl) ⟨Nat.le_of_ble_eq_true rfl, Nat.le_of_ble_eq_true rfl⟩ dX9_node_21 ?_
  refine lv_if_ne (tgt := 33) hx hb dX9_node_24 (by decide) (fun c => absurd c (by decide)) (fun _ => ?_)
  refine lv_aload_n hx hb dX9_node_27 rfl (lv_at hl 0 rfl) ?_
  refine lv_iconst (v := 1) hx hb dX9_node_28 (by decide) ?_
  refine wrV (As := [.int 1]) (ci := 9) S (c_X9_no_0 l D cI cZ cJ o q H.size) mi_X9_no kw_7_104 rfl rfl ⟨Nat.le_of_ble_eq_true rfl, Nat.le_of_ble_eq_true rfl⟩ hP hD hK hS hA mW_0 rfl rfl hl.1 (Nat.le_of_ble_eq_true rfl) ⟨Nat.le_of_ble_eq_true rfl, Nat.le_of_ble_eq_true rfl⟩ dX9_node_29 (fun H locs hz hP hD hS => ?_)
  exact wEnd S hr hlocks hP hD hS (Nat.le_of_ble_eq_true rfl) (Nat.le_of_ble_eq_true rfl) dX9_node_32 rfl

set_option maxHeartbeats 8000000 in
set_option maxRecDepth 100000 in
theorem h_node_42 (l : Launch) (D : va_G) (cI cZ cJ : ClassId) (o : Nat) (u : Nat → Nat) (ao : Nat) (hst : l.stackTraces = false) (ra ga : Nat → Nat) (sz : Nat) (x1 : Int32) (x2 : Int32) (x3 : Int32) (x4 : Int32) (ne_x1_0 : ¬ x1 = 0) (ne_x1_1 : ¬ x1 = 1) (ne_x1_2 : ¬ x1 = 2) (ne_x1_3 : ¬ x1 = 3) (ne_x1_4 : ¬ x1 = 4) (ne_x1_5 : ¬ x1 = 5) (ne_x1_6 : ¬ x1 = 6) (ne_x1_7 : ¬ x1 = 7) (ne_x1_8 : ¬ x1 = 8) (ne_x1_9 : ¬ x1 = 9) (ne_x1_10 : ¬ x1 = 10) (ne_x1_11 : ¬ x1 = 11) (ne_x1_12 : ¬ x1 = 12) (ne_x1_13 : ¬ x1 = 13) (ne_x1_14 : ¬ x1 = 14) (ne_x1_15 : ¬ x1 = 15) (ne_x1_16 : ¬ x1 = 16) (ne_x1_17 : ¬ x1 = 17) : vx_Met l yL_node (uWh yL_node cL_node 7 (some .int) [(0, 14, 17, 15), (0, 14, 21, 17)]) ({ frames := 8, cells := 1, slots := 6, locals := 126 }) (va_Pc [.ref o, .int x1, .int x2, .int x3, .int x4, .ref ao] (lS ra ga D (tyL cI cZ cJ) ((xW o u cI cZ cJ) ++ [(ao, .inl (cJ, 1, .inr (.inl (fun _ => 0))))]) sz)) (wQi (1) D ((xW o u cI cZ cJ) ++ [(ao, .inl (cJ, 1, .inr (.inl (fun _ => 0))))]) (va_A ((xW o u cI cZ cJ) ++ [(ao, .inl (cJ, 1, .inr (.inl (fun _ => 0))))]) sz)) (xN (va_A ((xW o u cI cZ cJ) ++ [(ao, .inl (cJ, 1, .inr (.inl (fun _ => 0))))]) sz)) 1 6 (va_A ((xW o u cI cZ cJ) ++ [(ao, .inl (cJ, 1, .inr (.inl (fun _ => 0))))]) sz) := by
  refine hStart (l := l) (y := yL_node) (b := cL_node) (n := 7) (r := (some .int)) (hh := [(0, 14, 17, 15), (0, 14, 21, 17)]) (rm := ({ frames := 8, cells := 1, slots := 6, locals := 126 })) (mc := 1) (ms := 6) (ra := ra) (ga := ga) (D := D) (tys := tyL cI cZ cJ) (ws := ((xW o u cI cZ cJ) ++ [(ao, .inl (cJ, 1, .inr (.inl (fun _ => 0))))])) (av := [.ref o, .int x1, .int x2, .int x3, .int x4, .ref ao]) (sz := sz) (lv := [(0, .ref o), (1, .int x1), (2, .int x2), (3, .int x3), (4, .int x4), (5, .ref ao)]) (Qc := fun A => wQi (1) D ((xW o u cI cZ cJ) ++ [(ao, .inl (cJ, 1, .inr (.inl (fun _ => 0))))]) A) (by decide) (Nat.le_of_ble_eq_true rfl) rfl ?_
  intro p e s m args below meth c ls A H S hr hlocks htab hl hK hP hD hS hA hB hC
  have hx := S.1
  have hb := S.2.1
  refine lv_aload hx hb dL_node_0 (lv_at hl 5 rfl) ?_
  refine lv_iconst (v := 0) hx hb dL_node_2 (by decide) ?_
  refine lv_aload_n hx hb dL_node_3 rfl (lv_at hl 0 rfl) ?_
  refine lv_iload_n hx hb dL_node_4 rfl (lv_at hl 1 rfl) ?_
  refine lv_iload_n hx hb dL_node_5 rfl (lv_at hl 2 rfl) ?_
  refine lv_iload_n hx hb dL_node_6 rfl (lv_at hl 3 rfl) ?_
  refine lv_iload hx hb dL_node_7 (lv_at hl 4 rfl) ?_
  refine cVi [] [(ao, .inl (cJ, 1, .inr (.inl (fun _ => 0))))] (As := [.int x1, .int x2, .int x3, .int x4]) (ci := 8) S (c_X8_node_42 l D cI cZ cJ o u hst ra ga H.size x1 x2 x3 x4 ne_x1_0 ne_x1_1 ne_x1_2 ne_x1_3 ne_x1_4 ne_x1_5 ne_x1_6 ne_x1_7 ne_x1_8 ne_x1_9 ne_x1_10 ne_x1_11 ne_x1_12 ne_x1_13 ne_x1_14 ne_x1_15 ne_x1_16 ne_x1_17) mi_X8_node kw_6_23 rfl rfl ⟨Nat.le_of_ble_eq_true rfl, Nat.le_of_ble_eq_true rfl⟩ hP hD hK hS hA hB xW_0 rfl rfl hl.1 (Nat.le_of_ble_eq_true rfl) ⟨Nat.le_of_ble_eq_true rfl, Nat.le_of_ble_eq_true rfl⟩ dL_node_9 (fun ce q9 H locs hz hP hD hS hce hcv hcl => ?_)
  refine vx_catch (name := "java/lang/IllegalArgumentException") S.2.2.2.1 [] (⟨0, 14, 17, 15⟩ : ExceptionTableEntry) [(⟨0, 14, 21, 17⟩ : ExceptionTableEntry)] (htab.trans rfl) (fun _ h => absurd h List.not_mem_nil) (by decide) (by decide) (S.2.2.2.2 _ kw_5_177) (va_Nw.use rfl hB.c1) hce hcv hcl ?_
  have hP : va_P D vwCl ((xW o u cI cZ cJ) ++ [(ao, .inl (cJ, 1, .inr (.inl (fun _ => 0))))]) H := hP
  have hD : va_D A ((xW o u cI cZ cJ) ++ [(ao, .inl (cJ, 1, .inr (.inl (fun _ => 0))))]) := hD
  refine lv_astore (lv' := [(6, .ref q9), (0, .ref o), (1, .int x1), (2, .int x2), (3, .int x3), (4, .int x4), (5, .ref ao)]) hx hb dL_node_17 hl (by decide) rfl (fun ls hl => ?_)
  refine lv_iconst (v := 1) hx hb dL_node_19 (by decide) ?_
  exact vx_ret (wEnd S hr hlocks hP hD hS (Nat.le_of_ble_eq_true rfl) (Nat.le_of_ble_eq_true rfl) dL_node_20 rfl)

set_option maxHeartbeats 8000000 in
set_option maxRecDepth 100000 in
theorem c_X9_isIn_60 (l : Launch) (D : va_G) (cI cZ cJ : ClassId) (o : Nat) (q : Nat → Nat) (x1 : Int32) (hi_x1 : x1 ≤ (-1)) (ne_x1_0 : ¬ x1 = 0) (ne_x1_1 : ¬ x1 = 1) (ne_x1_2 : ¬ x1 = 2) (ne_x1_3 : ¬ x1 = 3) (ne_x1_4 : ¬ x1 = 4) (ne_x1_5 : ¬ x1 = 5) (ne_x1_6 : ¬ x1 = 6) (ne_x1_7 : ¬ x1 = 7) (ne_x1_8 : ¬ x1 = 8) (ne_x1_9 : ¬ x1 = 9) (ne_x1_10 : ¬ x1 = 10) (ne_x1_11 : ¬ x1 = 11) (ne_x1_12 : ¬ x1 = 12) (ne_x1_13 : ¬ x1 = 13) (ne_x1_14 : ¬ x1 = 14) (ne_x1_15 : ¬ x1 = 15) (ne_x1_16 : ¬ x1 = 16) (ne_x1_17 : ¬ x1 = 17) : Met l yX9_isIn (uW yX9_isIn cX9_isIn 3 (some .boolean)) ({ frames := 0, cells := 0, slots := 0, locals := 0 }) (va_Pc [.int x1, .int 0, .int 21] (pS D (tyL cI cZ cJ) (mW o 0 q cI cZ))) (QcRead (0)) 0 0 (fun _ => False) := by
  refine rdStart (lv := [(0, .int x1), (1, .int 0), (2, .int 21)]) (by decide) (Nat.le_of_ble_eq_true rfl) rfl ?_
  intro p e s m args below meth c ls S hr hlocks hl hP hK
  have hx := S.1
  have hb := S.2.1
  refine lv_iload_n hx hb dX9_isIn_0 rfl (lv_at hl 0 rfl) ?_
  refine lv_iload_n hx hb dX9_isIn_1 rfl (lv_at hl 1 rfl) ?_
  refine lv_icmp_lt (tgt := 14) hx hb dX9_isIn_2 (by decide) (fun _ => ?_) (fun c => absurd (b_lt hi_x1 (by decide)) c)
  refine lv_iconst (v := 0) hx hb dX9_isIn_14 (by decide) ?_
  exact rdEndZ S hr hlocks dX9_isIn_15 rfl rfl

set_option maxHeartbeats 8000000 in
set_option maxRecDepth 100000 in
theorem c_X9_isIn_61 (l : Launch) (D : va_G) (cI cZ cJ : ClassId) (o : Nat) (q : Nat → Nat) (x1 : Int32) (lo_x1 : 22 ≤ x1) (ne_x1_0 : ¬ x1 = 0) (ne_x1_1 : ¬ x1 = 1) (ne_x1_2 : ¬ x1 = 2) (ne_x1_3 : ¬ x1 = 3) (ne_x1_4 : ¬ x1 = 4) (ne_x1_5 : ¬ x1 = 5) (ne_x1_6 : ¬ x1 = 6) (ne_x1_7 : ¬ x1 = 7) (ne_x1_8 : ¬ x1 = 8) (ne_x1_9 : ¬ x1 = 9) (ne_x1_10 : ¬ x1 = 10) (ne_x1_11 : ¬ x1 = 11) (ne_x1_12 : ¬ x1 = 12) (ne_x1_13 : ¬ x1 = 13) (ne_x1_14 : ¬ x1 = 14) (ne_x1_15 : ¬ x1 = 15) (ne_x1_16 : ¬ x1 = 16) (ne_x1_17 : ¬ x1 = 17) : Met l yX9_isIn (uW yX9_isIn cX9_isIn 3 (some .boolean)) ({ frames := 0, cells := 0, slots := 0, locals := 0 }) (va_Pc [.int x1, .int 0, .int 21] (pS D (tyL cI cZ cJ) (mW o 0 q cI cZ))) (QcRead (0)) 0 0 (fun _ => False) := by
  refine rdStart (lv := [(0, .int x1), (1, .int 0), (2, .int 21)]) (by decide) (Nat.le_of_ble_eq_true rfl) rfl ?_
  intro p e s m args below meth c ls S hr hlocks hl hP hK
  have hx := S.1
  have hb := S.2.1
  refine lv_iload_n hx hb dX9_isIn_0 rfl (lv_at hl 0 rfl) ?_
  refine lv_iload_n hx hb dX9_isIn_1 rfl (lv_at hl 1 rfl) ?_
  refine lv_icmp_lt (tgt := 14) hx hb dX9_isIn_2 (by decide) (fun c => absurd c (b_nlt lo_x1 (by decide))) (fun _ => ?_)
  refine lv_iload_n hx hb dX9_isIn_5 rfl (lv_at hl 0 rfl) ?_
  refine lv_iload_n hx hb dX9_isIn_6 rfl (lv_at hl 2 rfl) ?_
  refine lv_icmp_gt (tgt := 14) hx hb dX9_isIn_7 (by decide) (fun _ => ?_) (fun c => absurd (b_gt lo_x1 (by decide)) c)
  refine lv_iconst (v := 0) hx hb dX9_isIn_14 (by decide) ?_
  exact rdEndZ S hr hlocks dX9_isIn_15 rfl rfl

set_option maxHeartbeats 8000000 in
set_option maxRecDepth 100000 in
theorem c_X9_isIn_62 (l : Launch) (D : va_G) (cI cZ cJ : ClassId) (o : Nat) (q : Nat → Nat) (x1 : Int32) (lo_x1 : 18 ≤ x1) (hi_x1 : x1 ≤ 21) (ne_x1_0 : ¬ x1 = 0) (ne_x1_1 : ¬ x1 = 1) (ne_x1_2 : ¬ x1 = 2) (ne_x1_3 : ¬ x1 = 3) (ne_x1_4 : ¬ x1 = 4) (ne_x1_5 : ¬ x1 = 5) (ne_x1_6 : ¬ x1 = 6) (ne_x1_7 : ¬ x1 = 7) (ne_x1_8 : ¬ x1 = 8) (ne_x1_9 : ¬ x1 = 9) (ne_x1_10 : ¬ x1 = 10) (ne_x1_11 : ¬ x1 = 11) (ne_x1_12 : ¬ x1 = 12) (ne_x1_13 : ¬ x1 = 13) (ne_x1_14 : ¬ x1 = 14) (ne_x1_15 : ¬ x1 = 15) (ne_x1_16 : ¬ x1 = 16) (ne_x1_17 : ¬ x1 = 17) : Met l yX9_isIn (uW yX9_isIn cX9_isIn 3 (some .boolean)) ({ frames := 0, cells := 0, slots := 0, locals := 0 }) (va_Pc [.int x1, .int 0, .int 21] (pS D (tyL cI cZ cJ) (mW o 0 q cI cZ))) (QcRead (1)) 0 0 (fun _ => False) := by
  refine rdStart (lv := [(0, .int x1), (1, .int 0), (2, .int 21)]) (by decide) (Nat.le_of_ble_eq_true rfl) rfl ?_
  intro p e s m args below meth c ls S hr hlocks hl hP hK
  have hx := S.1
  have hb := S.2.1
  refine lv_iload_n hx hb dX9_isIn_0 rfl (lv_at hl 0 rfl) ?_
  refine lv_iload_n hx hb dX9_isIn_1 rfl (lv_at hl 1 rfl) ?_
  refine lv_icmp_lt (tgt := 14) hx hb dX9_isIn_2 (by decide) (fun c => absurd c (b_nlt lo_x1 (by decide))) (fun _ => ?_)
  refine lv_iload_n hx hb dX9_isIn_5 rfl (lv_at hl 0 rfl) ?_
  refine lv_iload_n hx hb dX9_isIn_6 rfl (lv_at hl 2 rfl) ?_
  refine lv_icmp_gt (tgt := 14) hx hb dX9_isIn_7 (by decide) (fun c => absurd c (b_ngt hi_x1 (by decide))) (fun _ => ?_)
  refine lv_iconst (v := 1) hx hb dX9_isIn_10 (by decide) ?_
  refine lv_goto (tgt := 15) hx hb dX9_isIn_11 (by decide) ?_
  exact rdEndZ S hr hlocks dX9_isIn_15 rfl rfl

set_option maxHeartbeats 8000000 in
set_option maxRecDepth 100000 in
theorem c_X9_canBe_42 (l : Launch) (D : va_G) (cI cZ cJ : ClassId) (o : Nat) (q : Nat → Nat) (x2 : Int32) (x3 : Int32) (x4 : Int32) : Met l yX9_canBe (uW yX9_canBe cX9_canBe 5 (some .boolean)) ({ frames := 4, cells := 0, slots := 0, locals := 85 }) (va_Pc [.ref o, .int 18, .int x2, .int x3, .int x4] (pS D (tyL cI cZ cJ) (mW o 0 q cI cZ))) (QcRead (0)) 0 0 (fun _ => False) := by
  refine rdStart (lv := [(0, .ref o), (1, .int 18), (2, .int x2), (3, .int x3), (4, .int x4)]) (by decide) (Nat.le_of_ble_eq_true rfl) rfl ?_
  intro p e s m args below meth c ls S hr hlocks hl hP hK
  have hx := S.1
  have hb := S.2.1
  refine lv_iload_n hx hb dX9_canBe_0 rfl (lv_at hl 1 rfl) ?_
  refine lv_tableIn (off := 468) (tgt := 469) hx hb dX9_canBe_1 (by decide) (by decide) (by decide) (by decide) ?_
  refine lv_iload_n hx hb dX9_canBe_469 rfl (lv_at hl 2 rfl) ?_
  refine lv_if_ne (tgt := 490) hx hb dX9_canBe_470 (by decide) (fun c_470 => ?_) (fun c_470 => ?_)
  · have ne_x2_0 : ¬ x2 = 0 := c_470
    refine lv_iconst (v := 0) hx hb dX9_canBe_490 (by decide) ?_
    exact rdEndZ S hr hlocks dX9_canBe_491 rfl rfl
  · have e_x2 : x2 = 0 := c_470
    subst e_x2
    refine lv_aload_n hx hb dX9_canBe_473 rfl (lv_at hl 0 rfl) ?_
    refine lv_iload_n hx hb dX9_canBe_474 rfl (lv_at hl 3 rfl) ?_
    refine rdV (As := [.int x3]) (ci := 9) S (c_X9_isFreeExpression_0 l D cI cZ cJ o q x3) mi_X9_isFreeExpression kw_7_159 ⟨rfl, rfl⟩ ⟨Nat.le_of_ble_eq_true rfl, Nat.le_of_ble_eq_true rfl⟩ hP hK mW_0 rfl rfl hl.1 (Nat.le_of_ble_eq_true rfl) ⟨Nat.le_of_ble_eq_true rfl, Nat.le_of_ble_eq_true rfl⟩ dX9_canBe_475 ?_
    refine lv_if_eq (tgt := 490) hx hb dX9_canBe_478 (by decide) (fun _ => ?_) (fun c => absurd c (by decide))
    refine lv_iconst (v := 0) hx hb dX9_canBe_490 (by decide) ?_
    exact rdEndZ S hr hlocks dX9_canBe_491 rfl rfl

set_option maxHeartbeats 8000000 in
set_option maxRecDepth 100000 in
theorem c_X9_canBe_43 (l : Launch) (D : va_G) (cI cZ cJ : ClassId) (o : Nat) (q : Nat → Nat) (x2 : Int32) (x3 : Int32) (x4 : Int32) : Met l yX9_canBe (uW yX9_canBe cX9_canBe 5 (some .boolean)) ({ frames := 4, cells := 0, slots := 0, locals := 85 }) (va_Pc [.ref o, .int 19, .int x2, .int x3, .int x4] (pS D (tyL cI cZ cJ) (mW o 0 q cI cZ))) (QcRead (0)) 0 0 (fun _ => False) := by
  refine rdStart (lv := [(0, .ref o), (1, .int 19), (2, .int x2), (3, .int x3), (4, .int x4)]) (by decide) (Nat.le_of_ble_eq_true rfl) rfl ?_
  intro p e s m args below meth c ls S hr hlocks hl hP hK
  have hx := S.1
  have hb := S.2.1
  refine lv_iload_n hx hb dX9_canBe_0 rfl (lv_at hl 1 rfl) ?_
  refine lv_tableIn (off := 468) (tgt := 469) hx hb dX9_canBe_1 (by decide) (by decide) (by decide) (by decide) ?_
  refine lv_iload_n hx hb dX9_canBe_469 rfl (lv_at hl 2 rfl) ?_
  refine lv_if_ne (tgt := 490) hx hb dX9_canBe_470 (by decide) (fun c_470 => ?_) (fun c_470 => ?_)
  · have ne_x2_0 : ¬ x2 = 0 := c_470
    refine lv_iconst (v := 0) hx hb dX9_canBe_490 (by decide) ?_
    exact rdEndZ S hr hlocks dX9_canBe_491 rfl rfl
  · have e_x2 : x2 = 0 := c_470
    subst e_x2
    refine lv_aload_n hx hb dX9_canBe_473 rfl (lv_at hl 0 rfl) ?_
    refine lv_iload_n hx hb dX9_canBe_474 rfl (lv_at hl 3 rfl) ?_
    refine rdV (As := [.int x3]) (ci := 9) S (c_X9_isFreeExpression_0 l D cI cZ cJ o q x3) mi_X9_isFreeExpression kw_7_159 ⟨rfl, rfl⟩ ⟨Nat.le_of_ble_eq_true rfl, Nat.le_of_ble_eq_true rfl⟩ hP hK mW_0 rfl rfl hl.1 (Nat.le_of_ble_eq_true rfl) ⟨Nat.le_of_ble_eq_true rfl, Nat.le_of_ble_eq_true rfl⟩ dX9_canBe_475 ?_
    refine lv_if_eq (tgt := 490) hx hb dX9_canBe_478 (by decide) (fun _ => ?_) (fun c => absurd c (by decide))
    refine lv_iconst (v := 0) hx hb dX9_canBe_490 (by decide) ?_
    exact rdEndZ S hr hlocks dX9_canBe_491 rfl rfl

set_option maxHeartbeats 8000000 in
set_option maxRecDepth 100000 in
theorem c_X9_canBe_44 (l : Launch) (D : va_G) (cI cZ cJ : ClassId) (o : Nat) (q : Nat → Nat) (x2 : Int32) (x3 : Int32) (x4 : Int32) : Met l yX9_canBe (uW yX9_canBe cX9_canBe 5 (some .boolean)) ({ frames := 3, cells := 0, slots := 0, locals := 64 }) (va_Pc [.ref o, .int 20, .int x2, .int x3, .int x4] (pS D (tyL cI cZ cJ) (mW o 0 q cI cZ))) (QcRead (0)) 0 0 (fun _ => False) := by
  refine rdStart (lv := [(0, .ref o), (1, .int 20), (2, .int x2), (3, .int x3), (4, .int x4)]) (by decide) (Nat.le_of_ble_eq_true rfl) rfl ?_
  intro p e s m args below meth c ls S hr hlocks hl hP hK
  have hx := S.1
  have hb := S.2.1
  refine lv_iload_n hx hb dX9_canBe_0 rfl (lv_at hl 1 rfl) ?_
  refine lv_tableIn (off := 491) (tgt := 492) hx hb dX9_canBe_1 (by decide) (by decide) (by decide) (by decide) ?_
  refine lv_iload_n hx hb dX9_canBe_492 rfl (lv_at hl 2 rfl) ?_
  refine lv_if_ne (tgt := 524) hx hb dX9_canBe_493 (by decide) (fun c_493 => ?_) (fun c_493 => ?_)
  · have ne_x2_0 : ¬ x2 = 0 := c_493
    refine lv_iconst (v := 0) hx hb dX9_canBe_524 (by decide) ?_
    exact rdEndZ S hr hlocks dX9_canBe_525 rfl rfl
  · have e_x2 : x2 = 0 := c_493
    subst e_x2
    refine lv_aload_n hx hb dX9_canBe_496 rfl (lv_at hl 0 rfl) ?_
    refine lv_iload_n hx hb dX9_canBe_497 rfl (lv_at hl 3 rfl) ?_
    refine rdV (As := [.int x3]) (ci := 9) S (c_X9_isFree_0 l D cI cZ cJ o q x3) mi_X9_isFree kw_7_163 ⟨rfl, rfl⟩ ⟨Nat.le_of_ble_eq_true rfl, Nat.le_of_ble_eq_true rfl⟩ hP hK mW_0 rfl rfl hl.1 (Nat.le_of_ble_eq_true rfl) ⟨Nat.le_of_ble_eq_true rfl, Nat.le_of_ble_eq_true rfl⟩ dX9_canBe_498 ?_
    refine lv_if_eq (tgt := 524) hx hb dX9_canBe_501 (by decide) (fun _ => ?_) (fun c => absurd c (by decide))
    refine lv_iconst (v := 0) hx hb dX9_canBe_524 (by decide) ?_
    exact rdEndZ S hr hlocks dX9_canBe_525 rfl rfl

set_option maxHeartbeats 8000000 in
set_option maxRecDepth 100000 in
theorem c_X9_canBe_45 (l : Launch) (D : va_G) (cI cZ cJ : ClassId) (o : Nat) (q : Nat → Nat) (x2 : Int32) (x3 : Int32) (x4 : Int32) : Met l yX9_canBe (uW yX9_canBe cX9_canBe 5 (some .boolean)) ({ frames := 3, cells := 0, slots := 0, locals := 64 }) (va_Pc [.ref o, .int 21, .int x2, .int x3, .int x4] (pS D (tyL cI cZ cJ) (mW o 0 q cI cZ))) (QcRead (0)) 0 0 (fun _ => False) := by
  refine rdStart (lv := [(0, .ref o), (1, .int 21), (2, .int x2), (3, .int x3), (4, .int x4)]) (by decide) (Nat.le_of_ble_eq_true rfl) rfl ?_
  intro p e s m args below meth c ls S hr hlocks hl hP hK
  have hx := S.1
  have hb := S.2.1
  refine lv_iload_n hx hb dX9_canBe_0 rfl (lv_at hl 1 rfl) ?_
  refine lv_tableIn (off := 525) (tgt := 526) hx hb dX9_canBe_1 (by decide) (by decide) (by decide) (by decide) ?_
  refine lv_iload_n hx hb dX9_canBe_526 rfl (lv_at hl 2 rfl) ?_
  by_cases d_527 : x2 < 0
  · have hi_x2 : x2 ≤ (-1) := u_lt d_527 (by decide)
    refine rdS (As := [.int x2]) S (c_X9_isName_0 l D cI cZ cJ o q x2 hi_x2) ms_X9_isName kw_7_108 ⟨rfl, rfl⟩ ⟨Nat.le_of_ble_eq_true rfl, Nat.le_of_ble_eq_true rfl⟩ hP hK hl.1 (Nat.le_of_ble_eq_true rfl) ⟨Nat.le_of_ble_eq_true rfl, Nat.le_of_ble_eq_true rfl⟩ dX9_canBe_527 ?_
    refine lv_if_eq (tgt := 561) hx hb dX9_canBe_530 (by decide) (fun _ => ?_) (fun c => absurd c (by decide))
    refine lv_iconst (v := 0) hx hb dX9_canBe_561 (by decide) ?_
    exact rdEndZ S hr hlocks dX9_canBe_562 rfl rfl
  · have lo_x2 : 0 ≤ x2 := l_nlt d_527
    by_cases d_527 : 15 < x2
    · have lo_x2 : 16 ≤ x2 := l_gt d_527 (by decide)
      refine rdS (As := [.int x2]) S (c_X9_isName_1 l D cI cZ cJ o q x2 lo_x2) ms_X9_isName kw_7_108 ⟨rfl, rfl⟩ ⟨Nat.le_of_ble_eq_true rfl, Nat.le_of_ble_eq_true rfl⟩ hP hK hl.1 (Nat.le_of_ble_eq_true rfl) ⟨Nat.le_of_ble_eq_true rfl, Nat.le_of_ble_eq_true rfl⟩ dX9_canBe_527 ?_
      refine lv_if_eq (tgt := 561) hx hb dX9_canBe_530 (by decide) (fun _ => ?_) (fun c => absurd c (by decide))
      refine lv_iconst (v := 0) hx hb dX9_canBe_561 (by decide) ?_
      exact rdEndZ S hr hlocks dX9_canBe_562 rfl rfl
    · have hi_x2 : x2 ≤ 15 := u_ngt d_527
      refine rdS (As := [.int x2]) S (c_X9_isName_2 l D cI cZ cJ o q x2 lo_x2 hi_x2) ms_X9_isName kw_7_108 ⟨rfl, rfl⟩ ⟨Nat.le_of_ble_eq_true rfl, Nat.le_of_ble_eq_true rfl⟩ hP hK hl.1 (Nat.le_of_ble_eq_true rfl) ⟨Nat.le_of_ble_eq_true rfl, Nat.le_of_ble_eq_true rfl⟩ dX9_canBe_527 ?_
      refine lv_if_eq (tgt := 561) hx hb dX9_canBe_530 (by decide) (fun c => absurd c (by decide)) (fun _ => ?_)
      refine lv_aload_n hx hb dX9_canBe_533 rfl (lv_at hl 0 rfl) ?_
      refine lv_iload_n hx hb dX9_canBe_534 rfl (lv_at hl 3 rfl) ?_
      refine rdV (As := [.int x3]) (ci := 9) S (c_X9_isFree_0 l D cI cZ cJ o q x3) mi_X9_isFree kw_7_163 ⟨rfl, rfl⟩ ⟨Nat.le_of_ble_eq_true rfl, Nat.le_of_ble_eq_true rfl⟩ hP hK mW_0 rfl rfl hl.1 (Nat.le_of_ble_eq_true rfl) ⟨Nat.le_of_ble_eq_true rfl, Nat.le_of_ble_eq_true rfl⟩ dX9_canBe_535 ?_
      refine lv_if_eq (tgt := 561) hx hb dX9_canBe_538 (by decide) (fun _ => ?_) (fun c => absurd c (by decide))
      refine lv_iconst (v := 0) hx hb dX9_canBe_561 (by decide) ?_
      exact rdEndZ S hr hlocks dX9_canBe_562 rfl rfl

set_option maxHeartbeats 8000000 in
set_option maxRecDepth 100000 in
theorem c_X9_node_42 (l : Launch) (D : va_G) (cI cZ cJ : ClassId) (o : Nat) (q : Nat → Nat) (sz : Nat) (x1 : Int32) (x2 : Int32) (x3 : Int32) (x4 : Int32) (ne_x1_0 : ¬ x1 = 0) (ne_x1_1 : ¬ x1 = 1) (ne_x1_2 : ¬ x1 = 2) (ne_x1_3 : ¬ x1 = 3) (ne_x1_4 : ¬ x1 = 4) (ne_x1_5 : ¬ x1 = 5) (ne_x1_6 : ¬ x1 = 6) (ne_x1_7 : ¬ x1 = 7) (ne_x1_8 : ¬ x1 = 8) (ne_x1_9 : ¬ x1 = 9) (ne_x1_10 : ¬ x1 = 10) (ne_x1_11 : ¬ x1 = 11) (ne_x1_12 : ¬ x1 = 12) (ne_x1_13 : ¬ x1 = 13) (ne_x1_14 : ¬ x1 = 14) (ne_x1_15 : ¬ x1 = 15) (ne_x1_16 : ¬ x1 = 16) (ne_x1_17 : ¬ x1 = 17) : Met l yX9_node (uW yX9_node cX9_node 6 (some .int)) ({ frames := 5, cells := 0, slots := 0, locals := 109 }) (va_Pc [.ref o, .int x1, .int x2, .int x3, .int x4] (wS D (tyL cI cZ cJ) (mW o 0 q cI cZ) sz)) (wQi (0) D (mW o 1 q cI cZ) (va_A (mW o 0 q cI cZ) sz)) 0 0 (va_A (mW o 0 q cI cZ) sz) := by
  refine wStart (lv := [(0, .ref o), (1, .int x1), (2, .int x2), (3, .int x3), (4, .int x4)]) (Qc := fun A => wQi (0) D (mW o 1 q cI cZ) A) (by decide) (Nat.le_of_ble_eq_true rfl) rfl ?_
  intro p e s m args below meth c ls A H S hr hlocks hnm hl hK hP hD hS hA
  have hx := S.1
  have hb := S.2.1
  refine lv_aload_n hx hb dX9_node_0 rfl (lv_at hl 0 rfl) ?_
  refine lv_iconst (v := 0) hx hb dX9_node_1 (by decide) ?_
  refine xp (ci := 9) (v := .int 0) S inX9 tyX9 tyX9_ok nmX9 rfl hK hP hD hS mW_0 0 (by decide) kw_6_148 rfl rfl rfl rfl (Nat.le_of_ble_eq_true rfl) dX9_node_2 (fun H locs hP hD hS => ?_)
  have hP : va_P D vwCl (mW o 0 q cI cZ) H := hP
  have hD : va_D A (mW o 0 q cI cZ) := hD
  refine lv_iload_n hx hb dX9_node_5 rfl (lv_at hl 1 rfl) ?_
  refine lv_iconst (v := 0) hx hb dX9_node_6 (by decide) ?_
  refine lv_bipush (v := 21) hx hb dX9_node_7 (by decide) ?_
  by_cases d_9 : x1 < 0
  · have hi_x1 : x1 ≤ (-1) := u_lt d_9 (by decide)
    refine rdS (As := [.int x1, .int 0, .int 21]) S (c_X9_isIn_60 l D cI cZ cJ o q x1 hi_x1 ne_x1_0 ne_x1_1 ne_x1_2 ne_x1_3 ne_x1_4 ne_x1_5 ne_x1_6 ne_x1_7 ne_x1_8 ne_x1_9 ne_x1_10 ne_x1_11 ne_x1_12 ne_x1_13 ne_x1_14 ne_x1_15 ne_x1_16 ne_x1_17) ms_X9_isIn kw_7_101 ⟨rfl, rfl⟩ ⟨Nat.le_of_ble_eq_true rfl, Nat.le_of_ble_eq_true rfl⟩ hP hK hl.1 (Nat.le_of_ble_eq_true rfl) ⟨Nat.le_of_ble_eq_true rfl, Nat.le_of_ble_eq_true rfl⟩ dX9_node_9 ?_
    refine lv_if_eq (tgt := 27) hx hb dX9_node_12 (by decide) (fun _ => ?_) (fun c => absurd c (by decide))
    refine lv_aload_n hx hb dX9_node_27 rfl (lv_at hl 0 rfl) ?_
    refine lv_iconst (v := 1) hx hb dX9_node_28 (by decide) ?_
    refine wrV (As := [.int 1]) (ci := 9) S (c_X9_no_0 l D cI cZ cJ o q H.size) mi_X9_no kw_7_104 rfl rfl ⟨Nat.le_of_ble_eq_true rfl, Nat.le_of_ble_eq_true rfl⟩ hP hD hK hS hA mW_0 rfl rfl hl.1 (Nat.le_of_ble_eq_true rfl) ⟨Nat.le_of_ble_eq_true rfl, Nat.le_of_ble_eq_true rfl⟩ dX9_node_29 (fun H locs hz hP hD hS => ?_)
    exact wEnd S hr hlocks hP hD hS (Nat.le_of_ble_eq_true rfl) (Nat.le_of_ble_eq_true rfl) dX9_node_32 rfl
  · have lo_x1 : 0 ≤ x1 := l_nlt d_9
    have lo_x1 : 1 ≤ x1 := l_ne ne_x1_0 lo_x1 (by decide)
    have lo_x1 : 2 ≤ x1 := l_ne ne_x1_1 lo_x1 (by decide)
    have lo_x1 : 3 ≤ x1 := l_ne ne_x1_2 lo_x1 (by decide)
    have lo_x1 : 4 ≤ x1 := l_ne ne_x1_3 lo_x1 (by decide)
    have lo_x1 : 5 ≤ x1 := l_ne ne_x1_4 lo_x1 (by decide)
    have lo_x1 : 6 ≤ x1 := l_ne ne_x1_5 lo_x1 (by decide)
    have lo_x1 : 7 ≤ x1 := l_ne ne_x1_6 lo_x1 (by decide)
    have lo_x1 : 8 ≤ x1 := l_ne ne_x1_7 lo_x1 (by decide)
    have lo_x1 : 9 ≤ x1 := l_ne ne_x1_8 lo_x1 (by decide)
    have lo_x1 : 10 ≤ x1 := l_ne ne_x1_9 lo_x1 (by decide)
    have lo_x1 : 11 ≤ x1 := l_ne ne_x1_10 lo_x1 (by decide)
    have lo_x1 : 12 ≤ x1 := l_ne ne_x1_11 lo_x1 (by decide)
    have lo_x1 : 13 ≤ x1 := l_ne ne_x1_12 lo_x1 (by decide)
    have lo_x1 : 14 ≤ x1 := l_ne ne_x1_13 lo_x1 (by decide)
    have lo_x1 : 15 ≤ x1 := l_ne ne_x1_14 lo_x1 (by decide)
    have lo_x1 : 16 ≤ x1 := l_ne ne_x1_15 lo_x1 (by decide)
    have lo_x1 : 17 ≤ x1 := l_ne ne_x1_16 lo_x1 (by decide)
    have lo_x1 : 18 ≤ x1 := l_ne ne_x1_17 lo_x1 (by decide)
    by_cases d_9 : 21 < x1
    · have lo_x1 : 22 ≤ x1 := l_gt d_9 (by decide)
      refine rdS (As := [.int x1, .int 0, .int 21]) S (c_X9_isIn_61 l D cI cZ cJ o q x1 lo_x1 ne_x1_0 ne_x1_1 ne_x1_2 ne_x1_3 ne_x1_4 ne_x1_5 ne_x1_6 ne_x1_7 ne_x1_8 ne_x1_9 ne_x1_10 ne_x1_11 ne_x1_12 ne_x1_13 ne_x1_14 ne_x1_15 ne_x1_16 ne_x1_17) ms_X9_isIn kw_7_101 ⟨rfl, rfl⟩ ⟨Nat.le_of_ble_eq_true rfl, Nat.le_of_ble_eq_true rfl⟩ hP hK hl.1 (Nat.le_of_ble_eq_true rfl) ⟨Nat.le_of_ble_eq_true rfl, Nat.le_of_ble_eq_true rfl⟩ dX9_node_9 ?_
      refine lv_if_eq (tgt := 27) hx hb dX9_node_12 (by decide) (fun _ => ?_) (fun c => absurd c (by decide))
      refine lv_aload_n hx hb dX9_node_27 rfl (lv_at hl 0 rfl) ?_
      refine lv_iconst (v := 1) hx hb dX9_node_28 (by decide) ?_
      refine wrV (As := [.int 1]) (ci := 9) S (c_X9_no_0 l D cI cZ cJ o q H.size) mi_X9_no kw_7_104 rfl rfl ⟨Nat.le_of_ble_eq_true rfl, Nat.le_of_ble_eq_true rfl⟩ hP hD hK hS hA mW_0 rfl rfl hl.1 (Nat.le_of_ble_eq_true rfl) ⟨Nat.le_of_ble_eq_true rfl, Nat.le_of_ble_eq_true rfl⟩ dX9_node_29 (fun H locs hz hP hD hS => ?_)
      exact wEnd S hr hlocks hP hD hS (Nat.le_of_ble_eq_true rfl) (Nat.le_of_ble_eq_true rfl) dX9_node_32 rfl
    · have hi_x1 : x1 ≤ 21 := u_ngt d_9
      refine rdS (As := [.int x1, .int 0, .int 21]) S (c_X9_isIn_62 l D cI cZ cJ o q x1 lo_x1 hi_x1 ne_x1_0 ne_x1_1 ne_x1_2 ne_x1_3 ne_x1_4 ne_x1_5 ne_x1_6 ne_x1_7 ne_x1_8 ne_x1_9 ne_x1_10 ne_x1_11 ne_x1_12 ne_x1_13 ne_x1_14 ne_x1_15 ne_x1_16 ne_x1_17) ms_X9_isIn kw_7_101 ⟨rfl, rfl⟩ ⟨Nat.le_of_ble_eq_true rfl, Nat.le_of_ble_eq_true rfl⟩ hP hK hl.1 (Nat.le_of_ble_eq_true rfl) ⟨Nat.le_of_ble_eq_true rfl, Nat.le_of_ble_eq_true rfl⟩ dX9_node_9 ?_
      refine lv_if_eq (tgt := 27) hx hb dX9_node_12 (by decide) (fun c => absurd c (by decide)) (fun _ => ?_)
      refine lv_aload_n hx hb dX9_node_15 rfl (lv_at hl 0 rfl) ?_
      refine lv_iload_n hx hb dX9_node_16 rfl (lv_at hl 1 rfl) ?_
      refine lv_iload_n hx hb dX9_node_17 rfl (lv_at hl 2 rfl) ?_
      refine lv_iload_n hx hb dX9_node_18 rfl (lv_at hl 3 rfl) ?_
      refine lv_iload hx hb dX9_node_19 (lv_at hl 4 rfl) ?_
      by_cases d_21 : x1 = 18
      · have e_x1 : x1 = 18 := d_21
        subst e_x1
        refine rdV (As := [.int 18, .int x2, .int x3, .int x4]) (ci := 9) S (c_X9_canBe_42 l D cI cZ cJ o q x2 x3 x4) mi_X9_canBe kw_7_155 ⟨rfl, rfl⟩ ⟨Nat.le_of_ble_eq_true rfl, Nat.le_of_ble_eq_true rfl⟩ hP hK mW_0 rfl rfl hl.1 (Nat.le_of_ble_eq_true rfl) ⟨Nat.le_of_ble_eq_true rfl, Nat.le_of_ble_eq_true rfl⟩ dX9_node_21 ?_
        refine lv_if_ne (tgt := 33) hx hb dX9_node_24 (by decide) (fun c => absurd c (by decide)) (fun _ => ?_)
        refine lv_aload_n hx hb dX9_node_27 rfl (lv_at hl 0 rfl) ?_
        refine lv_iconst (v := 1) hx hb dX9_node_28 (by decide) ?_
        refine wrV (As := [.int 1]) (ci := 9) S (c_X9_no_0 l D cI cZ cJ o q H.size) mi_X9_no kw_7_104 rfl rfl ⟨Nat.le_of_ble_eq_true rfl, Nat.le_of_ble_eq_true rfl⟩ hP hD hK hS hA mW_0 rfl rfl hl.1 (Nat.le_of_ble_eq_true rfl) ⟨Nat.le_of_ble_eq_true rfl, Nat.le_of_ble_eq_true rfl⟩ dX9_node_29 (fun H locs hz hP hD hS => ?_)
        exact wEnd S hr hlocks hP hD hS (Nat.le_of_ble_eq_true rfl) (Nat.le_of_ble_eq_true rfl) dX9_node_32 rfl
      · have ne_x1_18 : ¬ x1 = 18 := d_21
        have lo_x1 : 19 ≤ x1 := l_ne ne_x1_18 lo_x1 (by decide)
        by_cases d_21 : x1 = 19
        · have e_x1 : x1 = 19 := d_21
          subst e_x1
          refine rdV (As := [.int 19, .int x2, .int x3, .int x4]) (ci := 9) S (c_X9_canBe_43 l D cI cZ cJ o q x2 x3 x4) mi_X9_canBe kw_7_155 ⟨rfl, rfl⟩ ⟨Nat.le_of_ble_eq_true rfl, Nat.le_of_ble_eq_true rfl⟩ hP hK mW_0 rfl rfl hl.1 (Nat.le_of_ble_eq_true rfl) ⟨Nat.le_of_ble_eq_true rfl, Nat.le_of_ble_eq_true rfl⟩ dX9_node_21 ?_
          refine lv_if_ne (tgt := 33) hx hb dX9_node_24 (by decide) (fun c => absurd c (by decide)) (fun _ => ?_)
          refine lv_aload_n hx hb dX9_node_27 rfl (lv_at hl 0 rfl) ?_
          refine lv_iconst (v := 1) hx hb dX9_node_28 (by decide) ?_
          refine wrV (As := [.int 1]) (ci := 9) S (c_X9_no_0 l D cI cZ cJ o q H.size) mi_X9_no kw_7_104 rfl rfl ⟨Nat.le_of_ble_eq_true rfl, Nat.le_of_ble_eq_true rfl⟩ hP hD hK hS hA mW_0 rfl rfl hl.1 (Nat.le_of_ble_eq_true rfl) ⟨Nat.le_of_ble_eq_true rfl, Nat.le_of_ble_eq_true rfl⟩ dX9_node_29 (fun H locs hz hP hD hS => ?_)
          exact wEnd S hr hlocks hP hD hS (Nat.le_of_ble_eq_true rfl) (Nat.le_of_ble_eq_true rfl) dX9_node_32 rfl
        · have ne_x1_19 : ¬ x1 = 19 := d_21
          have lo_x1 : 20 ≤ x1 := l_ne ne_x1_19 lo_x1 (by decide)
          by_cases d_21 : x1 = 20
          · have e_x1 : x1 = 20 := d_21
            subst e_x1
            refine rdV (As := [.int 20, .int x2, .int x3, .int x4]) (ci := 9) S (c_X9_canBe_44 l D cI cZ cJ o q x2 x3 x4) mi_X9_canBe kw_7_155 ⟨rfl, rfl⟩ ⟨Nat.le_of_ble_eq_true rfl, Nat.le_of_ble_eq_true rfl⟩ hP hK mW_0 rfl rfl hl.1 (Nat.le_of_ble_eq_true rfl) ⟨Nat.le_of_ble_eq_true rfl, Nat.le_of_ble_eq_true rfl⟩ dX9_node_21 ?_
            refine lv_if_ne (tgt := 33) hx hb dX9_node_24 (by decide) (fun c => absurd c (by decide)) (fun _ => ?_)
            refine lv_aload_n hx hb dX9_node_27 rfl (lv_at hl 0 rfl) ?_
            refine lv_iconst (v := 1) hx hb dX9_node_28 (by decide) ?_
            refine wrV (As := [.int 1]) (ci := 9) S (c_X9_no_0 l D cI cZ cJ o q H.size) mi_X9_no kw_7_104 rfl rfl ⟨Nat.le_of_ble_eq_true rfl, Nat.le_of_ble_eq_true rfl⟩ hP hD hK hS hA mW_0 rfl rfl hl.1 (Nat.le_of_ble_eq_true rfl) ⟨Nat.le_of_ble_eq_true rfl, Nat.le_of_ble_eq_true rfl⟩ dX9_node_29 (fun H locs hz hP hD hS => ?_)
            exact wEnd S hr hlocks hP hD hS (Nat.le_of_ble_eq_true rfl) (Nat.le_of_ble_eq_true rfl) dX9_node_32 rfl
          · have ne_x1_20 : ¬ x1 = 20 := d_21
            have lo_x1 : 21 ≤ x1 := l_ne ne_x1_20 lo_x1 (by decide)
            have e_x1 : x1 = 21 := b_eq lo_x1 hi_x1
            subst e_x1
            refine rdV (As := [.int 21, .int x2, .int x3, .int x4]) (ci := 9) S (c_X9_canBe_45 l D cI cZ cJ o q x2 x3 x4) mi_X9_canBe kw_7_155 ⟨rfl, rfl⟩ ⟨Nat.le_of_ble_eq_true rfl, Nat.le_of_ble_eq_true rfl⟩ hP hK mW_0 rfl rfl hl.1 (Nat.le_of_ble_eq_true rfl) ⟨Nat.le_of_ble_eq_true rfl, Nat.le_of_ble_eq_true rfl⟩ dX9_node_21 ?_
            refine lv_if_ne (tgt := 33) hx hb dX9_node_24 (by decide) (fun c => absurd c (by decide)) (fun _ => ?_)
            refine lv_aload_n hx hb dX9_node_27 rfl (lv_at hl 0 rfl) ?_
            refine lv_iconst (v := 1) hx hb dX9_node_28 (by decide) ?_
            refine wrV (As := [.int 1]) (ci := 9) S (c_X9_no_0 l D cI cZ cJ o q H.size) mi_X9_no kw_7_104 rfl rfl ⟨Nat.le_of_ble_eq_true rfl, Nat.le_of_ble_eq_true rfl⟩ hP hD hK hS hA mW_0 rfl rfl hl.1 (Nat.le_of_ble_eq_true rfl) ⟨Nat.le_of_ble_eq_true rfl, Nat.le_of_ble_eq_true rfl⟩ dX9_node_29 (fun H locs hz hP hD hS => ?_)
            exact wEnd S hr hlocks hP hD hS (Nat.le_of_ble_eq_true rfl) (Nat.le_of_ble_eq_true rfl) dX9_node_32 rfl

set_option maxHeartbeats 8000000 in
set_option maxRecDepth 100000 in
theorem c_X5_has_3 (l : Launch) (D : va_G) (cI cZ cJ : ClassId) (o : Nat) (u : Nat → Nat) (x2 : Int32) : Met l yX5_has (uW yX5_has cX5_has 2 (some .boolean)) ({ frames := 0, cells := 0, slots := 0, locals := 0 }) (va_Pc [.ref (u 12), .int x2] (pS D (tyL cI cZ cJ) (xW o u cI cZ cJ))) (QcRead (0)) 0 0 (fun _ => False) := by
  refine rdStart (lv := [(0, .ref (u 12)), (1, .int x2)]) (by decide) (Nat.le_of_ble_eq_true rfl) rfl ?_
  intro p e s m args below meth c ls S hr hlocks hl hP hK
  have hx := S.1
  have hb := S.2.1
  refine lv_iload_n hx hb dX5_has_0 rfl (lv_at hl 1 rfl) ?_
  refine lv_if_lt (tgt := 16) hx hb dX5_has_1 (by decide) (fun c_1 => ?_) (fun c_1 => ?_)
  · have hi_x2 : x2 ≤ (-1) := u_lt c_1 (by decide)
    refine lv_iconst (v := 0) hx hb dX5_has_16 (by decide) ?_
    exact rdEndZ S hr hlocks dX5_has_17 rfl rfl
  · have lo_x2 : 0 ≤ x2 := l_nlt c_1
    refine lv_iload_n hx hb dX5_has_4 rfl (lv_at hl 1 rfl) ?_
    refine lv_aload_n hx hb dX5_has_5 rfl (lv_at hl 0 rfl) ?_
    refine xg (ci := 5) S inX5 rfl hK hP xW_13 0 (by decide) rfl kw_1_107 rfl dX5_has_6 ?_
    refine lv_icmp_ge (tgt := 16) hx hb dX5_has_9 (by decide) (fun _ => ?_) (fun c => absurd (b_ge lo_x2 (by decide)) c)
    refine lv_iconst (v := 0) hx hb dX5_has_16 (by decide) ?_
    exact rdEndZ S hr hlocks dX5_has_17 rfl rfl

set_option maxHeartbeats 8000000 in
set_option maxRecDepth 100000 in
theorem c_X8_needNode_0 (l : Launch) (D : va_G) (cI cZ cJ : ClassId) (o : Nat) (u : Nat → Nat) (hst : l.stackTraces = false) (ra ga : Nat → Nat) (sz : Nat) (x2 : Int32) : vx_Met l yX8_needNode (uW yX8_needNode cX8_needNode 2 none) ({ frames := 6, cells := 1, slots := 6, locals := 82 }) (va_Pc [.ref o, .int x2] (aS ra ga D (tyL cI cZ cJ) (xW o u cI cZ cJ) sz)) (nQv (va_A (xW o u cI cZ cJ) sz)) (wX "java/lang/IndexOutOfBoundsException" D (xW o u cI cZ cJ) (va_A (xW o u cI cZ cJ) sz)) 1 6 (va_A (xW o u cI cZ cJ) sz) := by
  refine xStart (lv := [(0, .ref o), (1, .int x2)]) (Qc := fun A => nQv A) (XC := fun A => wX "java/lang/IndexOutOfBoundsException" D (xW o u cI cZ cJ) A) (by decide) (Nat.le_of_ble_eq_true rfl) rfl ?_
  intro p e s m args below meth c ls A H S hr hlocks hnm hl hK hP hD hS hA hB hnt
  have hx := S.1
  have hb := S.2.1
  refine lv_aload_n hx hb dX8_needNode_0 rfl (lv_at hl 0 rfl) ?_
  refine xg (ci := 8) S inX8 rfl hK hP xW_0 1 (by decide) rfl kw_3_21 rfl dX8_needNode_1 ?_
  refine lv_iload_n hx hb dX8_needNode_4 rfl (lv_at hl 1 rfl) ?_
  refine rdV (As := [.int x2]) (ci := 5) S (c_X5_has_3 l D cI cZ cJ o u x2) mi_X5_has kw_4_222 ⟨rfl, rfl⟩ ⟨Nat.le_of_ble_eq_true rfl, Nat.le_of_ble_eq_true rfl⟩ hP hK xW_13 rfl rfl hl.1 (Nat.le_of_ble_eq_true rfl) ⟨Nat.le_of_ble_eq_true rfl, Nat.le_of_ble_eq_true rfl⟩ dX8_needNode_5 ?_
  refine lv_if_ne (tgt := 22) hx hb dX8_needNode_8 (by decide) (fun c => absurd c (by decide)) (fun _ => ?_)
  exact vx_throwSW (names := ["java/lang/RuntimeException", "java/lang/Exception"]) hx hb hst S.2.2.2.1 rfl (by decide) (S.2.2.2.2 _ kw_4_174) (S.2.2.2.2 _ kw_1_15) hB.k3 (vx_hat (fun w h => S.2.2.2.2 _ (atS_0 w h)) atB_0 (vx_c (va_Nw.use rfl hB.c0) (vx_c (va_Nw.use rfl hB.d0) (vx_c (va_Nw.use rfl hB.d1) (vx_c (va_Nw.use rfl hB.d2) vx_n))))) atO_0 hB.xU hB.xN hS (hl.1.trans S.2.2.1.symm) dX8_needNode_11 dX8_needNode_14 dX8_needNode_15 dX8_needNode_18 dX8_needNode_21 (fun x hx => (hnt x hx).elim) (Nat.le_of_ble_eq_true rfl) (Nat.le_of_ble_eq_true rfl) (Nat.le_of_ble_eq_true rfl) (Nat.le_of_ble_eq_true rfl) hlocks (fun t _ hz hq => xThrown hP hD hS hz hq) hS.2.2 (Nat.le_of_ble_eq_true rfl) (Nat.le_of_ble_eq_true rfl)

set_option maxHeartbeats 8000000 in
set_option maxRecDepth 100000 in
theorem c_X8_body_0 (l : Launch) (D : va_G) (cI cZ cJ : ClassId) (o : Nat) (u : Nat → Nat) (hst : l.stackTraces = false) (ra ga : Nat → Nat) (sz : Nat) (x1 : Int32) (x2 : Int32) : vx_Met l yX8_body (uW yX8_body cX8_body 4 (some .int)) ({ frames := 7, cells := 1, slots := 6, locals := 103 }) (va_Pc [.ref o, .int x1, .int x2] (aS ra ga D (tyL cI cZ cJ) (xW o u cI cZ cJ) sz)) (nQi (va_A (xW o u cI cZ cJ) sz)) (wX "java/lang/IndexOutOfBoundsException" D (xW o u cI cZ cJ) (va_A (xW o u cI cZ cJ) sz)) 1 6 (va_A (xW o u cI cZ cJ) sz) := by
  refine xStart (lv := [(0, .ref o), (1, .int x1), (2, .int x2)]) (Qc := fun A => nQi A) (XC := fun A => wX "java/lang/IndexOutOfBoundsException" D (xW o u cI cZ cJ) A) (by decide) (Nat.le_of_ble_eq_true rfl) rfl ?_
  intro p e s m args below meth c ls A H S hr hlocks hnm hl hK hP hD hS hA hB hnt
  have hx := S.1
  have hb := S.2.1
  refine lv_aload_n hx hb dX8_body_0 rfl (lv_at hl 0 rfl) ?_
  refine lv_iload_n hx hb dX8_body_1 rfl (lv_at hl 1 rfl) ?_
  by_cases d_2 : x1 < 0
  · have hi_x1 : x1 ≤ (-1) := u_lt d_2 (by decide)
    exact tVv (As := [.int x1]) (ci := 8) S (c_X8_needProcedure_0 l D cI cZ cJ o u hst ra ga H.size x1 hi_x1) mi_X8_needProcedure kw_4_166 rfl rfl ⟨Nat.le_of_ble_eq_true rfl, Nat.le_of_ble_eq_true rfl⟩ hP hD hK hS hA hB xW_0 rfl rfl hl.1 (Nat.le_of_ble_eq_true rfl) ⟨Nat.le_of_ble_eq_true rfl, Nat.le_of_ble_eq_true rfl⟩ dX8_body_2 hnt hlocks (Nat.le_of_ble_eq_true rfl) (Nat.le_of_ble_eq_true rfl)
  · have lo_x1 : 0 ≤ x1 := l_nlt d_2
    by_cases d_2 : 1 ≤ x1
    · have lo_x1 : 1 ≤ x1 := d_2
      exact tVv (As := [.int x1]) (ci := 8) S (c_X8_needProcedure_1 l D cI cZ cJ o u hst ra ga H.size x1 lo_x1) mi_X8_needProcedure kw_4_166 rfl rfl ⟨Nat.le_of_ble_eq_true rfl, Nat.le_of_ble_eq_true rfl⟩ hP hD hK hS hA hB xW_0 rfl rfl hl.1 (Nat.le_of_ble_eq_true rfl) ⟨Nat.le_of_ble_eq_true rfl, Nat.le_of_ble_eq_true rfl⟩ dX8_body_2 hnt hlocks (Nat.le_of_ble_eq_true rfl) (Nat.le_of_ble_eq_true rfl)
    · have hi_x1 : x1 ≤ 0 := u_nge d_2 (by decide)
      have e_x1 : x1 = 0 := b_eq lo_x1 hi_x1
      subst e_x1
      refine aVv (As := [.int 0]) (ci := 8) S (c_X8_needProcedure_2 l D cI cZ cJ o u ra ga H.size) mi_X8_needProcedure kw_4_166 rfl rfl ⟨Nat.le_of_ble_eq_true rfl, Nat.le_of_ble_eq_true rfl⟩ hP hD hK hS hA hB xW_0 rfl rfl hl.1 (Nat.le_of_ble_eq_true rfl) ⟨Nat.le_of_ble_eq_true rfl, Nat.le_of_ble_eq_true rfl⟩ dX8_body_2 (fun H locs hz hP hD hS => ?_)
      refine lv_aload_n hx hb dX8_body_5 rfl (lv_at hl 0 rfl) ?_
      refine lv_iload_n hx hb dX8_body_6 rfl (lv_at hl 2 rfl) ?_
      exact tVv (As := [.int x2]) (ci := 8) S (c_X8_needNode_0 l D cI cZ cJ o u hst ra ga H.size x2) mi_X8_needNode kw_4_218 rfl rfl ⟨Nat.le_of_ble_eq_true rfl, Nat.le_of_ble_eq_true rfl⟩ hP hD hK hS hA hB xW_0 rfl rfl hl.1 (Nat.le_of_ble_eq_true rfl) ⟨Nat.le_of_ble_eq_true rfl, Nat.le_of_ble_eq_true rfl⟩ dX8_body_7 hnt hlocks (Nat.le_of_ble_eq_true rfl) (Nat.le_of_ble_eq_true rfl)

set_option maxHeartbeats 8000000 in
set_option maxRecDepth 100000 in
theorem h_body_0 (l : Launch) (D : va_G) (cI cZ cJ : ClassId) (o : Nat) (u : Nat → Nat) (ao : Nat) (hst : l.stackTraces = false) (ra ga : Nat → Nat) (sz : Nat) (x1 : Int32) (x2 : Int32) : vx_Met l yL_body (uWh yL_body cL_body 5 (some .int) [(0, 10, 13, 13), (0, 10, 17, 15), (0, 10, 21, 17)]) ({ frames := 8, cells := 1, slots := 6, locals := 126 }) (va_Pc [.ref o, .int x1, .int x2, .ref ao] (lS ra ga D (tyL cI cZ cJ) ((xW o u cI cZ cJ) ++ [(ao, .inl (cJ, 1, .inr (.inl (fun _ => 0))))]) sz)) (wQi (1) D ((xW o u cI cZ cJ) ++ [(ao, .inl (cJ, 1, .inr (.inl (fun _ => 0))))]) (va_A ((xW o u cI cZ cJ) ++ [(ao, .inl (cJ, 1, .inr (.inl (fun _ => 0))))]) sz)) (xN (va_A ((xW o u cI cZ cJ) ++ [(ao, .inl (cJ, 1, .inr (.inl (fun _ => 0))))]) sz)) 1 6 (va_A ((xW o u cI cZ cJ) ++ [(ao, .inl (cJ, 1, .inr (.inl (fun _ => 0))))]) sz) := by
  refine hStart (l := l) (y := yL_body) (b := cL_body) (n := 5) (r := (some .int)) (hh := [(0, 10, 13, 13), (0, 10, 17, 15), (0, 10, 21, 17)]) (rm := ({ frames := 8, cells := 1, slots := 6, locals := 126 })) (mc := 1) (ms := 6) (ra := ra) (ga := ga) (D := D) (tys := tyL cI cZ cJ) (ws := ((xW o u cI cZ cJ) ++ [(ao, .inl (cJ, 1, .inr (.inl (fun _ => 0))))])) (av := [.ref o, .int x1, .int x2, .ref ao]) (sz := sz) (lv := [(0, .ref o), (1, .int x1), (2, .int x2), (3, .ref ao)]) (Qc := fun A => wQi (1) D ((xW o u cI cZ cJ) ++ [(ao, .inl (cJ, 1, .inr (.inl (fun _ => 0))))]) A) (by decide) (Nat.le_of_ble_eq_true rfl) rfl ?_
  intro p e s m args below meth c ls A H S hr hlocks htab hl hK hP hD hS hA hB hC
  have hx := S.1
  have hb := S.2.1
  refine lv_aload_n hx hb dL_body_0 rfl (lv_at hl 3 rfl) ?_
  refine lv_iconst (v := 0) hx hb dL_body_1 (by decide) ?_
  refine lv_aload_n hx hb dL_body_2 rfl (lv_at hl 0 rfl) ?_
  refine lv_iload_n hx hb dL_body_3 rfl (lv_at hl 1 rfl) ?_
  refine lv_iload_n hx hb dL_body_4 rfl (lv_at hl 2 rfl) ?_
  refine cVi [] [(ao, .inl (cJ, 1, .inr (.inl (fun _ => 0))))] (As := [.int x1, .int x2]) (ci := 8) S (c_X8_body_0 l D cI cZ cJ o u hst ra ga H.size x1 x2) mi_X8_body kw_6_67 rfl rfl ⟨Nat.le_of_ble_eq_true rfl, Nat.le_of_ble_eq_true rfl⟩ hP hD hK hS hA hB xW_0 rfl rfl hl.1 (Nat.le_of_ble_eq_true rfl) ⟨Nat.le_of_ble_eq_true rfl, Nat.le_of_ble_eq_true rfl⟩ dL_body_5 (fun ce q9 H locs hz hP hD hS hce hcv hcl => ?_)
  refine vx_catch (name := "java/lang/IndexOutOfBoundsException") S.2.2.2.1 [] (⟨0, 10, 13, 13⟩ : ExceptionTableEntry) [(⟨0, 10, 17, 15⟩ : ExceptionTableEntry), (⟨0, 10, 21, 17⟩ : ExceptionTableEntry)] (htab.trans rfl) (fun _ h => absurd h List.not_mem_nil) (by decide) (by decide) (S.2.2.2.2 _ kw_5_176) (va_Nw.use rfl hB.c0) hce hcv hcl ?_
  have hP : va_P D vwCl ((xW o u cI cZ cJ) ++ [(ao, .inl (cJ, 1, .inr (.inl (fun _ => 0))))]) H := hP
  have hD : va_D A ((xW o u cI cZ cJ) ++ [(ao, .inl (cJ, 1, .inr (.inl (fun _ => 0))))]) := hD
  refine lv_astore (lv' := [(4, .ref q9), (0, .ref o), (1, .int x1), (2, .int x2), (3, .ref ao)]) hx hb dL_body_13 hl (by decide) rfl (fun ls hl => ?_)
  refine lv_iconst (v := 1) hx hb dL_body_15 (by decide) ?_
  exact vx_ret (wEnd S hr hlocks hP hD hS (Nat.le_of_ble_eq_true rfl) (Nat.le_of_ble_eq_true rfl) dL_body_16 rfl)

set_option maxHeartbeats 8000000 in
set_option maxRecDepth 100000 in
theorem c_X9_isIn_63 (l : Launch) (D : va_G) (cI cZ cJ : ClassId) (o : Nat) (q : Nat → Nat) (x2 : Int32) : Met l yX9_isIn (uW yX9_isIn cX9_isIn 3 (some .boolean)) ({ frames := 0, cells := 0, slots := 0, locals := 0 }) (va_Pc [.int x2, .int 0, .int (-1)] (pS D (tyL cI cZ cJ) (mW o 0 q cI cZ))) (QcRead (0)) 0 0 (fun _ => False) := by
  refine rdStart (lv := [(0, .int x2), (1, .int 0), (2, .int (-1))]) (by decide) (Nat.le_of_ble_eq_true rfl) rfl ?_
  intro p e s m args below meth c ls S hr hlocks hl hP hK
  have hx := S.1
  have hb := S.2.1
  refine lv_iload_n hx hb dX9_isIn_0 rfl (lv_at hl 0 rfl) ?_
  refine lv_iload_n hx hb dX9_isIn_1 rfl (lv_at hl 1 rfl) ?_
  refine lv_icmp_lt (tgt := 14) hx hb dX9_isIn_2 (by decide) (fun c_2 => ?_) (fun c_2 => ?_)
  · have hi_x2 : x2 ≤ (-1) := u_lt c_2 (by decide)
    refine lv_iconst (v := 0) hx hb dX9_isIn_14 (by decide) ?_
    exact rdEndZ S hr hlocks dX9_isIn_15 rfl rfl
  · have lo_x2 : 0 ≤ x2 := l_nlt c_2
    refine lv_iload_n hx hb dX9_isIn_5 rfl (lv_at hl 0 rfl) ?_
    refine lv_iload_n hx hb dX9_isIn_6 rfl (lv_at hl 2 rfl) ?_
    refine lv_icmp_gt (tgt := 14) hx hb dX9_isIn_7 (by decide) (fun _ => ?_) (fun c => absurd (b_gt lo_x2 (by decide)) c)
    refine lv_iconst (v := 0) hx hb dX9_isIn_14 (by decide) ?_
    exact rdEndZ S hr hlocks dX9_isIn_15 rfl rfl

set_option maxHeartbeats 8000000 in
set_option maxRecDepth 100000 in
theorem c_X9_isNode_2 (l : Launch) (D : va_G) (cI cZ cJ : ClassId) (o : Nat) (q : Nat → Nat) (x2 : Int32) : Met l yX9_isNode (uW yX9_isNode cX9_isNode 2 (some .boolean)) ({ frames := 1, cells := 0, slots := 0, locals := 22 }) (va_Pc [.ref o, .int x2] (pS D (tyL cI cZ cJ) (mW o 0 q cI cZ))) (QcRead (0)) 0 0 (fun _ => False) := by
  refine rdStart (lv := [(0, .ref o), (1, .int x2)]) (by decide) (Nat.le_of_ble_eq_true rfl) rfl ?_
  intro p e s m args below meth c ls S hr hlocks hl hP hK
  have hx := S.1
  have hb := S.2.1
  refine lv_iload_n hx hb dX9_isNode_0 rfl (lv_at hl 1 rfl) ?_
  refine lv_iconst (v := 0) hx hb dX9_isNode_1 (by decide) ?_
  refine lv_aload_n hx hb dX9_isNode_2 rfl (lv_at hl 0 rfl) ?_
  refine xg (ci := 9) S inX9 rfl hK hP mW_0 13 (by decide) mF_13 kw_6_161 rfl dX9_isNode_3 ?_
  refine lv_iconst (v := 1) hx hb dX9_isNode_6 (by decide) ?_
  refine xisub (v := (-1)) S dX9_isNode_7 (by decide) ?_
  refine rdS (As := [.int x2, .int 0, .int (-1)]) S (c_X9_isIn_63 l D cI cZ cJ o q x2) ms_X9_isIn kw_7_101 ⟨rfl, rfl⟩ ⟨Nat.le_of_ble_eq_true rfl, Nat.le_of_ble_eq_true rfl⟩ hP hK hl.1 (Nat.le_of_ble_eq_true rfl) ⟨Nat.le_of_ble_eq_true rfl, Nat.le_of_ble_eq_true rfl⟩ dX9_isNode_8 ?_
  exact rdEndZ S hr hlocks dX9_isNode_11 rfl rfl

set_option maxHeartbeats 8000000 in
set_option maxRecDepth 100000 in
theorem c_X9_body_0 (l : Launch) (D : va_G) (cI cZ cJ : ClassId) (o : Nat) (q : Nat → Nat) (sz : Nat) (x1 : Int32) (x2 : Int32) : Met l yX9_body (uW yX9_body cX9_body 4 (some .int)) ({ frames := 2, cells := 0, slots := 0, locals := 43 }) (va_Pc [.ref o, .int x1, .int x2] (wS D (tyL cI cZ cJ) (mW o 0 q cI cZ) sz)) (wQi (0) D (mW o 1 q cI cZ) (va_A (mW o 0 q cI cZ) sz)) 0 0 (va_A (mW o 0 q cI cZ) sz) := by
  refine wStart (lv := [(0, .ref o), (1, .int x1), (2, .int x2)]) (Qc := fun A => wQi (0) D (mW o 1 q cI cZ) A) (by decide) (Nat.le_of_ble_eq_true rfl) rfl ?_
  intro p e s m args below meth c ls A H S hr hlocks hnm hl hK hP hD hS hA
  have hx := S.1
  have hb := S.2.1
  refine lv_aload_n hx hb dX9_body_0 rfl (lv_at hl 0 rfl) ?_
  refine lv_iconst (v := 0) hx hb dX9_body_1 (by decide) ?_
  refine xp (ci := 9) (v := .int 0) S inX9 tyX9 tyX9_ok nmX9 rfl hK hP hD hS mW_0 0 (by decide) kw_6_148 rfl rfl rfl rfl (Nat.le_of_ble_eq_true rfl) dX9_body_2 (fun H locs hP hD hS => ?_)
  have hP : va_P D vwCl (mW o 0 q cI cZ) H := hP
  have hD : va_D A (mW o 0 q cI cZ) := hD
  refine lv_aload_n hx hb dX9_body_5 rfl (lv_at hl 0 rfl) ?_
  refine lv_iload_n hx hb dX9_body_6 rfl (lv_at hl 1 rfl) ?_
  by_cases d_7 : x1 < 0
  · have hi_x1 : x1 ≤ (-1) := u_lt d_7 (by decide)
    refine rdV (As := [.int x1]) (ci := 9) S (c_X9_isProcedure_0 l D cI cZ cJ o q x1 hi_x1) mi_X9_isProcedure kw_7_97 ⟨rfl, rfl⟩ ⟨Nat.le_of_ble_eq_true rfl, Nat.le_of_ble_eq_true rfl⟩ hP hK mW_0 rfl rfl hl.1 (Nat.le_of_ble_eq_true rfl) ⟨Nat.le_of_ble_eq_true rfl, Nat.le_of_ble_eq_true rfl⟩ dX9_body_7 ?_
    refine lv_if_eq (tgt := 21) hx hb dX9_body_10 (by decide) (fun _ => ?_) (fun c => absurd c (by decide))
    refine lv_aload_n hx hb dX9_body_21 rfl (lv_at hl 0 rfl) ?_
    refine lv_iconst (v := 1) hx hb dX9_body_22 (by decide) ?_
    refine wrV (As := [.int 1]) (ci := 9) S (c_X9_no_0 l D cI cZ cJ o q H.size) mi_X9_no kw_7_104 rfl rfl ⟨Nat.le_of_ble_eq_true rfl, Nat.le_of_ble_eq_true rfl⟩ hP hD hK hS hA mW_0 rfl rfl hl.1 (Nat.le_of_ble_eq_true rfl) ⟨Nat.le_of_ble_eq_true rfl, Nat.le_of_ble_eq_true rfl⟩ dX9_body_23 (fun H locs hz hP hD hS => ?_)
    exact wEnd S hr hlocks hP hD hS (Nat.le_of_ble_eq_true rfl) (Nat.le_of_ble_eq_true rfl) dX9_body_26 rfl
  · have lo_x1 : 0 ≤ x1 := l_nlt d_7
    by_cases d_7 : 0 < x1
    · have lo_x1 : 1 ≤ x1 := l_gt d_7 (by decide)
      refine rdV (As := [.int x1]) (ci := 9) S (c_X9_isProcedure_1 l D cI cZ cJ o q x1 lo_x1) mi_X9_isProcedure kw_7_97 ⟨rfl, rfl⟩ ⟨Nat.le_of_ble_eq_true rfl, Nat.le_of_ble_eq_true rfl⟩ hP hK mW_0 rfl rfl hl.1 (Nat.le_of_ble_eq_true rfl) ⟨Nat.le_of_ble_eq_true rfl, Nat.le_of_ble_eq_true rfl⟩ dX9_body_7 ?_
      refine lv_if_eq (tgt := 21) hx hb dX9_body_10 (by decide) (fun _ => ?_) (fun c => absurd c (by decide))
      refine lv_aload_n hx hb dX9_body_21 rfl (lv_at hl 0 rfl) ?_
      refine lv_iconst (v := 1) hx hb dX9_body_22 (by decide) ?_
      refine wrV (As := [.int 1]) (ci := 9) S (c_X9_no_0 l D cI cZ cJ o q H.size) mi_X9_no kw_7_104 rfl rfl ⟨Nat.le_of_ble_eq_true rfl, Nat.le_of_ble_eq_true rfl⟩ hP hD hK hS hA mW_0 rfl rfl hl.1 (Nat.le_of_ble_eq_true rfl) ⟨Nat.le_of_ble_eq_true rfl, Nat.le_of_ble_eq_true rfl⟩ dX9_body_23 (fun H locs hz hP hD hS => ?_)
      exact wEnd S hr hlocks hP hD hS (Nat.le_of_ble_eq_true rfl) (Nat.le_of_ble_eq_true rfl) dX9_body_26 rfl
    · have hi_x1 : x1 ≤ 0 := u_ngt d_7
      have e_x1 : x1 = 0 := b_eq lo_x1 hi_x1
      subst e_x1
      refine rdV (As := [.int 0]) (ci := 9) S (c_X9_isProcedure_2 l D cI cZ cJ o q) mi_X9_isProcedure kw_7_97 ⟨rfl, rfl⟩ ⟨Nat.le_of_ble_eq_true rfl, Nat.le_of_ble_eq_true rfl⟩ hP hK mW_0 rfl rfl hl.1 (Nat.le_of_ble_eq_true rfl) ⟨Nat.le_of_ble_eq_true rfl, Nat.le_of_ble_eq_true rfl⟩ dX9_body_7 ?_
      refine lv_if_eq (tgt := 21) hx hb dX9_body_10 (by decide) (fun c => absurd c (by decide)) (fun _ => ?_)
      refine lv_aload_n hx hb dX9_body_13 rfl (lv_at hl 0 rfl) ?_
      refine lv_iload_n hx hb dX9_body_14 rfl (lv_at hl 2 rfl) ?_
      refine rdV (As := [.int x2]) (ci := 9) S (c_X9_isNode_2 l D cI cZ cJ o q x2) mi_X9_isNode kw_7_167 ⟨rfl, rfl⟩ ⟨Nat.le_of_ble_eq_true rfl, Nat.le_of_ble_eq_true rfl⟩ hP hK mW_0 rfl rfl hl.1 (Nat.le_of_ble_eq_true rfl) ⟨Nat.le_of_ble_eq_true rfl, Nat.le_of_ble_eq_true rfl⟩ dX9_body_15 ?_
      refine lv_if_ne (tgt := 27) hx hb dX9_body_18 (by decide) (fun c => absurd c (by decide)) (fun _ => ?_)
      refine lv_aload_n hx hb dX9_body_21 rfl (lv_at hl 0 rfl) ?_
      refine lv_iconst (v := 1) hx hb dX9_body_22 (by decide) ?_
      refine wrV (As := [.int 1]) (ci := 9) S (c_X9_no_0 l D cI cZ cJ o q H.size) mi_X9_no kw_7_104 rfl rfl ⟨Nat.le_of_ble_eq_true rfl, Nat.le_of_ble_eq_true rfl⟩ hP hD hK hS hA mW_0 rfl rfl hl.1 (Nat.le_of_ble_eq_true rfl) ⟨Nat.le_of_ble_eq_true rfl, Nat.le_of_ble_eq_true rfl⟩ dX9_body_23 (fun H locs hz hP hD hS => ?_)
      exact wEnd S hr hlocks hP hD hS (Nat.le_of_ble_eq_true rfl) (Nat.le_of_ble_eq_true rfl) dX9_body_26 rfl

set_option maxHeartbeats 8000000 in
set_option maxRecDepth 100000 in
theorem c_X5_has_4 (l : Launch) (D : va_G) (cI cZ cJ : ClassId) (o : Nat) (u : Nat → Nat) (x1 : Int32) : Met l yX5_has (uW yX5_has cX5_has 2 (some .boolean)) ({ frames := 0, cells := 0, slots := 0, locals := 0 }) (va_Pc [.ref (u 12), .int x1] (pS D (tyL cI cZ cJ) (xW o u cI cZ cJ))) (QcRead (0)) 0 0 (fun _ => False) := by
  refine rdStart (lv := [(0, .ref (u 12)), (1, .int x1)]) (by decide) (Nat.le_of_ble_eq_true rfl) rfl ?_
  intro p e s m args below meth c ls S hr hlocks hl hP hK
  have hx := S.1
  have hb := S.2.1
  refine lv_iload_n hx hb dX5_has_0 rfl (lv_at hl 1 rfl) ?_
  refine lv_if_lt (tgt := 16) hx hb dX5_has_1 (by decide) (fun c_1 => ?_) (fun c_1 => ?_)
  · have hi_x1 : x1 ≤ (-1) := u_lt c_1 (by decide)
    refine lv_iconst (v := 0) hx hb dX5_has_16 (by decide) ?_
    exact rdEndZ S hr hlocks dX5_has_17 rfl rfl
  · have lo_x1 : 0 ≤ x1 := l_nlt c_1
    refine lv_iload_n hx hb dX5_has_4 rfl (lv_at hl 1 rfl) ?_
    refine lv_aload_n hx hb dX5_has_5 rfl (lv_at hl 0 rfl) ?_
    refine xg (ci := 5) S inX5 rfl hK hP xW_13 0 (by decide) rfl kw_1_107 rfl dX5_has_6 ?_
    refine lv_icmp_ge (tgt := 16) hx hb dX5_has_9 (by decide) (fun _ => ?_) (fun c => absurd (b_ge lo_x1 (by decide)) c)
    refine lv_iconst (v := 0) hx hb dX5_has_16 (by decide) ?_
    exact rdEndZ S hr hlocks dX5_has_17 rfl rfl

set_option maxHeartbeats 8000000 in
set_option maxRecDepth 100000 in
theorem c_X8_needNode_1 (l : Launch) (D : va_G) (cI cZ cJ : ClassId) (o : Nat) (u : Nat → Nat) (hst : l.stackTraces = false) (ra ga : Nat → Nat) (sz : Nat) (x1 : Int32) : vx_Met l yX8_needNode (uW yX8_needNode cX8_needNode 2 none) ({ frames := 6, cells := 1, slots := 6, locals := 82 }) (va_Pc [.ref o, .int x1] (aS ra ga D (tyL cI cZ cJ) (xW o u cI cZ cJ) sz)) (nQv (va_A (xW o u cI cZ cJ) sz)) (wX "java/lang/IndexOutOfBoundsException" D (xW o u cI cZ cJ) (va_A (xW o u cI cZ cJ) sz)) 1 6 (va_A (xW o u cI cZ cJ) sz) := by
  refine xStart (lv := [(0, .ref o), (1, .int x1)]) (Qc := fun A => nQv A) (XC := fun A => wX "java/lang/IndexOutOfBoundsException" D (xW o u cI cZ cJ) A) (by decide) (Nat.le_of_ble_eq_true rfl) rfl ?_
  intro p e s m args below meth c ls A H S hr hlocks hnm hl hK hP hD hS hA hB hnt
  have hx := S.1
  have hb := S.2.1
  refine lv_aload_n hx hb dX8_needNode_0 rfl (lv_at hl 0 rfl) ?_
  refine xg (ci := 8) S inX8 rfl hK hP xW_0 1 (by decide) rfl kw_3_21 rfl dX8_needNode_1 ?_
  refine lv_iload_n hx hb dX8_needNode_4 rfl (lv_at hl 1 rfl) ?_
  refine rdV (As := [.int x1]) (ci := 5) S (c_X5_has_4 l D cI cZ cJ o u x1) mi_X5_has kw_4_222 ⟨rfl, rfl⟩ ⟨Nat.le_of_ble_eq_true rfl, Nat.le_of_ble_eq_true rfl⟩ hP hK xW_13 rfl rfl hl.1 (Nat.le_of_ble_eq_true rfl) ⟨Nat.le_of_ble_eq_true rfl, Nat.le_of_ble_eq_true rfl⟩ dX8_needNode_5 ?_
  refine lv_if_ne (tgt := 22) hx hb dX8_needNode_8 (by decide) (fun c => absurd c (by decide)) (fun _ => ?_)
  exact vx_throwSW (names := ["java/lang/RuntimeException", "java/lang/Exception"]) hx hb hst S.2.2.2.1 rfl (by decide) (S.2.2.2.2 _ kw_4_174) (S.2.2.2.2 _ kw_1_15) hB.k3 (vx_hat (fun w h => S.2.2.2.2 _ (atS_0 w h)) atB_0 (vx_c (va_Nw.use rfl hB.c0) (vx_c (va_Nw.use rfl hB.d0) (vx_c (va_Nw.use rfl hB.d1) (vx_c (va_Nw.use rfl hB.d2) vx_n))))) atO_0 hB.xU hB.xN hS (hl.1.trans S.2.2.1.symm) dX8_needNode_11 dX8_needNode_14 dX8_needNode_15 dX8_needNode_18 dX8_needNode_21 (fun x hx => (hnt x hx).elim) (Nat.le_of_ble_eq_true rfl) (Nat.le_of_ble_eq_true rfl) (Nat.le_of_ble_eq_true rfl) (Nat.le_of_ble_eq_true rfl) hlocks (fun t _ hz hq => xThrown hP hD hS hz hq) hS.2.2 (Nat.le_of_ble_eq_true rfl) (Nat.le_of_ble_eq_true rfl)

set_option maxHeartbeats 8000000 in
set_option maxRecDepth 100000 in
theorem c_X8_ofNode_0 (l : Launch) (D : va_G) (cI cZ cJ : ClassId) (o : Nat) (u : Nat → Nat) (hst : l.stackTraces = false) (ra ga : Nat → Nat) (sz : Nat) (x1 : Int32) (x2 : Int32) : vx_Met l yX8_ofNode (uW yX8_ofNode cX8_ofNode 3 (some .int)) ({ frames := 7, cells := 1, slots := 6, locals := 103 }) (va_Pc [.ref o, .int x1, .int x2] (aS ra ga D (tyL cI cZ cJ) (xW o u cI cZ cJ) sz)) (nQi (va_A (xW o u cI cZ cJ) sz)) (wX "java/lang/IndexOutOfBoundsException" D (xW o u cI cZ cJ) (va_A (xW o u cI cZ cJ) sz)) 1 6 (va_A (xW o u cI cZ cJ) sz) := by
  refine xStart (lv := [(0, .ref o), (1, .int x1), (2, .int x2)]) (Qc := fun A => nQi A) (XC := fun A => wX "java/lang/IndexOutOfBoundsException" D (xW o u cI cZ cJ) A) (by decide) (Nat.le_of_ble_eq_true rfl) rfl ?_
  intro p e s m args below meth c ls A H S hr hlocks hnm hl hK hP hD hS hA hB hnt
  have hx := S.1
  have hb := S.2.1
  refine lv_aload_n hx hb dX8_ofNode_0 rfl (lv_at hl 0 rfl) ?_
  refine lv_iload_n hx hb dX8_ofNode_1 rfl (lv_at hl 1 rfl) ?_
  exact tVv (As := [.int x1]) (ci := 8) S (c_X8_needNode_1 l D cI cZ cJ o u hst ra ga H.size x1) mi_X8_needNode kw_4_218 rfl rfl ⟨Nat.le_of_ble_eq_true rfl, Nat.le_of_ble_eq_true rfl⟩ hP hD hK hS hA hB xW_0 rfl rfl hl.1 (Nat.le_of_ble_eq_true rfl) ⟨Nat.le_of_ble_eq_true rfl, Nat.le_of_ble_eq_true rfl⟩ dX8_ofNode_2 hnt hlocks (Nat.le_of_ble_eq_true rfl) (Nat.le_of_ble_eq_true rfl)

set_option maxHeartbeats 8000000 in
set_option maxRecDepth 100000 in
theorem h_ofNode_0 (l : Launch) (D : va_G) (cI cZ cJ : ClassId) (o : Nat) (u : Nat → Nat) (ao : Nat) (hst : l.stackTraces = false) (ra ga : Nat → Nat) (sz : Nat) (x1 : Int32) (x2 : Int32) : vx_Met l yL_ofNode (uWh yL_ofNode cL_ofNode 5 (some .int) [(0, 10, 13, 13), (0, 10, 17, 15)]) ({ frames := 8, cells := 1, slots := 6, locals := 125 }) (va_Pc [.ref o, .int x1, .int x2, .ref ao] (lS ra ga D (tyL cI cZ cJ) ((xW o u cI cZ cJ) ++ [(ao, .inl (cJ, 1, .inr (.inl (fun _ => 0))))]) sz)) (wQi (1) D ((xW o u cI cZ cJ) ++ [(ao, .inl (cJ, 1, .inr (.inl (fun _ => 0))))]) (va_A ((xW o u cI cZ cJ) ++ [(ao, .inl (cJ, 1, .inr (.inl (fun _ => 0))))]) sz)) (xN (va_A ((xW o u cI cZ cJ) ++ [(ao, .inl (cJ, 1, .inr (.inl (fun _ => 0))))]) sz)) 1 6 (va_A ((xW o u cI cZ cJ) ++ [(ao, .inl (cJ, 1, .inr (.inl (fun _ => 0))))]) sz) := by
  refine hStart (l := l) (y := yL_ofNode) (b := cL_ofNode) (n := 5) (r := (some .int)) (hh := [(0, 10, 13, 13), (0, 10, 17, 15)]) (rm := ({ frames := 8, cells := 1, slots := 6, locals := 125 })) (mc := 1) (ms := 6) (ra := ra) (ga := ga) (D := D) (tys := tyL cI cZ cJ) (ws := ((xW o u cI cZ cJ) ++ [(ao, .inl (cJ, 1, .inr (.inl (fun _ => 0))))])) (av := [.ref o, .int x1, .int x2, .ref ao]) (sz := sz) (lv := [(0, .ref o), (1, .int x1), (2, .int x2), (3, .ref ao)]) (Qc := fun A => wQi (1) D ((xW o u cI cZ cJ) ++ [(ao, .inl (cJ, 1, .inr (.inl (fun _ => 0))))]) A) (by decide) (Nat.le_of_ble_eq_true rfl) rfl ?_
  intro p e s m args below meth c ls A H S hr hlocks htab hl hK hP hD hS hA hB hC
  have hx := S.1
  have hb := S.2.1
  refine lv_aload_n hx hb dL_ofNode_0 rfl (lv_at hl 3 rfl) ?_
  refine lv_iconst (v := 0) hx hb dL_ofNode_1 (by decide) ?_
  refine lv_aload_n hx hb dL_ofNode_2 rfl (lv_at hl 0 rfl) ?_
  refine lv_iload_n hx hb dL_ofNode_3 rfl (lv_at hl 1 rfl) ?_
  refine lv_iload_n hx hb dL_ofNode_4 rfl (lv_at hl 2 rfl) ?_
  refine cVi [] [(ao, .inl (cJ, 1, .inr (.inl (fun _ => 0))))] (As := [.int x1, .int x2]) (ci := 8) S (c_X8_ofNode_0 l D cI cZ cJ o u hst ra ga H.size x1 x2) mi_X8_ofNode kw_6_76 rfl rfl ⟨Nat.le_of_ble_eq_true rfl, Nat.le_of_ble_eq_true rfl⟩ hP hD hK hS hA hB xW_0 rfl rfl hl.1 (Nat.le_of_ble_eq_true rfl) ⟨Nat.le_of_ble_eq_true rfl, Nat.le_of_ble_eq_true rfl⟩ dL_ofNode_5 (fun ce q9 H locs hz hP hD hS hce hcv hcl => ?_)
  refine vx_catch (name := "java/lang/IndexOutOfBoundsException") S.2.2.2.1 [] (⟨0, 10, 13, 13⟩ : ExceptionTableEntry) [(⟨0, 10, 17, 15⟩ : ExceptionTableEntry)] (htab.trans rfl) (fun _ h => absurd h List.not_mem_nil) (by decide) (by decide) (S.2.2.2.2 _ kw_5_176) (va_Nw.use rfl hB.c0) hce hcv hcl ?_
  have hP : va_P D vwCl ((xW o u cI cZ cJ) ++ [(ao, .inl (cJ, 1, .inr (.inl (fun _ => 0))))]) H := hP
  have hD : va_D A ((xW o u cI cZ cJ) ++ [(ao, .inl (cJ, 1, .inr (.inl (fun _ => 0))))]) := hD
  refine lv_astore (lv' := [(4, .ref q9), (0, .ref o), (1, .int x1), (2, .int x2), (3, .ref ao)]) hx hb dL_ofNode_13 hl (by decide) rfl (fun ls hl => ?_)
  refine lv_iconst (v := 1) hx hb dL_ofNode_15 (by decide) ?_
  exact vx_ret (wEnd S hr hlocks hP hD hS (Nat.le_of_ble_eq_true rfl) (Nat.le_of_ble_eq_true rfl) dL_ofNode_16 rfl)

set_option maxHeartbeats 8000000 in
set_option maxRecDepth 100000 in
theorem c_X9_isIn_64 (l : Launch) (D : va_G) (cI cZ cJ : ClassId) (o : Nat) (q : Nat → Nat) (x1 : Int32) : Met l yX9_isIn (uW yX9_isIn cX9_isIn 3 (some .boolean)) ({ frames := 0, cells := 0, slots := 0, locals := 0 }) (va_Pc [.int x1, .int 0, .int (-1)] (pS D (tyL cI cZ cJ) (mW o 0 q cI cZ))) (QcRead (0)) 0 0 (fun _ => False) := by
  refine rdStart (lv := [(0, .int x1), (1, .int 0), (2, .int (-1))]) (by decide) (Nat.le_of_ble_eq_true rfl) rfl ?_
  intro p e s m args below meth c ls S hr hlocks hl hP hK
  have hx := S.1
  have hb := S.2.1
  refine lv_iload_n hx hb dX9_isIn_0 rfl (lv_at hl 0 rfl) ?_
  refine lv_iload_n hx hb dX9_isIn_1 rfl (lv_at hl 1 rfl) ?_
  refine lv_icmp_lt (tgt := 14) hx hb dX9_isIn_2 (by decide) (fun c_2 => ?_) (fun c_2 => ?_)
  · have hi_x1 : x1 ≤ (-1) := u_lt c_2 (by decide)
    refine lv_iconst (v := 0) hx hb dX9_isIn_14 (by decide) ?_
    exact rdEndZ S hr hlocks dX9_isIn_15 rfl rfl
  · have lo_x1 : 0 ≤ x1 := l_nlt c_2
    refine lv_iload_n hx hb dX9_isIn_5 rfl (lv_at hl 0 rfl) ?_
    refine lv_iload_n hx hb dX9_isIn_6 rfl (lv_at hl 2 rfl) ?_
    refine lv_icmp_gt (tgt := 14) hx hb dX9_isIn_7 (by decide) (fun _ => ?_) (fun c => absurd (b_gt lo_x1 (by decide)) c)
    refine lv_iconst (v := 0) hx hb dX9_isIn_14 (by decide) ?_
    exact rdEndZ S hr hlocks dX9_isIn_15 rfl rfl

set_option maxHeartbeats 8000000 in
set_option maxRecDepth 100000 in
theorem c_X9_isNode_3 (l : Launch) (D : va_G) (cI cZ cJ : ClassId) (o : Nat) (q : Nat → Nat) (x1 : Int32) : Met l yX9_isNode (uW yX9_isNode cX9_isNode 2 (some .boolean)) ({ frames := 1, cells := 0, slots := 0, locals := 22 }) (va_Pc [.ref o, .int x1] (pS D (tyL cI cZ cJ) (mW o 0 q cI cZ))) (QcRead (0)) 0 0 (fun _ => False) := by
  refine rdStart (lv := [(0, .ref o), (1, .int x1)]) (by decide) (Nat.le_of_ble_eq_true rfl) rfl ?_
  intro p e s m args below meth c ls S hr hlocks hl hP hK
  have hx := S.1
  have hb := S.2.1
  refine lv_iload_n hx hb dX9_isNode_0 rfl (lv_at hl 1 rfl) ?_
  refine lv_iconst (v := 0) hx hb dX9_isNode_1 (by decide) ?_
  refine lv_aload_n hx hb dX9_isNode_2 rfl (lv_at hl 0 rfl) ?_
  refine xg (ci := 9) S inX9 rfl hK hP mW_0 13 (by decide) mF_13 kw_6_161 rfl dX9_isNode_3 ?_
  refine lv_iconst (v := 1) hx hb dX9_isNode_6 (by decide) ?_
  refine xisub (v := (-1)) S dX9_isNode_7 (by decide) ?_
  refine rdS (As := [.int x1, .int 0, .int (-1)]) S (c_X9_isIn_64 l D cI cZ cJ o q x1) ms_X9_isIn kw_7_101 ⟨rfl, rfl⟩ ⟨Nat.le_of_ble_eq_true rfl, Nat.le_of_ble_eq_true rfl⟩ hP hK hl.1 (Nat.le_of_ble_eq_true rfl) ⟨Nat.le_of_ble_eq_true rfl, Nat.le_of_ble_eq_true rfl⟩ dX9_isNode_8 ?_
  exact rdEndZ S hr hlocks dX9_isNode_11 rfl rfl

set_option maxHeartbeats 8000000 in
set_option maxRecDepth 100000 in
theorem c_X9_ofNode_0 (l : Launch) (D : va_G) (cI cZ cJ : ClassId) (o : Nat) (q : Nat → Nat) (sz : Nat) (x1 : Int32) (x2 : Int32) : Met l yX9_ofNode (uW yX9_ofNode cX9_ofNode 3 (some .int)) ({ frames := 2, cells := 0, slots := 0, locals := 43 }) (va_Pc [.ref o, .int x1, .int x2] (wS D (tyL cI cZ cJ) (mW o 0 q cI cZ) sz)) (wQi (0) D (mW o 1 q cI cZ) (va_A (mW o 0 q cI cZ) sz)) 0 0 (va_A (mW o 0 q cI cZ) sz) := by
  refine wStart (lv := [(0, .ref o), (1, .int x1), (2, .int x2)]) (Qc := fun A => wQi (0) D (mW o 1 q cI cZ) A) (by decide) (Nat.le_of_ble_eq_true rfl) rfl ?_
  intro p e s m args below meth c ls A H S hr hlocks hnm hl hK hP hD hS hA
  have hx := S.1
  have hb := S.2.1
  refine lv_aload_n hx hb dX9_ofNode_0 rfl (lv_at hl 0 rfl) ?_
  refine lv_iconst (v := 0) hx hb dX9_ofNode_1 (by decide) ?_
  refine xp (ci := 9) (v := .int 0) S inX9 tyX9 tyX9_ok nmX9 rfl hK hP hD hS mW_0 0 (by decide) kw_6_148 rfl rfl rfl rfl (Nat.le_of_ble_eq_true rfl) dX9_ofNode_2 (fun H locs hP hD hS => ?_)
  have hP : va_P D vwCl (mW o 0 q cI cZ) H := hP
  have hD : va_D A (mW o 0 q cI cZ) := hD
  refine lv_aload_n hx hb dX9_ofNode_5 rfl (lv_at hl 0 rfl) ?_
  refine lv_iload_n hx hb dX9_ofNode_6 rfl (lv_at hl 1 rfl) ?_
  refine rdV (As := [.int x1]) (ci := 9) S (c_X9_isNode_3 l D cI cZ cJ o q x1) mi_X9_isNode kw_7_167 ⟨rfl, rfl⟩ ⟨Nat.le_of_ble_eq_true rfl, Nat.le_of_ble_eq_true rfl⟩ hP hK mW_0 rfl rfl hl.1 (Nat.le_of_ble_eq_true rfl) ⟨Nat.le_of_ble_eq_true rfl, Nat.le_of_ble_eq_true rfl⟩ dX9_ofNode_7 ?_
  refine lv_if_ne (tgt := 19) hx hb dX9_ofNode_10 (by decide) (fun c => absurd c (by decide)) (fun _ => ?_)
  refine lv_aload_n hx hb dX9_ofNode_13 rfl (lv_at hl 0 rfl) ?_
  refine lv_iconst (v := 1) hx hb dX9_ofNode_14 (by decide) ?_
  refine wrV (As := [.int 1]) (ci := 9) S (c_X9_no_0 l D cI cZ cJ o q H.size) mi_X9_no kw_7_104 rfl rfl ⟨Nat.le_of_ble_eq_true rfl, Nat.le_of_ble_eq_true rfl⟩ hP hD hK hS hA mW_0 rfl rfl hl.1 (Nat.le_of_ble_eq_true rfl) ⟨Nat.le_of_ble_eq_true rfl, Nat.le_of_ble_eq_true rfl⟩ dX9_ofNode_15 (fun H locs hz hP hD hS => ?_)
  exact wEnd S hr hlocks hP hD hS (Nat.le_of_ble_eq_true rfl) (Nat.le_of_ble_eq_true rfl) dX9_ofNode_18 rfl

set_option maxHeartbeats 8000000 in
set_option maxRecDepth 100000 in
theorem c_X8_needPlace_0 (l : Launch) (D : va_G) (cI cZ cJ : ClassId) (o : Nat) (u : Nat → Nat) (hst : l.stackTraces = false) (ra ga : Nat → Nat) (sz : Nat) : vx_Met l yX8_needPlace (uW yX8_needPlace cX8_needPlace 1 none) ({ frames := 6, cells := 1, slots := 6, locals := 82 }) (va_Pc [.int 0] (aS ra ga D (tyL cI cZ cJ) (((((((xW o u cI cZ cJ).set 0 (o, .inr (8, ((xF u).set 9 (.int 0))))).set 32 ((u 31), .inl (cZ, 10, .inl (upd (upd (upd (upd (upd (upd (upd (upd (upd (upd (fun _ => 0) (0 : Int32).toNatClampNeg 0) (1 : Int32).toNatClampNeg 0) (2 : Int32).toNatClampNeg 0) (3 : Int32).toNatClampNeg 0) (4 : Int32).toNatClampNeg 0) (5 : Int32).toNatClampNeg 0) (6 : Int32).toNatClampNeg 0) (7 : Int32).toNatClampNeg 0) (8 : Int32).toNatClampNeg 0) (9 : Int32).toNatClampNeg 0)))).set 34 ((u 33), .inr (2, ([.ref (u 0), .ref (u 12), .ref (u 19), .int 0, .ref (u 34), .ref (u 35), .ref (u 36), .ref (u 37), .int 0].set 3 (.int 1))))).set 35 ((u 34), .inl (cI, 120, .inl (upd (fun _ => 0) (0 : Int32).toNatClampNeg 10)))).set 36 ((u 35), .inl (cI, 120, .inl (upd (fun _ => 0) (0 : Int32).toNatClampNeg 0)))).set 37 ((u 36), .inl (cI, 120, .inl (upd (fun _ => 0) (0 : Int32).toNatClampNeg (-1))))) sz)) (nQv (va_A (((((((xW o u cI cZ cJ).set 0 (o, .inr (8, ((xF u).set 9 (.int 0))))).set 32 ((u 31), .inl (cZ, 10, .inl (upd (upd (upd (upd (upd (upd (upd (upd (upd (upd (fun _ => 0) (0 : Int32).toNatClampNeg 0) (1 : Int32).toNatClampNeg 0) (2 : Int32).toNatClampNeg 0) (3 : Int32).toNatClampNeg 0) (4 : Int32).toNatClampNeg 0) (5 : Int32).toNatClampNeg 0) (6 : Int32).toNatClampNeg 0) (7 : Int32).toNatClampNeg 0) (8 : Int32).toNatClampNeg 0) (9 : Int32).toNatClampNeg 0)))).set 34 ((u 33), .inr (2, ([.ref (u 0), .ref (u 12), .ref (u 19), .int 0, .ref (u 34), .ref (u 35), .ref (u 36), .ref (u 37), .int 0].set 3 (.int 1))))).set 35 ((u 34), .inl (cI, 120, .inl (upd (fun _ => 0) (0 : Int32).toNatClampNeg 10)))).set 36 ((u 35), .inl (cI, 120, .inl (upd (fun _ => 0) (0 : Int32).toNatClampNeg 0)))).set 37 ((u 36), .inl (cI, 120, .inl (upd (fun _ => 0) (0 : Int32).toNatClampNeg (-1))))) sz)) (wX "java/lang/IndexOutOfBoundsException" D (((((((xW o u cI cZ cJ).set 0 (o, .inr (8, ((xF u).set 9 (.int 0))))).set 32 ((u 31), .inl (cZ, 10, .inl (upd (upd (upd (upd (upd (upd (upd (upd (upd (upd (fun _ => 0) (0 : Int32).toNatClampNeg 0) (1 : Int32).toNatClampNeg 0) (2 : Int32).toNatClampNeg 0) (3 : Int32).toNatClampNeg 0) (4 : Int32).toNatClampNeg 0) (5 : Int32).toNatClampNeg 0) (6 : Int32).toNatClampNeg 0) (7 : Int32).toNatClampNeg 0) (8 : Int32).toNatClampNeg 0) (9 : Int32).toNatClampNeg 0)))).set 34 ((u 33), .inr (2, ([.ref (u 0), .ref (u 12), .ref (u 19), .int 0, .ref (u 34), .ref (u 35), .ref (u 36), .ref (u 37), .int 0].set 3 (.int 1))))).set 35 ((u 34), .inl (cI, 120, .inl (upd (fun _ => 0) (0 : Int32).toNatClampNeg 10)))).set 36 ((u 35), .inl (cI, 120, .inl (upd (fun _ => 0) (0 : Int32).toNatClampNeg 0)))).set 37 ((u 36), .inl (cI, 120, .inl (upd (fun _ => 0) (0 : Int32).toNatClampNeg (-1))))) (va_A (((((((xW o u cI cZ cJ).set 0 (o, .inr (8, ((xF u).set 9 (.int 0))))).set 32 ((u 31), .inl (cZ, 10, .inl (upd (upd (upd (upd (upd (upd (upd (upd (upd (upd (fun _ => 0) (0 : Int32).toNatClampNeg 0) (1 : Int32).toNatClampNeg 0) (2 : Int32).toNatClampNeg 0) (3 : Int32).toNatClampNeg 0) (4 : Int32).toNatClampNeg 0) (5 : Int32).toNatClampNeg 0) (6 : Int32).toNatClampNeg 0) (7 : Int32).toNatClampNeg 0) (8 : Int32).toNatClampNeg 0) (9 : Int32).toNatClampNeg 0)))).set 34 ((u 33), .inr (2, ([.ref (u 0), .ref (u 12), .ref (u 19), .int 0, .ref (u 34), .ref (u 35), .ref (u 36), .ref (u 37), .int 0].set 3 (.int 1))))).set 35 ((u 34), .inl (cI, 120, .inl (upd (fun _ => 0) (0 : Int32).toNatClampNeg 10)))).set 36 ((u 35), .inl (cI, 120, .inl (upd (fun _ => 0) (0 : Int32).toNatClampNeg 0)))).set 37 ((u 36), .inl (cI, 120, .inl (upd (fun _ => 0) (0 : Int32).toNatClampNeg (-1))))) sz)) 1 6 (va_A (((((((xW o u cI cZ cJ).set 0 (o, .inr (8, ((xF u).set 9 (.int 0))))).set 32 ((u 31), .inl (cZ, 10, .inl (upd (upd (upd (upd (upd (upd (upd (upd (upd (upd (fun _ => 0) (0 : Int32).toNatClampNeg 0) (1 : Int32).toNatClampNeg 0) (2 : Int32).toNatClampNeg 0) (3 : Int32).toNatClampNeg 0) (4 : Int32).toNatClampNeg 0) (5 : Int32).toNatClampNeg 0) (6 : Int32).toNatClampNeg 0) (7 : Int32).toNatClampNeg 0) (8 : Int32).toNatClampNeg 0) (9 : Int32).toNatClampNeg 0)))).set 34 ((u 33), .inr (2, ([.ref (u 0), .ref (u 12), .ref (u 19), .int 0, .ref (u 34), .ref (u 35), .ref (u 36), .ref (u 37), .int 0].set 3 (.int 1))))).set 35 ((u 34), .inl (cI, 120, .inl (upd (fun _ => 0) (0 : Int32).toNatClampNeg 10)))).set 36 ((u 35), .inl (cI, 120, .inl (upd (fun _ => 0) (0 : Int32).toNatClampNeg 0)))).set 37 ((u 36), .inl (cI, 120, .inl (upd (fun _ => 0) (0 : Int32).toNatClampNeg (-1))))) sz) := by
  refine xStart (lv := [(0, .int 0)]) (Qc := fun A => nQv A) (XC := fun A => wX "java/lang/IndexOutOfBoundsException" D (((((((xW o u cI cZ cJ).set 0 (o, .inr (8, ((xF u).set 9 (.int 0))))).set 32 ((u 31), .inl (cZ, 10, .inl (upd (upd (upd (upd (upd (upd (upd (upd (upd (upd (fun _ => 0) (0 : Int32).toNatClampNeg 0) (1 : Int32).toNatClampNeg 0) (2 : Int32).toNatClampNeg 0) (3 : Int32).toNatClampNeg 0) (4 : Int32).toNatClampNeg 0) (5 : Int32).toNatClampNeg 0) (6 : Int32).toNatClampNeg 0) (7 : Int32).toNatClampNeg 0) (8 : Int32).toNatClampNeg 0) (9 : Int32).toNatClampNeg 0)))).set 34 ((u 33), .inr (2, ([.ref (u 0), .ref (u 12), .ref (u 19), .int 0, .ref (u 34), .ref (u 35), .ref (u 36), .ref (u 37), .int 0].set 3 (.int 1))))).set 35 ((u 34), .inl (cI, 120, .inl (upd (fun _ => 0) (0 : Int32).toNatClampNeg 10)))).set 36 ((u 35), .inl (cI, 120, .inl (upd (fun _ => 0) (0 : Int32).toNatClampNeg 0)))).set 37 ((u 36), .inl (cI, 120, .inl (upd (fun _ => 0) (0 : Int32).toNatClampNeg (-1))))) A) (by decide) (Nat.le_of_ble_eq_true rfl) rfl ?_
  intro p e s m args below meth c ls A H S hr hlocks hnm hl hK hP hD hS hA hB hnt
  have hx := S.1
  have hb := S.2.1
  refine lv_iload_n hx hb dX8_needPlace_0 rfl (lv_at hl 0 rfl) ?_
  refine lv_if_ne (tgt := 15) hx hb dX8_needPlace_1 (by decide) (fun c => absurd c (by decide)) (fun _ => ?_)
  exact vx_throwSW (names := ["java/lang/RuntimeException", "java/lang/Exception"]) hx hb hst S.2.2.2.1 rfl (by decide) (S.2.2.2.2 _ kw_4_174) (S.2.2.2.2 _ kw_1_15) hB.k2 (vx_hat (fun w h => S.2.2.2.2 _ (atS_0 w h)) atB_0 (vx_c (va_Nw.use rfl hB.c0) (vx_c (va_Nw.use rfl hB.d0) (vx_c (va_Nw.use rfl hB.d1) (vx_c (va_Nw.use rfl hB.d2) vx_n))))) atO_0 hB.xU hB.xN hS (hl.1.trans S.2.2.1.symm) dX8_needPlace_4 dX8_needPlace_7 dX8_needPlace_8 dX8_needPlace_11 dX8_needPlace_14 (fun x hx => (hnt x hx).elim) (Nat.le_of_ble_eq_true rfl) (Nat.le_of_ble_eq_true rfl) (Nat.le_of_ble_eq_true rfl) (Nat.le_of_ble_eq_true rfl) hlocks (fun t _ hz hq => xThrown hP hD hS hz hq) hS.2.2 (Nat.le_of_ble_eq_true rfl) (Nat.le_of_ble_eq_true rfl)

set_option maxHeartbeats 8000000 in
set_option maxRecDepth 100000 in
theorem c_X8_needPlace_1 (l : Launch) (D : va_G) (cI cZ cJ : ClassId) (o : Nat) (u : Nat → Nat) (ra ga : Nat → Nat) (sz : Nat) : Met l yX8_needPlace (uW yX8_needPlace cX8_needPlace 1 none) ({ frames := 0, cells := 0, slots := 0, locals := 0 }) (va_Pc [.int 1] (aS ra ga D (tyL cI cZ cJ) (((((((xW o u cI cZ cJ).set 0 (o, .inr (8, ((xF u).set 9 (.int 0))))).set 32 ((u 31), .inl (cZ, 10, .inl (upd (upd (upd (upd (upd (upd (upd (upd (upd (upd (fun _ => 0) (0 : Int32).toNatClampNeg 0) (1 : Int32).toNatClampNeg 0) (2 : Int32).toNatClampNeg 0) (3 : Int32).toNatClampNeg 0) (4 : Int32).toNatClampNeg 0) (5 : Int32).toNatClampNeg 0) (6 : Int32).toNatClampNeg 0) (7 : Int32).toNatClampNeg 0) (8 : Int32).toNatClampNeg 0) (9 : Int32).toNatClampNeg 0)))).set 34 ((u 33), .inr (2, ([.ref (u 0), .ref (u 12), .ref (u 19), .int 0, .ref (u 34), .ref (u 35), .ref (u 36), .ref (u 37), .int 0].set 3 (.int 1))))).set 35 ((u 34), .inl (cI, 120, .inl (upd (fun _ => 0) (0 : Int32).toNatClampNeg 10)))).set 36 ((u 35), .inl (cI, 120, .inl (upd (fun _ => 0) (0 : Int32).toNatClampNeg 0)))).set 37 ((u 36), .inl (cI, 120, .inl (upd (fun _ => 0) (0 : Int32).toNatClampNeg (-1))))) sz)) (wQv D (((((((xW o u cI cZ cJ).set 0 (o, .inr (8, ((xF u).set 9 (.int 0))))).set 32 ((u 31), .inl (cZ, 10, .inl (upd (upd (upd (upd (upd (upd (upd (upd (upd (upd (fun _ => 0) (0 : Int32).toNatClampNeg 0) (1 : Int32).toNatClampNeg 0) (2 : Int32).toNatClampNeg 0) (3 : Int32).toNatClampNeg 0) (4 : Int32).toNatClampNeg 0) (5 : Int32).toNatClampNeg 0) (6 : Int32).toNatClampNeg 0) (7 : Int32).toNatClampNeg 0) (8 : Int32).toNatClampNeg 0) (9 : Int32).toNatClampNeg 0)))).set 34 ((u 33), .inr (2, ([.ref (u 0), .ref (u 12), .ref (u 19), .int 0, .ref (u 34), .ref (u 35), .ref (u 36), .ref (u 37), .int 0].set 3 (.int 1))))).set 35 ((u 34), .inl (cI, 120, .inl (upd (fun _ => 0) (0 : Int32).toNatClampNeg 10)))).set 36 ((u 35), .inl (cI, 120, .inl (upd (fun _ => 0) (0 : Int32).toNatClampNeg 0)))).set 37 ((u 36), .inl (cI, 120, .inl (upd (fun _ => 0) (0 : Int32).toNatClampNeg (-1))))) (va_A (((((((xW o u cI cZ cJ).set 0 (o, .inr (8, ((xF u).set 9 (.int 0))))).set 32 ((u 31), .inl (cZ, 10, .inl (upd (upd (upd (upd (upd (upd (upd (upd (upd (upd (fun _ => 0) (0 : Int32).toNatClampNeg 0) (1 : Int32).toNatClampNeg 0) (2 : Int32).toNatClampNeg 0) (3 : Int32).toNatClampNeg 0) (4 : Int32).toNatClampNeg 0) (5 : Int32).toNatClampNeg 0) (6 : Int32).toNatClampNeg 0) (7 : Int32).toNatClampNeg 0) (8 : Int32).toNatClampNeg 0) (9 : Int32).toNatClampNeg 0)))).set 34 ((u 33), .inr (2, ([.ref (u 0), .ref (u 12), .ref (u 19), .int 0, .ref (u 34), .ref (u 35), .ref (u 36), .ref (u 37), .int 0].set 3 (.int 1))))).set 35 ((u 34), .inl (cI, 120, .inl (upd (fun _ => 0) (0 : Int32).toNatClampNeg 10)))).set 36 ((u 35), .inl (cI, 120, .inl (upd (fun _ => 0) (0 : Int32).toNatClampNeg 0)))).set 37 ((u 36), .inl (cI, 120, .inl (upd (fun _ => 0) (0 : Int32).toNatClampNeg (-1))))) sz)) 0 0 (va_A (((((((xW o u cI cZ cJ).set 0 (o, .inr (8, ((xF u).set 9 (.int 0))))).set 32 ((u 31), .inl (cZ, 10, .inl (upd (upd (upd (upd (upd (upd (upd (upd (upd (upd (fun _ => 0) (0 : Int32).toNatClampNeg 0) (1 : Int32).toNatClampNeg 0) (2 : Int32).toNatClampNeg 0) (3 : Int32).toNatClampNeg 0) (4 : Int32).toNatClampNeg 0) (5 : Int32).toNatClampNeg 0) (6 : Int32).toNatClampNeg 0) (7 : Int32).toNatClampNeg 0) (8 : Int32).toNatClampNeg 0) (9 : Int32).toNatClampNeg 0)))).set 34 ((u 33), .inr (2, ([.ref (u 0), .ref (u 12), .ref (u 19), .int 0, .ref (u 34), .ref (u 35), .ref (u 36), .ref (u 37), .int 0].set 3 (.int 1))))).set 35 ((u 34), .inl (cI, 120, .inl (upd (fun _ => 0) (0 : Int32).toNatClampNeg 10)))).set 36 ((u 35), .inl (cI, 120, .inl (upd (fun _ => 0) (0 : Int32).toNatClampNeg 0)))).set 37 ((u 36), .inl (cI, 120, .inl (upd (fun _ => 0) (0 : Int32).toNatClampNeg (-1))))) sz) := by
  refine aStart (lv := [(0, .int 1)]) (Qc := fun A => wQv D (((((((xW o u cI cZ cJ).set 0 (o, .inr (8, ((xF u).set 9 (.int 0))))).set 32 ((u 31), .inl (cZ, 10, .inl (upd (upd (upd (upd (upd (upd (upd (upd (upd (upd (fun _ => 0) (0 : Int32).toNatClampNeg 0) (1 : Int32).toNatClampNeg 0) (2 : Int32).toNatClampNeg 0) (3 : Int32).toNatClampNeg 0) (4 : Int32).toNatClampNeg 0) (5 : Int32).toNatClampNeg 0) (6 : Int32).toNatClampNeg 0) (7 : Int32).toNatClampNeg 0) (8 : Int32).toNatClampNeg 0) (9 : Int32).toNatClampNeg 0)))).set 34 ((u 33), .inr (2, ([.ref (u 0), .ref (u 12), .ref (u 19), .int 0, .ref (u 34), .ref (u 35), .ref (u 36), .ref (u 37), .int 0].set 3 (.int 1))))).set 35 ((u 34), .inl (cI, 120, .inl (upd (fun _ => 0) (0 : Int32).toNatClampNeg 10)))).set 36 ((u 35), .inl (cI, 120, .inl (upd (fun _ => 0) (0 : Int32).toNatClampNeg 0)))).set 37 ((u 36), .inl (cI, 120, .inl (upd (fun _ => 0) (0 : Int32).toNatClampNeg (-1))))) A) (by decide) (Nat.le_of_ble_eq_true rfl) rfl ?_
  intro p e s m args below meth c ls A H S hr hlocks hnm hl hK hP hD hS hA hB
  have hx := S.1
  have hb := S.2.1
  refine lv_iload_n hx hb dX8_needPlace_0 rfl (lv_at hl 0 rfl) ?_
  refine lv_if_ne (tgt := 15) hx hb dX8_needPlace_1 (by decide) (fun _ => ?_) (fun c => absurd c (by decide))
  exact wEndv S hr hlocks hP hD hS (Nat.le_of_ble_eq_true rfl) (Nat.le_of_ble_eq_true rfl) dX8_needPlace_15

set_option maxHeartbeats 8000000 in
set_option maxRecDepth 100000 in
theorem c_X8_needArgument_2 (l : Launch) (D : va_G) (cI cZ cJ : ClassId) (o : Nat) (u : Nat → Nat) (hst : l.stackTraces = false) (ra ga : Nat → Nat) (sz : Nat) : vx_Met l yX8_needArgument (uW yX8_needArgument cX8_needArgument 1 none) ({ frames := 6, cells := 1, slots := 6, locals := 82 }) (va_Pc [.int 0] (aS ra ga D (tyL cI cZ cJ) (((((((xW o u cI cZ cJ).set 0 (o, .inr (8, ((xF u).set 9 (.int 0))))).set 32 ((u 31), .inl (cZ, 10, .inl (upd (upd (upd (upd (upd (upd (upd (upd (upd (upd (fun _ => 0) (0 : Int32).toNatClampNeg 0) (1 : Int32).toNatClampNeg 0) (2 : Int32).toNatClampNeg 0) (3 : Int32).toNatClampNeg 0) (4 : Int32).toNatClampNeg 0) (5 : Int32).toNatClampNeg 0) (6 : Int32).toNatClampNeg 0) (7 : Int32).toNatClampNeg 0) (8 : Int32).toNatClampNeg 0) (9 : Int32).toNatClampNeg 0)))).set 34 ((u 33), .inr (2, ([.ref (u 0), .ref (u 12), .ref (u 19), .int 0, .ref (u 34), .ref (u 35), .ref (u 36), .ref (u 37), .int 0].set 3 (.int 1))))).set 35 ((u 34), .inl (cI, 120, .inl (upd (fun _ => 0) (0 : Int32).toNatClampNeg 10)))).set 36 ((u 35), .inl (cI, 120, .inl (upd (fun _ => 0) (0 : Int32).toNatClampNeg 0)))).set 37 ((u 36), .inl (cI, 120, .inl (upd (fun _ => 0) (0 : Int32).toNatClampNeg (-1))))) sz)) (nQv (va_A (((((((xW o u cI cZ cJ).set 0 (o, .inr (8, ((xF u).set 9 (.int 0))))).set 32 ((u 31), .inl (cZ, 10, .inl (upd (upd (upd (upd (upd (upd (upd (upd (upd (upd (fun _ => 0) (0 : Int32).toNatClampNeg 0) (1 : Int32).toNatClampNeg 0) (2 : Int32).toNatClampNeg 0) (3 : Int32).toNatClampNeg 0) (4 : Int32).toNatClampNeg 0) (5 : Int32).toNatClampNeg 0) (6 : Int32).toNatClampNeg 0) (7 : Int32).toNatClampNeg 0) (8 : Int32).toNatClampNeg 0) (9 : Int32).toNatClampNeg 0)))).set 34 ((u 33), .inr (2, ([.ref (u 0), .ref (u 12), .ref (u 19), .int 0, .ref (u 34), .ref (u 35), .ref (u 36), .ref (u 37), .int 0].set 3 (.int 1))))).set 35 ((u 34), .inl (cI, 120, .inl (upd (fun _ => 0) (0 : Int32).toNatClampNeg 10)))).set 36 ((u 35), .inl (cI, 120, .inl (upd (fun _ => 0) (0 : Int32).toNatClampNeg 0)))).set 37 ((u 36), .inl (cI, 120, .inl (upd (fun _ => 0) (0 : Int32).toNatClampNeg (-1))))) sz)) (wX "java/lang/IllegalArgumentException" D (((((((xW o u cI cZ cJ).set 0 (o, .inr (8, ((xF u).set 9 (.int 0))))).set 32 ((u 31), .inl (cZ, 10, .inl (upd (upd (upd (upd (upd (upd (upd (upd (upd (upd (fun _ => 0) (0 : Int32).toNatClampNeg 0) (1 : Int32).toNatClampNeg 0) (2 : Int32).toNatClampNeg 0) (3 : Int32).toNatClampNeg 0) (4 : Int32).toNatClampNeg 0) (5 : Int32).toNatClampNeg 0) (6 : Int32).toNatClampNeg 0) (7 : Int32).toNatClampNeg 0) (8 : Int32).toNatClampNeg 0) (9 : Int32).toNatClampNeg 0)))).set 34 ((u 33), .inr (2, ([.ref (u 0), .ref (u 12), .ref (u 19), .int 0, .ref (u 34), .ref (u 35), .ref (u 36), .ref (u 37), .int 0].set 3 (.int 1))))).set 35 ((u 34), .inl (cI, 120, .inl (upd (fun _ => 0) (0 : Int32).toNatClampNeg 10)))).set 36 ((u 35), .inl (cI, 120, .inl (upd (fun _ => 0) (0 : Int32).toNatClampNeg 0)))).set 37 ((u 36), .inl (cI, 120, .inl (upd (fun _ => 0) (0 : Int32).toNatClampNeg (-1))))) (va_A (((((((xW o u cI cZ cJ).set 0 (o, .inr (8, ((xF u).set 9 (.int 0))))).set 32 ((u 31), .inl (cZ, 10, .inl (upd (upd (upd (upd (upd (upd (upd (upd (upd (upd (fun _ => 0) (0 : Int32).toNatClampNeg 0) (1 : Int32).toNatClampNeg 0) (2 : Int32).toNatClampNeg 0) (3 : Int32).toNatClampNeg 0) (4 : Int32).toNatClampNeg 0) (5 : Int32).toNatClampNeg 0) (6 : Int32).toNatClampNeg 0) (7 : Int32).toNatClampNeg 0) (8 : Int32).toNatClampNeg 0) (9 : Int32).toNatClampNeg 0)))).set 34 ((u 33), .inr (2, ([.ref (u 0), .ref (u 12), .ref (u 19), .int 0, .ref (u 34), .ref (u 35), .ref (u 36), .ref (u 37), .int 0].set 3 (.int 1))))).set 35 ((u 34), .inl (cI, 120, .inl (upd (fun _ => 0) (0 : Int32).toNatClampNeg 10)))).set 36 ((u 35), .inl (cI, 120, .inl (upd (fun _ => 0) (0 : Int32).toNatClampNeg 0)))).set 37 ((u 36), .inl (cI, 120, .inl (upd (fun _ => 0) (0 : Int32).toNatClampNeg (-1))))) sz)) 1 6 (va_A (((((((xW o u cI cZ cJ).set 0 (o, .inr (8, ((xF u).set 9 (.int 0))))).set 32 ((u 31), .inl (cZ, 10, .inl (upd (upd (upd (upd (upd (upd (upd (upd (upd (upd (fun _ => 0) (0 : Int32).toNatClampNeg 0) (1 : Int32).toNatClampNeg 0) (2 : Int32).toNatClampNeg 0) (3 : Int32).toNatClampNeg 0) (4 : Int32).toNatClampNeg 0) (5 : Int32).toNatClampNeg 0) (6 : Int32).toNatClampNeg 0) (7 : Int32).toNatClampNeg 0) (8 : Int32).toNatClampNeg 0) (9 : Int32).toNatClampNeg 0)))).set 34 ((u 33), .inr (2, ([.ref (u 0), .ref (u 12), .ref (u 19), .int 0, .ref (u 34), .ref (u 35), .ref (u 36), .ref (u 37), .int 0].set 3 (.int 1))))).set 35 ((u 34), .inl (cI, 120, .inl (upd (fun _ => 0) (0 : Int32).toNatClampNeg 10)))).set 36 ((u 35), .inl (cI, 120, .inl (upd (fun _ => 0) (0 : Int32).toNatClampNeg 0)))).set 37 ((u 36), .inl (cI, 120, .inl (upd (fun _ => 0) (0 : Int32).toNatClampNeg (-1))))) sz) := by
  refine xStart (lv := [(0, .int 0)]) (Qc := fun A => nQv A) (XC := fun A => wX "java/lang/IllegalArgumentException" D (((((((xW o u cI cZ cJ).set 0 (o, .inr (8, ((xF u).set 9 (.int 0))))).set 32 ((u 31), .inl (cZ, 10, .inl (upd (upd (upd (upd (upd (upd (upd (upd (upd (upd (fun _ => 0) (0 : Int32).toNatClampNeg 0) (1 : Int32).toNatClampNeg 0) (2 : Int32).toNatClampNeg 0) (3 : Int32).toNatClampNeg 0) (4 : Int32).toNatClampNeg 0) (5 : Int32).toNatClampNeg 0) (6 : Int32).toNatClampNeg 0) (7 : Int32).toNatClampNeg 0) (8 : Int32).toNatClampNeg 0) (9 : Int32).toNatClampNeg 0)))).set 34 ((u 33), .inr (2, ([.ref (u 0), .ref (u 12), .ref (u 19), .int 0, .ref (u 34), .ref (u 35), .ref (u 36), .ref (u 37), .int 0].set 3 (.int 1))))).set 35 ((u 34), .inl (cI, 120, .inl (upd (fun _ => 0) (0 : Int32).toNatClampNeg 10)))).set 36 ((u 35), .inl (cI, 120, .inl (upd (fun _ => 0) (0 : Int32).toNatClampNeg 0)))).set 37 ((u 36), .inl (cI, 120, .inl (upd (fun _ => 0) (0 : Int32).toNatClampNeg (-1))))) A) (by decide) (Nat.le_of_ble_eq_true rfl) rfl ?_
  intro p e s m args below meth c ls A H S hr hlocks hnm hl hK hP hD hS hA hB hnt
  have hx := S.1
  have hb := S.2.1
  refine lv_iload_n hx hb dX8_needArgument_0 rfl (lv_at hl 0 rfl) ?_
  refine lv_if_ne (tgt := 15) hx hb dX8_needArgument_1 (by decide) (fun c => absurd c (by decide)) (fun _ => ?_)
  exact vx_throwSW (names := ["java/lang/RuntimeException", "java/lang/Exception"]) hx hb hst S.2.2.2.1 rfl (by decide) (S.2.2.2.2 _ kw_4_7) (S.2.2.2.2 _ kw_1_16) hB.k0 (vx_hat (fun w h => S.2.2.2.2 _ (atS_1 w h)) atB_1 (vx_c (va_Nw.use rfl hB.c1) (vx_c (va_Nw.use rfl hB.d0) (vx_c (va_Nw.use rfl hB.d1) (vx_c (va_Nw.use rfl hB.d2) vx_n))))) atO_1 hB.xU hB.xN hS (hl.1.trans S.2.2.1.symm) dX8_needArgument_4 dX8_needArgument_7 dX8_needArgument_8 dX8_needArgument_11 dX8_needArgument_14 (fun x hx => (hnt x hx).elim) (Nat.le_of_ble_eq_true rfl) (Nat.le_of_ble_eq_true rfl) (Nat.le_of_ble_eq_true rfl) (Nat.le_of_ble_eq_true rfl) hlocks (fun t _ hz hq => xThrown hP hD hS hz hq) hS.2.2 (Nat.le_of_ble_eq_true rfl) (Nat.le_of_ble_eq_true rfl)

set_option maxHeartbeats 8000000 in
set_option maxRecDepth 100000 in
theorem c_X8_needArgument_3 (l : Launch) (D : va_G) (cI cZ cJ : ClassId) (o : Nat) (u : Nat → Nat) (ra ga : Nat → Nat) (sz : Nat) : Met l yX8_needArgument (uW yX8_needArgument cX8_needArgument 1 none) ({ frames := 0, cells := 0, slots := 0, locals := 0 }) (va_Pc [.int 1] (aS ra ga D (tyL cI cZ cJ) (((((((xW o u cI cZ cJ).set 0 (o, .inr (8, ((xF u).set 9 (.int 0))))).set 32 ((u 31), .inl (cZ, 10, .inl (upd (upd (upd (upd (upd (upd (upd (upd (upd (upd (fun _ => 0) (0 : Int32).toNatClampNeg 0) (1 : Int32).toNatClampNeg 0) (2 : Int32).toNatClampNeg 0) (3 : Int32).toNatClampNeg 0) (4 : Int32).toNatClampNeg 0) (5 : Int32).toNatClampNeg 0) (6 : Int32).toNatClampNeg 0) (7 : Int32).toNatClampNeg 0) (8 : Int32).toNatClampNeg 0) (9 : Int32).toNatClampNeg 0)))).set 34 ((u 33), .inr (2, ([.ref (u 0), .ref (u 12), .ref (u 19), .int 0, .ref (u 34), .ref (u 35), .ref (u 36), .ref (u 37), .int 0].set 3 (.int 1))))).set 35 ((u 34), .inl (cI, 120, .inl (upd (fun _ => 0) (0 : Int32).toNatClampNeg 10)))).set 36 ((u 35), .inl (cI, 120, .inl (upd (fun _ => 0) (0 : Int32).toNatClampNeg 0)))).set 37 ((u 36), .inl (cI, 120, .inl (upd (fun _ => 0) (0 : Int32).toNatClampNeg (-1))))) sz)) (wQv D (((((((xW o u cI cZ cJ).set 0 (o, .inr (8, ((xF u).set 9 (.int 0))))).set 32 ((u 31), .inl (cZ, 10, .inl (upd (upd (upd (upd (upd (upd (upd (upd (upd (upd (fun _ => 0) (0 : Int32).toNatClampNeg 0) (1 : Int32).toNatClampNeg 0) (2 : Int32).toNatClampNeg 0) (3 : Int32).toNatClampNeg 0) (4 : Int32).toNatClampNeg 0) (5 : Int32).toNatClampNeg 0) (6 : Int32).toNatClampNeg 0) (7 : Int32).toNatClampNeg 0) (8 : Int32).toNatClampNeg 0) (9 : Int32).toNatClampNeg 0)))).set 34 ((u 33), .inr (2, ([.ref (u 0), .ref (u 12), .ref (u 19), .int 0, .ref (u 34), .ref (u 35), .ref (u 36), .ref (u 37), .int 0].set 3 (.int 1))))).set 35 ((u 34), .inl (cI, 120, .inl (upd (fun _ => 0) (0 : Int32).toNatClampNeg 10)))).set 36 ((u 35), .inl (cI, 120, .inl (upd (fun _ => 0) (0 : Int32).toNatClampNeg 0)))).set 37 ((u 36), .inl (cI, 120, .inl (upd (fun _ => 0) (0 : Int32).toNatClampNeg (-1))))) (va_A (((((((xW o u cI cZ cJ).set 0 (o, .inr (8, ((xF u).set 9 (.int 0))))).set 32 ((u 31), .inl (cZ, 10, .inl (upd (upd (upd (upd (upd (upd (upd (upd (upd (upd (fun _ => 0) (0 : Int32).toNatClampNeg 0) (1 : Int32).toNatClampNeg 0) (2 : Int32).toNatClampNeg 0) (3 : Int32).toNatClampNeg 0) (4 : Int32).toNatClampNeg 0) (5 : Int32).toNatClampNeg 0) (6 : Int32).toNatClampNeg 0) (7 : Int32).toNatClampNeg 0) (8 : Int32).toNatClampNeg 0) (9 : Int32).toNatClampNeg 0)))).set 34 ((u 33), .inr (2, ([.ref (u 0), .ref (u 12), .ref (u 19), .int 0, .ref (u 34), .ref (u 35), .ref (u 36), .ref (u 37), .int 0].set 3 (.int 1))))).set 35 ((u 34), .inl (cI, 120, .inl (upd (fun _ => 0) (0 : Int32).toNatClampNeg 10)))).set 36 ((u 35), .inl (cI, 120, .inl (upd (fun _ => 0) (0 : Int32).toNatClampNeg 0)))).set 37 ((u 36), .inl (cI, 120, .inl (upd (fun _ => 0) (0 : Int32).toNatClampNeg (-1))))) sz)) 0 0 (va_A (((((((xW o u cI cZ cJ).set 0 (o, .inr (8, ((xF u).set 9 (.int 0))))).set 32 ((u 31), .inl (cZ, 10, .inl (upd (upd (upd (upd (upd (upd (upd (upd (upd (upd (fun _ => 0) (0 : Int32).toNatClampNeg 0) (1 : Int32).toNatClampNeg 0) (2 : Int32).toNatClampNeg 0) (3 : Int32).toNatClampNeg 0) (4 : Int32).toNatClampNeg 0) (5 : Int32).toNatClampNeg 0) (6 : Int32).toNatClampNeg 0) (7 : Int32).toNatClampNeg 0) (8 : Int32).toNatClampNeg 0) (9 : Int32).toNatClampNeg 0)))).set 34 ((u 33), .inr (2, ([.ref (u 0), .ref (u 12), .ref (u 19), .int 0, .ref (u 34), .ref (u 35), .ref (u 36), .ref (u 37), .int 0].set 3 (.int 1))))).set 35 ((u 34), .inl (cI, 120, .inl (upd (fun _ => 0) (0 : Int32).toNatClampNeg 10)))).set 36 ((u 35), .inl (cI, 120, .inl (upd (fun _ => 0) (0 : Int32).toNatClampNeg 0)))).set 37 ((u 36), .inl (cI, 120, .inl (upd (fun _ => 0) (0 : Int32).toNatClampNeg (-1))))) sz) := by
  refine aStart (lv := [(0, .int 1)]) (Qc := fun A => wQv D (((((((xW o u cI cZ cJ).set 0 (o, .inr (8, ((xF u).set 9 (.int 0))))).set 32 ((u 31), .inl (cZ, 10, .inl (upd (upd (upd (upd (upd (upd (upd (upd (upd (upd (fun _ => 0) (0 : Int32).toNatClampNeg 0) (1 : Int32).toNatClampNeg 0) (2 : Int32).toNatClampNeg 0) (3 : Int32).toNatClampNeg 0) (4 : Int32).toNatClampNeg 0) (5 : Int32).toNatClampNeg 0) (6 : Int32).toNatClampNeg 0) (7 : Int32).toNatClampNeg 0) (8 : Int32).toNatClampNeg 0) (9 : Int32).toNatClampNeg 0)))).set 34 ((u 33), .inr (2, ([.ref (u 0), .ref (u 12), .ref (u 19), .int 0, .ref (u 34), .ref (u 35), .ref (u 36), .ref (u 37), .int 0].set 3 (.int 1))))).set 35 ((u 34), .inl (cI, 120, .inl (upd (fun _ => 0) (0 : Int32).toNatClampNeg 10)))).set 36 ((u 35), .inl (cI, 120, .inl (upd (fun _ => 0) (0 : Int32).toNatClampNeg 0)))).set 37 ((u 36), .inl (cI, 120, .inl (upd (fun _ => 0) (0 : Int32).toNatClampNeg (-1))))) A) (by decide) (Nat.le_of_ble_eq_true rfl) rfl ?_
  intro p e s m args below meth c ls A H S hr hlocks hnm hl hK hP hD hS hA hB
  have hx := S.1
  have hb := S.2.1
  refine lv_iload_n hx hb dX8_needArgument_0 rfl (lv_at hl 0 rfl) ?_
  refine lv_if_ne (tgt := 15) hx hb dX8_needArgument_1 (by decide) (fun _ => ?_) (fun c => absurd c (by decide))
  exact wEndv S hr hlocks hP hD hS (Nat.le_of_ble_eq_true rfl) (Nat.le_of_ble_eq_true rfl) dX8_needArgument_15

set_option maxHeartbeats 8000000 in
set_option maxRecDepth 100000 in
theorem c_X8_fault_0 (l : Launch) (D : va_G) (cI cZ cJ : ClassId) (o : Nat) (u : Nat → Nat) (hst : l.stackTraces = false) (ra ga : Nat → Nat) (sz : Nat) (x1 : Int32) (hi_x1 : x1 ≤ (-1)) : vx_Met l yX8_fault (uW yX8_fault cX8_fault 3 (some .int)) ({ frames := 7, cells := 1, slots := 6, locals := 102 }) (va_Pc [.ref o, .int x1, .int 0] (aS ra ga D (tyL cI cZ cJ) (xW o u cI cZ cJ) sz)) (nQi (va_A (xW o u cI cZ cJ) sz)) (wX "java/lang/IndexOutOfBoundsException" D (((((((xW o u cI cZ cJ).set 0 (o, .inr (8, ((xF u).set 9 (.int 0))))).set 32 ((u 31), .inl (cZ, 10, .inl (upd (upd (upd (upd (upd (upd (upd (upd (upd (upd (fun _ => 0) (0 : Int32).toNatClampNeg 0) (1 : Int32).toNatClampNeg 0) (2 : Int32).toNatClampNeg 0) (3 : Int32).toNatClampNeg 0) (4 : Int32).toNatClampNeg 0) (5 : Int32).toNatClampNeg 0) (6 : Int32).toNatClampNeg 0) (7 : Int32).toNatClampNeg 0) (8 : Int32).toNatClampNeg 0) (9 : Int32).toNatClampNeg 0)))).set 34 ((u 33), .inr (2, ([.ref (u 0), .ref (u 12), .ref (u 19), .int 0, .ref (u 34), .ref (u 35), .ref (u 36), .ref (u 37), .int 0].set 3 (.int 1))))).set 35 ((u 34), .inl (cI, 120, .inl (upd (fun _ => 0) (0 : Int32).toNatClampNeg 10)))).set 36 ((u 35), .inl (cI, 120, .inl (upd (fun _ => 0) (0 : Int32).toNatClampNeg 0)))).set 37 ((u 36), .inl (cI, 120, .inl (upd (fun _ => 0) (0 : Int32).toNatClampNeg (-1))))) (va_A (xW o u cI cZ cJ) sz)) 1 6 (va_A (xW o u cI cZ cJ) sz) := by
  refine xStart (lv := [(0, .ref o), (1, .int x1), (2, .int 0)]) (Qc := fun A => nQi A) (XC := fun A => wX "java/lang/IndexOutOfBoundsException" D (((((((xW o u cI cZ cJ).set 0 (o, .inr (8, ((xF u).set 9 (.int 0))))).set 32 ((u 31), .inl (cZ, 10, .inl (upd (upd (upd (upd (upd (upd (upd (upd (upd (upd (fun _ => 0) (0 : Int32).toNatClampNeg 0) (1 : Int32).toNatClampNeg 0) (2 : Int32).toNatClampNeg 0) (3 : Int32).toNatClampNeg 0) (4 : Int32).toNatClampNeg 0) (5 : Int32).toNatClampNeg 0) (6 : Int32).toNatClampNeg 0) (7 : Int32).toNatClampNeg 0) (8 : Int32).toNatClampNeg 0) (9 : Int32).toNatClampNeg 0)))).set 34 ((u 33), .inr (2, ([.ref (u 0), .ref (u 12), .ref (u 19), .int 0, .ref (u 34), .ref (u 35), .ref (u 36), .ref (u 37), .int 0].set 3 (.int 1))))).set 35 ((u 34), .inl (cI, 120, .inl (upd (fun _ => 0) (0 : Int32).toNatClampNeg 10)))).set 36 ((u 35), .inl (cI, 120, .inl (upd (fun _ => 0) (0 : Int32).toNatClampNeg 0)))).set 37 ((u 36), .inl (cI, 120, .inl (upd (fun _ => 0) (0 : Int32).toNatClampNeg (-1))))) A) (by decide) (Nat.le_of_ble_eq_true rfl) rfl ?_
  intro p e s m args below meth c ls A H S hr hlocks hnm hl hK hP hD hS hA hB hnt
  have hx := S.1
  have hb := S.2.1
  refine lv_aload_n hx hb dX8_fault_0 rfl (lv_at hl 0 rfl) ?_
  refine aVv (As := []) (ci := 8) S (c_X8_refresh_0 l D cI cZ cJ o u ra ga H.size) mi_X8_refresh kw_3_71 rfl rfl ⟨Nat.le_of_ble_eq_true rfl, Nat.le_of_ble_eq_true rfl⟩ hP hD hK hS hA hB xW_0 rfl rfl hl.1 (Nat.le_of_ble_eq_true rfl) ⟨Nat.le_of_ble_eq_true rfl, Nat.le_of_ble_eq_true rfl⟩ dX8_fault_1 (fun H locs hz hP hD hS => ?_)
  refine lv_iload_n hx hb dX8_fault_4 rfl (lv_at hl 1 rfl) ?_
  refine lv_if_lt (tgt := 23) hx hb dX8_fault_5 (by decide) (fun _ => ?_) (fun c => absurd (b_lt hi_x1 (by decide)) c)
  refine lv_iconst (v := 0) hx hb dX8_fault_23 (by decide) ?_
  exact tSv (As := [.int 0]) S (c_X8_needPlace_0 l D cI cZ cJ o u hst ra ga H.size) ms_X8_needPlace kw_4_210 rfl rfl ⟨Nat.le_of_ble_eq_true rfl, Nat.le_of_ble_eq_true rfl⟩ hP hD hK hS hA hB hl.1 (Nat.le_of_ble_eq_true rfl) ⟨Nat.le_of_ble_eq_true rfl, Nat.le_of_ble_eq_true rfl⟩ dX8_fault_24 hnt hlocks (Nat.le_of_ble_eq_true rfl) (Nat.le_of_ble_eq_true rfl)

set_option maxHeartbeats 8000000 in
set_option maxRecDepth 100000 in
theorem c_X8_fault_1 (l : Launch) (D : va_G) (cI cZ cJ : ClassId) (o : Nat) (u : Nat → Nat) (hst : l.stackTraces = false) (ra ga : Nat → Nat) (sz : Nat) (x1 : Int32) (lo_x1 : 1 ≤ x1) : vx_Met l yX8_fault (uW yX8_fault cX8_fault 3 (some .int)) ({ frames := 7, cells := 1, slots := 6, locals := 102 }) (va_Pc [.ref o, .int x1, .int 0] (aS ra ga D (tyL cI cZ cJ) (xW o u cI cZ cJ) sz)) (nQi (va_A (xW o u cI cZ cJ) sz)) (wX "java/lang/IndexOutOfBoundsException" D (((((((xW o u cI cZ cJ).set 0 (o, .inr (8, ((xF u).set 9 (.int 0))))).set 32 ((u 31), .inl (cZ, 10, .inl (upd (upd (upd (upd (upd (upd (upd (upd (upd (upd (fun _ => 0) (0 : Int32).toNatClampNeg 0) (1 : Int32).toNatClampNeg 0) (2 : Int32).toNatClampNeg 0) (3 : Int32).toNatClampNeg 0) (4 : Int32).toNatClampNeg 0) (5 : Int32).toNatClampNeg 0) (6 : Int32).toNatClampNeg 0) (7 : Int32).toNatClampNeg 0) (8 : Int32).toNatClampNeg 0) (9 : Int32).toNatClampNeg 0)))).set 34 ((u 33), .inr (2, ([.ref (u 0), .ref (u 12), .ref (u 19), .int 0, .ref (u 34), .ref (u 35), .ref (u 36), .ref (u 37), .int 0].set 3 (.int 1))))).set 35 ((u 34), .inl (cI, 120, .inl (upd (fun _ => 0) (0 : Int32).toNatClampNeg 10)))).set 36 ((u 35), .inl (cI, 120, .inl (upd (fun _ => 0) (0 : Int32).toNatClampNeg 0)))).set 37 ((u 36), .inl (cI, 120, .inl (upd (fun _ => 0) (0 : Int32).toNatClampNeg (-1))))) (va_A (xW o u cI cZ cJ) sz)) 1 6 (va_A (xW o u cI cZ cJ) sz) := by
  refine xStart (lv := [(0, .ref o), (1, .int x1), (2, .int 0)]) (Qc := fun A => nQi A) (XC := fun A => wX "java/lang/IndexOutOfBoundsException" D (((((((xW o u cI cZ cJ).set 0 (o, .inr (8, ((xF u).set 9 (.int 0))))).set 32 ((u 31), .inl (cZ, 10, .inl (upd (upd (upd (upd (upd (upd (upd (upd (upd (upd (fun _ => 0) (0 : Int32).toNatClampNeg 0) (1 : Int32).toNatClampNeg 0) (2 : Int32).toNatClampNeg 0) (3 : Int32).toNatClampNeg 0) (4 : Int32).toNatClampNeg 0) (5 : Int32).toNatClampNeg 0) (6 : Int32).toNatClampNeg 0) (7 : Int32).toNatClampNeg 0) (8 : Int32).toNatClampNeg 0) (9 : Int32).toNatClampNeg 0)))).set 34 ((u 33), .inr (2, ([.ref (u 0), .ref (u 12), .ref (u 19), .int 0, .ref (u 34), .ref (u 35), .ref (u 36), .ref (u 37), .int 0].set 3 (.int 1))))).set 35 ((u 34), .inl (cI, 120, .inl (upd (fun _ => 0) (0 : Int32).toNatClampNeg 10)))).set 36 ((u 35), .inl (cI, 120, .inl (upd (fun _ => 0) (0 : Int32).toNatClampNeg 0)))).set 37 ((u 36), .inl (cI, 120, .inl (upd (fun _ => 0) (0 : Int32).toNatClampNeg (-1))))) A) (by decide) (Nat.le_of_ble_eq_true rfl) rfl ?_
  intro p e s m args below meth c ls A H S hr hlocks hnm hl hK hP hD hS hA hB hnt
  have hx := S.1
  have hb := S.2.1
  refine lv_aload_n hx hb dX8_fault_0 rfl (lv_at hl 0 rfl) ?_
  refine aVv (As := []) (ci := 8) S (c_X8_refresh_0 l D cI cZ cJ o u ra ga H.size) mi_X8_refresh kw_3_71 rfl rfl ⟨Nat.le_of_ble_eq_true rfl, Nat.le_of_ble_eq_true rfl⟩ hP hD hK hS hA hB xW_0 rfl rfl hl.1 (Nat.le_of_ble_eq_true rfl) ⟨Nat.le_of_ble_eq_true rfl, Nat.le_of_ble_eq_true rfl⟩ dX8_fault_1 (fun H locs hz hP hD hS => ?_)
  refine lv_iload_n hx hb dX8_fault_4 rfl (lv_at hl 1 rfl) ?_
  refine lv_if_lt (tgt := 23) hx hb dX8_fault_5 (by decide) (fun c => absurd c (b_nlt lo_x1 (by decide))) (fun _ => ?_)
  refine lv_iload_n hx hb dX8_fault_8 rfl (lv_at hl 1 rfl) ?_
  refine lv_aload_n hx hb dX8_fault_9 rfl (lv_at hl 0 rfl) ?_
  refine xg (ci := 8) S inX8 rfl hK hP (q0 := 0) rfl 3 (by decide) rfl kw_3_23 rfl dX8_fault_10 ?_
  refine xg (ci := 2) S inX2 rfl hK hP (q0 := 34) rfl 3 (by decide) rfl kw_2_14 rfl dX8_fault_13 ?_
  refine lv_icmp_ge (tgt := 23) hx hb dX8_fault_16 (by decide) (fun _ => ?_) (fun c => absurd (b_ge lo_x1 (by decide)) c)
  refine lv_iconst (v := 0) hx hb dX8_fault_23 (by decide) ?_
  exact tSv (As := [.int 0]) S (c_X8_needPlace_0 l D cI cZ cJ o u hst ra ga H.size) ms_X8_needPlace kw_4_210 rfl rfl ⟨Nat.le_of_ble_eq_true rfl, Nat.le_of_ble_eq_true rfl⟩ hP hD hK hS hA hB hl.1 (Nat.le_of_ble_eq_true rfl) ⟨Nat.le_of_ble_eq_true rfl, Nat.le_of_ble_eq_true rfl⟩ dX8_fault_24 hnt hlocks (Nat.le_of_ble_eq_true rfl) (Nat.le_of_ble_eq_true rfl)

set_option maxHeartbeats 8000000 in
set_option maxRecDepth 100000 in
theorem c_X8_fault_2 (l : Launch) (D : va_G) (cI cZ cJ : ClassId) (o : Nat) (u : Nat → Nat) (ra ga : Nat → Nat) (sz : Nat) : Met l yX8_fault (uW yX8_fault cX8_fault 3 (some .int)) ({ frames := 4, cells := 0, slots := 0, locals := 85 }) (va_Pc [.ref o, .int 0, .int 0] (aS ra ga D (tyL cI cZ cJ) (xW o u cI cZ cJ) sz)) (wQi (10) D (((((((xW o u cI cZ cJ).set 0 (o, .inr (8, ((xF u).set 9 (.int 0))))).set 32 ((u 31), .inl (cZ, 10, .inl (upd (upd (upd (upd (upd (upd (upd (upd (upd (upd (fun _ => 0) (0 : Int32).toNatClampNeg 0) (1 : Int32).toNatClampNeg 0) (2 : Int32).toNatClampNeg 0) (3 : Int32).toNatClampNeg 0) (4 : Int32).toNatClampNeg 0) (5 : Int32).toNatClampNeg 0) (6 : Int32).toNatClampNeg 0) (7 : Int32).toNatClampNeg 0) (8 : Int32).toNatClampNeg 0) (9 : Int32).toNatClampNeg 0)))).set 34 ((u 33), .inr (2, ([.ref (u 0), .ref (u 12), .ref (u 19), .int 0, .ref (u 34), .ref (u 35), .ref (u 36), .ref (u 37), .int 0].set 3 (.int 1))))).set 35 ((u 34), .inl (cI, 120, .inl (upd (fun _ => 0) (0 : Int32).toNatClampNeg 10)))).set 36 ((u 35), .inl (cI, 120, .inl (upd (fun _ => 0) (0 : Int32).toNatClampNeg 0)))).set 37 ((u 36), .inl (cI, 120, .inl (upd (fun _ => 0) (0 : Int32).toNatClampNeg (-1))))) (va_A (xW o u cI cZ cJ) sz)) 0 0 (va_A (xW o u cI cZ cJ) sz) := by
  refine aStart (lv := [(0, .ref o), (1, .int 0), (2, .int 0)]) (Qc := fun A => wQi (10) D (((((((xW o u cI cZ cJ).set 0 (o, .inr (8, ((xF u).set 9 (.int 0))))).set 32 ((u 31), .inl (cZ, 10, .inl (upd (upd (upd (upd (upd (upd (upd (upd (upd (upd (fun _ => 0) (0 : Int32).toNatClampNeg 0) (1 : Int32).toNatClampNeg 0) (2 : Int32).toNatClampNeg 0) (3 : Int32).toNatClampNeg 0) (4 : Int32).toNatClampNeg 0) (5 : Int32).toNatClampNeg 0) (6 : Int32).toNatClampNeg 0) (7 : Int32).toNatClampNeg 0) (8 : Int32).toNatClampNeg 0) (9 : Int32).toNatClampNeg 0)))).set 34 ((u 33), .inr (2, ([.ref (u 0), .ref (u 12), .ref (u 19), .int 0, .ref (u 34), .ref (u 35), .ref (u 36), .ref (u 37), .int 0].set 3 (.int 1))))).set 35 ((u 34), .inl (cI, 120, .inl (upd (fun _ => 0) (0 : Int32).toNatClampNeg 10)))).set 36 ((u 35), .inl (cI, 120, .inl (upd (fun _ => 0) (0 : Int32).toNatClampNeg 0)))).set 37 ((u 36), .inl (cI, 120, .inl (upd (fun _ => 0) (0 : Int32).toNatClampNeg (-1))))) A) (by decide) (Nat.le_of_ble_eq_true rfl) rfl ?_
  intro p e s m args below meth c ls A H S hr hlocks hnm hl hK hP hD hS hA hB
  have hx := S.1
  have hb := S.2.1
  refine lv_aload_n hx hb dX8_fault_0 rfl (lv_at hl 0 rfl) ?_
  refine aVv (As := []) (ci := 8) S (c_X8_refresh_0 l D cI cZ cJ o u ra ga H.size) mi_X8_refresh kw_3_71 rfl rfl ⟨Nat.le_of_ble_eq_true rfl, Nat.le_of_ble_eq_true rfl⟩ hP hD hK hS hA hB xW_0 rfl rfl hl.1 (Nat.le_of_ble_eq_true rfl) ⟨Nat.le_of_ble_eq_true rfl, Nat.le_of_ble_eq_true rfl⟩ dX8_fault_1 (fun H locs hz hP hD hS => ?_)
  refine lv_iload_n hx hb dX8_fault_4 rfl (lv_at hl 1 rfl) ?_
  refine lv_if_lt (tgt := 23) hx hb dX8_fault_5 (by decide) (fun c => absurd c (by decide)) (fun _ => ?_)
  refine lv_iload_n hx hb dX8_fault_8 rfl (lv_at hl 1 rfl) ?_
  refine lv_aload_n hx hb dX8_fault_9 rfl (lv_at hl 0 rfl) ?_
  refine xg (ci := 8) S inX8 rfl hK hP (q0 := 0) rfl 3 (by decide) rfl kw_3_23 rfl dX8_fault_10 ?_
  refine xg (ci := 2) S inX2 rfl hK hP (q0 := 34) rfl 3 (by decide) rfl kw_2_14 rfl dX8_fault_13 ?_
  refine lv_icmp_ge (tgt := 23) hx hb dX8_fault_16 (by decide) (fun c => absurd c (by decide)) (fun _ => ?_)
  refine lv_iconst (v := 1) hx hb dX8_fault_19 (by decide) ?_
  refine lv_goto (tgt := 24) hx hb dX8_fault_20 (by decide) ?_
  refine aSv (As := [.int 1]) S (c_X8_needPlace_1 l D cI cZ cJ o u ra ga H.size) ms_X8_needPlace kw_4_210 rfl rfl ⟨Nat.le_of_ble_eq_true rfl, Nat.le_of_ble_eq_true rfl⟩ hP hD hK hS hA hB hl.1 (Nat.le_of_ble_eq_true rfl) ⟨Nat.le_of_ble_eq_true rfl, Nat.le_of_ble_eq_true rfl⟩ dX8_fault_24 (fun H locs hz hP hD hS => ?_)
  refine lv_iload_n hx hb dX8_fault_27 rfl (lv_at hl 2 rfl) ?_
  refine lv_if_lt (tgt := 40) hx hb dX8_fault_28 (by decide) (fun c => absurd c (by decide)) (fun _ => ?_)
  refine lv_iload_n hx hb dX8_fault_31 rfl (lv_at hl 2 rfl) ?_
  refine lv_iconst (v := 2) hx hb dX8_fault_32 (by decide) ?_
  refine lv_icmp_gt (tgt := 40) hx hb dX8_fault_33 (by decide) (fun c => absurd c (by decide)) (fun _ => ?_)
  refine lv_iconst (v := 1) hx hb dX8_fault_36 (by decide) ?_
  refine lv_goto (tgt := 41) hx hb dX8_fault_37 (by decide) ?_
  refine aSv (As := [.int 1]) S (c_X8_needArgument_3 l D cI cZ cJ o u ra ga H.size) ms_X8_needArgument kw_4_4 rfl rfl ⟨Nat.le_of_ble_eq_true rfl, Nat.le_of_ble_eq_true rfl⟩ hP hD hK hS hA hB hl.1 (Nat.le_of_ble_eq_true rfl) ⟨Nat.le_of_ble_eq_true rfl, Nat.le_of_ble_eq_true rfl⟩ dX8_fault_41 (fun H locs hz hP hD hS => ?_)
  refine lv_iload_n hx hb dX8_fault_44 rfl (lv_at hl 2 rfl) ?_
  refine lv_lookup (off := 27) (tgt := 72) hx hb dX8_fault_45 (by decide) (by decide) (by decide) ?_
  refine lv_aload_n hx hb dX8_fault_72 rfl (lv_at hl 0 rfl) ?_
  refine xg (ci := 8) S inX8 rfl hK hP (q0 := 0) rfl 3 (by decide) rfl kw_3_23 rfl dX8_fault_73 ?_
  refine xg (ci := 2) S inX2 rfl hK hP (q0 := 34) rfl 4 (by decide) rfl kw_2_16 rfl dX8_fault_76 ?_
  refine lv_iload_n hx hb dX8_fault_79 rfl (lv_at hl 1 rfl) ?_
  refine xiald (t0 := 0) (v := 10) S hK hP (q0 := 35) rfl rfl (vin rfl) rfl dX8_fault_80 ?_
  exact wEnd S hr hlocks hP hD hS (Nat.le_of_ble_eq_true rfl) (Nat.le_of_ble_eq_true rfl) dX8_fault_81 rfl

set_option maxHeartbeats 8000000 in
set_option maxRecDepth 100000 in
theorem c_X8_fault_3 (l : Launch) (D : va_G) (cI cZ cJ : ClassId) (o : Nat) (u : Nat → Nat) (hst : l.stackTraces = false) (ra ga : Nat → Nat) (sz : Nat) (x1 : Int32) (hi_x1 : x1 ≤ (-1)) : vx_Met l yX8_fault (uW yX8_fault cX8_fault 3 (some .int)) ({ frames := 7, cells := 1, slots := 6, locals := 102 }) (va_Pc [.ref o, .int x1, .int 1] (aS ra ga D (tyL cI cZ cJ) (xW o u cI cZ cJ) sz)) (nQi (va_A (xW o u cI cZ cJ) sz)) (wX "java/lang/IndexOutOfBoundsException" D (((((((xW o u cI cZ cJ).set 0 (o, .inr (8, ((xF u).set 9 (.int 0))))).set 32 ((u 31), .inl (cZ, 10, .inl (upd (upd (upd (upd (upd (upd (upd (upd (upd (upd (fun _ => 0) (0 : Int32).toNatClampNeg 0) (1 : Int32).toNatClampNeg 0) (2 : Int32).toNatClampNeg 0) (3 : Int32).toNatClampNeg 0) (4 : Int32).toNatClampNeg 0) (5 : Int32).toNatClampNeg 0) (6 : Int32).toNatClampNeg 0) (7 : Int32).toNatClampNeg 0) (8 : Int32).toNatClampNeg 0) (9 : Int32).toNatClampNeg 0)))).set 34 ((u 33), .inr (2, ([.ref (u 0), .ref (u 12), .ref (u 19), .int 0, .ref (u 34), .ref (u 35), .ref (u 36), .ref (u 37), .int 0].set 3 (.int 1))))).set 35 ((u 34), .inl (cI, 120, .inl (upd (fun _ => 0) (0 : Int32).toNatClampNeg 10)))).set 36 ((u 35), .inl (cI, 120, .inl (upd (fun _ => 0) (0 : Int32).toNatClampNeg 0)))).set 37 ((u 36), .inl (cI, 120, .inl (upd (fun _ => 0) (0 : Int32).toNatClampNeg (-1))))) (va_A (xW o u cI cZ cJ) sz)) 1 6 (va_A (xW o u cI cZ cJ) sz) := by
  refine xStart (lv := [(0, .ref o), (1, .int x1), (2, .int 1)]) (Qc := fun A => nQi A) (XC := fun A => wX "java/lang/IndexOutOfBoundsException" D (((((((xW o u cI cZ cJ).set 0 (o, .inr (8, ((xF u).set 9 (.int 0))))).set 32 ((u 31), .inl (cZ, 10, .inl (upd (upd (upd (upd (upd (upd (upd (upd (upd (upd (fun _ => 0) (0 : Int32).toNatClampNeg 0) (1 : Int32).toNatClampNeg 0) (2 : Int32).toNatClampNeg 0) (3 : Int32).toNatClampNeg 0) (4 : Int32).toNatClampNeg 0) (5 : Int32).toNatClampNeg 0) (6 : Int32).toNatClampNeg 0) (7 : Int32).toNatClampNeg 0) (8 : Int32).toNatClampNeg 0) (9 : Int32).toNatClampNeg 0)))).set 34 ((u 33), .inr (2, ([.ref (u 0), .ref (u 12), .ref (u 19), .int 0, .ref (u 34), .ref (u 35), .ref (u 36), .ref (u 37), .int 0].set 3 (.int 1))))).set 35 ((u 34), .inl (cI, 120, .inl (upd (fun _ => 0) (0 : Int32).toNatClampNeg 10)))).set 36 ((u 35), .inl (cI, 120, .inl (upd (fun _ => 0) (0 : Int32).toNatClampNeg 0)))).set 37 ((u 36), .inl (cI, 120, .inl (upd (fun _ => 0) (0 : Int32).toNatClampNeg (-1))))) A) (by decide) (Nat.le_of_ble_eq_true rfl) rfl ?_
  intro p e s m args below meth c ls A H S hr hlocks hnm hl hK hP hD hS hA hB hnt
  have hx := S.1
  have hb := S.2.1
  refine lv_aload_n hx hb dX8_fault_0 rfl (lv_at hl 0 rfl) ?_
  refine aVv (As := []) (ci := 8) S (c_X8_refresh_0 l D cI cZ cJ o u ra ga H.size) mi_X8_refresh kw_3_71 rfl rfl ⟨Nat.le_of_ble_eq_true rfl, Nat.le_of_ble_eq_true rfl⟩ hP hD hK hS hA hB xW_0 rfl rfl hl.1 (Nat.le_of_ble_eq_true rfl) ⟨Nat.le_of_ble_eq_true rfl, Nat.le_of_ble_eq_true rfl⟩ dX8_fault_1 (fun H locs hz hP hD hS => ?_)
  refine lv_iload_n hx hb dX8_fault_4 rfl (lv_at hl 1 rfl) ?_
  refine lv_if_lt (tgt := 23) hx hb dX8_fault_5 (by decide) (fun _ => ?_) (fun c => absurd (b_lt hi_x1 (by decide)) c)
  refine lv_iconst (v := 0) hx hb dX8_fault_23 (by decide) ?_
  exact tSv (As := [.int 0]) S (c_X8_needPlace_0 l D cI cZ cJ o u hst ra ga H.size) ms_X8_needPlace kw_4_210 rfl rfl ⟨Nat.le_of_ble_eq_true rfl, Nat.le_of_ble_eq_true rfl⟩ hP hD hK hS hA hB hl.1 (Nat.le_of_ble_eq_true rfl) ⟨Nat.le_of_ble_eq_true rfl, Nat.le_of_ble_eq_true rfl⟩ dX8_fault_24 hnt hlocks (Nat.le_of_ble_eq_true rfl) (Nat.le_of_ble_eq_true rfl)

set_option maxHeartbeats 8000000 in
set_option maxRecDepth 100000 in
theorem c_X8_fault_4 (l : Launch) (D : va_G) (cI cZ cJ : ClassId) (o : Nat) (u : Nat → Nat) (hst : l.stackTraces = false) (ra ga : Nat → Nat) (sz : Nat) (x1 : Int32) (lo_x1 : 1 ≤ x1) : vx_Met l yX8_fault (uW yX8_fault cX8_fault 3 (some .int)) ({ frames := 7, cells := 1, slots := 6, locals := 102 }) (va_Pc [.ref o, .int x1, .int 1] (aS ra ga D (tyL cI cZ cJ) (xW o u cI cZ cJ) sz)) (nQi (va_A (xW o u cI cZ cJ) sz)) (wX "java/lang/IndexOutOfBoundsException" D (((((((xW o u cI cZ cJ).set 0 (o, .inr (8, ((xF u).set 9 (.int 0))))).set 32 ((u 31), .inl (cZ, 10, .inl (upd (upd (upd (upd (upd (upd (upd (upd (upd (upd (fun _ => 0) (0 : Int32).toNatClampNeg 0) (1 : Int32).toNatClampNeg 0) (2 : Int32).toNatClampNeg 0) (3 : Int32).toNatClampNeg 0) (4 : Int32).toNatClampNeg 0) (5 : Int32).toNatClampNeg 0) (6 : Int32).toNatClampNeg 0) (7 : Int32).toNatClampNeg 0) (8 : Int32).toNatClampNeg 0) (9 : Int32).toNatClampNeg 0)))).set 34 ((u 33), .inr (2, ([.ref (u 0), .ref (u 12), .ref (u 19), .int 0, .ref (u 34), .ref (u 35), .ref (u 36), .ref (u 37), .int 0].set 3 (.int 1))))).set 35 ((u 34), .inl (cI, 120, .inl (upd (fun _ => 0) (0 : Int32).toNatClampNeg 10)))).set 36 ((u 35), .inl (cI, 120, .inl (upd (fun _ => 0) (0 : Int32).toNatClampNeg 0)))).set 37 ((u 36), .inl (cI, 120, .inl (upd (fun _ => 0) (0 : Int32).toNatClampNeg (-1))))) (va_A (xW o u cI cZ cJ) sz)) 1 6 (va_A (xW o u cI cZ cJ) sz) := by
  refine xStart (lv := [(0, .ref o), (1, .int x1), (2, .int 1)]) (Qc := fun A => nQi A) (XC := fun A => wX "java/lang/IndexOutOfBoundsException" D (((((((xW o u cI cZ cJ).set 0 (o, .inr (8, ((xF u).set 9 (.int 0))))).set 32 ((u 31), .inl (cZ, 10, .inl (upd (upd (upd (upd (upd (upd (upd (upd (upd (upd (fun _ => 0) (0 : Int32).toNatClampNeg 0) (1 : Int32).toNatClampNeg 0) (2 : Int32).toNatClampNeg 0) (3 : Int32).toNatClampNeg 0) (4 : Int32).toNatClampNeg 0) (5 : Int32).toNatClampNeg 0) (6 : Int32).toNatClampNeg 0) (7 : Int32).toNatClampNeg 0) (8 : Int32).toNatClampNeg 0) (9 : Int32).toNatClampNeg 0)))).set 34 ((u 33), .inr (2, ([.ref (u 0), .ref (u 12), .ref (u 19), .int 0, .ref (u 34), .ref (u 35), .ref (u 36), .ref (u 37), .int 0].set 3 (.int 1))))).set 35 ((u 34), .inl (cI, 120, .inl (upd (fun _ => 0) (0 : Int32).toNatClampNeg 10)))).set 36 ((u 35), .inl (cI, 120, .inl (upd (fun _ => 0) (0 : Int32).toNatClampNeg 0)))).set 37 ((u 36), .inl (cI, 120, .inl (upd (fun _ => 0) (0 : Int32).toNatClampNeg (-1))))) A) (by decide) (Nat.le_of_ble_eq_true rfl) rfl ?_
  intro p e s m args below meth c ls A H S hr hlocks hnm hl hK hP hD hS hA hB hnt
  have hx := S.1
  have hb := S.2.1
  refine lv_aload_n hx hb dX8_fault_0 rfl (lv_at hl 0 rfl) ?_
  refine aVv (As := []) (ci := 8) S (c_X8_refresh_0 l D cI cZ cJ o u ra ga H.size) mi_X8_refresh kw_3_71 rfl rfl ⟨Nat.le_of_ble_eq_true rfl, Nat.le_of_ble_eq_true rfl⟩ hP hD hK hS hA hB xW_0 rfl rfl hl.1 (Nat.le_of_ble_eq_true rfl) ⟨Nat.le_of_ble_eq_true rfl, Nat.le_of_ble_eq_true rfl⟩ dX8_fault_1 (fun H locs hz hP hD hS => ?_)
  refine lv_iload_n hx hb dX8_fault_4 rfl (lv_at hl 1 rfl) ?_
  refine lv_if_lt (tgt := 23) hx hb dX8_fault_5 (by decide) (fun c => absurd c (b_nlt lo_x1 (by decide))) (fun _ => ?_)
  refine lv_iload_n hx hb dX8_fault_8 rfl (lv_at hl 1 rfl) ?_
  refine lv_aload_n hx hb dX8_fault_9 rfl (lv_at hl 0 rfl) ?_
  refine xg (ci := 8) S inX8 rfl hK hP (q0 := 0) rfl 3 (by decide) rfl kw_3_23 rfl dX8_fault_10 ?_
  refine xg (ci := 2) S inX2 rfl hK hP (q0 := 34) rfl 3 (by decide) rfl kw_2_14 rfl dX8_fault_13 ?_
  refine lv_icmp_ge (tgt := 23) hx hb dX8_fault_16 (by decide) (fun _ => ?_) (fun c => absurd (b_ge lo_x1 (by decide)) c)
  refine lv_iconst (v := 0) hx hb dX8_fault_23 (by decide) ?_
  exact tSv (As := [.int 0]) S (c_X8_needPlace_0 l D cI cZ cJ o u hst ra ga H.size) ms_X8_needPlace kw_4_210 rfl rfl ⟨Nat.le_of_ble_eq_true rfl, Nat.le_of_ble_eq_true rfl⟩ hP hD hK hS hA hB hl.1 (Nat.le_of_ble_eq_true rfl) ⟨Nat.le_of_ble_eq_true rfl, Nat.le_of_ble_eq_true rfl⟩ dX8_fault_24 hnt hlocks (Nat.le_of_ble_eq_true rfl) (Nat.le_of_ble_eq_true rfl)

set_option maxHeartbeats 8000000 in
set_option maxRecDepth 100000 in
theorem c_X8_fault_5 (l : Launch) (D : va_G) (cI cZ cJ : ClassId) (o : Nat) (u : Nat → Nat) (ra ga : Nat → Nat) (sz : Nat) : Met l yX8_fault (uW yX8_fault cX8_fault 3 (some .int)) ({ frames := 4, cells := 0, slots := 0, locals := 85 }) (va_Pc [.ref o, .int 0, .int 1] (aS ra ga D (tyL cI cZ cJ) (xW o u cI cZ cJ) sz)) (wQi (0) D (((((((xW o u cI cZ cJ).set 0 (o, .inr (8, ((xF u).set 9 (.int 0))))).set 32 ((u 31), .inl (cZ, 10, .inl (upd (upd (upd (upd (upd (upd (upd (upd (upd (upd (fun _ => 0) (0 : Int32).toNatClampNeg 0) (1 : Int32).toNatClampNeg 0) (2 : Int32).toNatClampNeg 0) (3 : Int32).toNatClampNeg 0) (4 : Int32).toNatClampNeg 0) (5 : Int32).toNatClampNeg 0) (6 : Int32).toNatClampNeg 0) (7 : Int32).toNatClampNeg 0) (8 : Int32).toNatClampNeg 0) (9 : Int32).toNatClampNeg 0)))).set 34 ((u 33), .inr (2, ([.ref (u 0), .ref (u 12), .ref (u 19), .int 0, .ref (u 34), .ref (u 35), .ref (u 36), .ref (u 37), .int 0].set 3 (.int 1))))).set 35 ((u 34), .inl (cI, 120, .inl (upd (fun _ => 0) (0 : Int32).toNatClampNeg 10)))).set 36 ((u 35), .inl (cI, 120, .inl (upd (fun _ => 0) (0 : Int32).toNatClampNeg 0)))).set 37 ((u 36), .inl (cI, 120, .inl (upd (fun _ => 0) (0 : Int32).toNatClampNeg (-1))))) (va_A (xW o u cI cZ cJ) sz)) 0 0 (va_A (xW o u cI cZ cJ) sz) := by
  refine aStart (lv := [(0, .ref o), (1, .int 0), (2, .int 1)]) (Qc := fun A => wQi (0) D (((((((xW o u cI cZ cJ).set 0 (o, .inr (8, ((xF u).set 9 (.int 0))))).set 32 ((u 31), .inl (cZ, 10, .inl (upd (upd (upd (upd (upd (upd (upd (upd (upd (upd (fun _ => 0) (0 : Int32).toNatClampNeg 0) (1 : Int32).toNatClampNeg 0) (2 : Int32).toNatClampNeg 0) (3 : Int32).toNatClampNeg 0) (4 : Int32).toNatClampNeg 0) (5 : Int32).toNatClampNeg 0) (6 : Int32).toNatClampNeg 0) (7 : Int32).toNatClampNeg 0) (8 : Int32).toNatClampNeg 0) (9 : Int32).toNatClampNeg 0)))).set 34 ((u 33), .inr (2, ([.ref (u 0), .ref (u 12), .ref (u 19), .int 0, .ref (u 34), .ref (u 35), .ref (u 36), .ref (u 37), .int 0].set 3 (.int 1))))).set 35 ((u 34), .inl (cI, 120, .inl (upd (fun _ => 0) (0 : Int32).toNatClampNeg 10)))).set 36 ((u 35), .inl (cI, 120, .inl (upd (fun _ => 0) (0 : Int32).toNatClampNeg 0)))).set 37 ((u 36), .inl (cI, 120, .inl (upd (fun _ => 0) (0 : Int32).toNatClampNeg (-1))))) A) (by decide) (Nat.le_of_ble_eq_true rfl) rfl ?_
  intro p e s m args below meth c ls A H S hr hlocks hnm hl hK hP hD hS hA hB
  have hx := S.1
  have hb := S.2.1
  refine lv_aload_n hx hb dX8_fault_0 rfl (lv_at hl 0 rfl) ?_
  refine aVv (As := []) (ci := 8) S (c_X8_refresh_0 l D cI cZ cJ o u ra ga H.size) mi_X8_refresh kw_3_71 rfl rfl ⟨Nat.le_of_ble_eq_true rfl, Nat.le_of_ble_eq_true rfl⟩ hP hD hK hS hA hB xW_0 rfl rfl hl.1 (Nat.le_of_ble_eq_true rfl) ⟨Nat.le_of_ble_eq_true rfl, Nat.le_of_ble_eq_true rfl⟩ dX8_fault_1 (fun H locs hz hP hD hS => ?_)
  refine lv_iload_n hx hb dX8_fault_4 rfl (lv_at hl 1 rfl) ?_
  refine lv_if_lt (tgt := 23) hx hb dX8_fault_5 (by decide) (fun c => absurd c (by decide)) (fun _ => ?_)
  refine lv_iload_n hx hb dX8_fault_8 rfl (lv_at hl 1 rfl) ?_
  refine lv_aload_n hx hb dX8_fault_9 rfl (lv_at hl 0 rfl) ?_
  refine xg (ci := 8) S inX8 rfl hK hP (q0 := 0) rfl 3 (by decide) rfl kw_3_23 rfl dX8_fault_10 ?_
  refine xg (ci := 2) S inX2 rfl hK hP (q0 := 34) rfl 3 (by decide) rfl kw_2_14 rfl dX8_fault_13 ?_
  refine lv_icmp_ge (tgt := 23) hx hb dX8_fault_16 (by decide) (fun c => absurd c (by decide)) (fun _ => ?_)
  refine lv_iconst (v := 1) hx hb dX8_fault_19 (by decide) ?_
  refine lv_goto (tgt := 24) hx hb dX8_fault_20 (by decide) ?_
  refine aSv (As := [.int 1]) S (c_X8_needPlace_1 l D cI cZ cJ o u ra ga H.size) ms_X8_needPlace kw_4_210 rfl rfl ⟨Nat.le_of_ble_eq_true rfl, Nat.le_of_ble_eq_true rfl⟩ hP hD hK hS hA hB hl.1 (Nat.le_of_ble_eq_true rfl) ⟨Nat.le_of_ble_eq_true rfl, Nat.le_of_ble_eq_true rfl⟩ dX8_fault_24 (fun H locs hz hP hD hS => ?_)
  refine lv_iload_n hx hb dX8_fault_27 rfl (lv_at hl 2 rfl) ?_
  refine lv_if_lt (tgt := 40) hx hb dX8_fault_28 (by decide) (fun c => absurd c (by decide)) (fun _ => ?_)
  refine lv_iload_n hx hb dX8_fault_31 rfl (lv_at hl 2 rfl) ?_
  refine lv_iconst (v := 2) hx hb dX8_fault_32 (by decide) ?_
  refine lv_icmp_gt (tgt := 40) hx hb dX8_fault_33 (by decide) (fun c => absurd c (by decide)) (fun _ => ?_)
  refine lv_iconst (v := 1) hx hb dX8_fault_36 (by decide) ?_
  refine lv_goto (tgt := 41) hx hb dX8_fault_37 (by decide) ?_
  refine aSv (As := [.int 1]) S (c_X8_needArgument_3 l D cI cZ cJ o u ra ga H.size) ms_X8_needArgument kw_4_4 rfl rfl ⟨Nat.le_of_ble_eq_true rfl, Nat.le_of_ble_eq_true rfl⟩ hP hD hK hS hA hB hl.1 (Nat.le_of_ble_eq_true rfl) ⟨Nat.le_of_ble_eq_true rfl, Nat.le_of_ble_eq_true rfl⟩ dX8_fault_41 (fun H locs hz hP hD hS => ?_)
  refine lv_iload_n hx hb dX8_fault_44 rfl (lv_at hl 2 rfl) ?_
  refine lv_lookup (off := 37) (tgt := 82) hx hb dX8_fault_45 (by decide) (by decide) (by decide) ?_
  refine lv_aload_n hx hb dX8_fault_82 rfl (lv_at hl 0 rfl) ?_
  refine xg (ci := 8) S inX8 rfl hK hP (q0 := 0) rfl 3 (by decide) rfl kw_3_23 rfl dX8_fault_83 ?_
  refine xg (ci := 2) S inX2 rfl hK hP (q0 := 34) rfl 5 (by decide) rfl kw_2_18 rfl dX8_fault_86 ?_
  refine lv_iload_n hx hb dX8_fault_89 rfl (lv_at hl 1 rfl) ?_
  refine xiald (t0 := 0) (v := 0) S hK hP (q0 := 36) rfl rfl (vin rfl) rfl dX8_fault_90 ?_
  exact wEnd S hr hlocks hP hD hS (Nat.le_of_ble_eq_true rfl) (Nat.le_of_ble_eq_true rfl) dX8_fault_91 rfl

set_option maxHeartbeats 8000000 in
set_option maxRecDepth 100000 in
theorem c_X8_fault_6 (l : Launch) (D : va_G) (cI cZ cJ : ClassId) (o : Nat) (u : Nat → Nat) (hst : l.stackTraces = false) (ra ga : Nat → Nat) (sz : Nat) (x1 : Int32) (x2 : Int32) (hi_x1 : x1 ≤ (-1)) (ne_x2_0 : ¬ x2 = 0) (ne_x2_1 : ¬ x2 = 1) : vx_Met l yX8_fault (uW yX8_fault cX8_fault 3 (some .int)) ({ frames := 7, cells := 1, slots := 6, locals := 102 }) (va_Pc [.ref o, .int x1, .int x2] (aS ra ga D (tyL cI cZ cJ) (xW o u cI cZ cJ) sz)) (nQi (va_A (xW o u cI cZ cJ) sz)) (wX "java/lang/IndexOutOfBoundsException" D (((((((xW o u cI cZ cJ).set 0 (o, .inr (8, ((xF u).set 9 (.int 0))))).set 32 ((u 31), .inl (cZ, 10, .inl (upd (upd (upd (upd (upd (upd (upd (upd (upd (upd (fun _ => 0) (0 : Int32).toNatClampNeg 0) (1 : Int32).toNatClampNeg 0) (2 : Int32).toNatClampNeg 0) (3 : Int32).toNatClampNeg 0) (4 : Int32).toNatClampNeg 0) (5 : Int32).toNatClampNeg 0) (6 : Int32).toNatClampNeg 0) (7 : Int32).toNatClampNeg 0) (8 : Int32).toNatClampNeg 0) (9 : Int32).toNatClampNeg 0)))).set 34 ((u 33), .inr (2, ([.ref (u 0), .ref (u 12), .ref (u 19), .int 0, .ref (u 34), .ref (u 35), .ref (u 36), .ref (u 37), .int 0].set 3 (.int 1))))).set 35 ((u 34), .inl (cI, 120, .inl (upd (fun _ => 0) (0 : Int32).toNatClampNeg 10)))).set 36 ((u 35), .inl (cI, 120, .inl (upd (fun _ => 0) (0 : Int32).toNatClampNeg 0)))).set 37 ((u 36), .inl (cI, 120, .inl (upd (fun _ => 0) (0 : Int32).toNatClampNeg (-1))))) (va_A (xW o u cI cZ cJ) sz)) 1 6 (va_A (xW o u cI cZ cJ) sz) := by
  refine xStart (lv := [(0, .ref o), (1, .int x1), (2, .int x2)]) (Qc := fun A => nQi A) (XC := fun A => wX "java/lang/IndexOutOfBoundsException" D (((((((xW o u cI cZ cJ).set 0 (o, .inr (8, ((xF u).set 9 (.int 0))))).set 32 ((u 31), .inl (cZ, 10, .inl (upd (upd (upd (upd (upd (upd (upd (upd (upd (upd (fun _ => 0) (0 : Int32).toNatClampNeg 0) (1 : Int32).toNatClampNeg 0) (2 : Int32).toNatClampNeg 0) (3 : Int32).toNatClampNeg 0) (4 : Int32).toNatClampNeg 0) (5 : Int32).toNatClampNeg 0) (6 : Int32).toNatClampNeg 0) (7 : Int32).toNatClampNeg 0) (8 : Int32).toNatClampNeg 0) (9 : Int32).toNatClampNeg 0)))).set 34 ((u 33), .inr (2, ([.ref (u 0), .ref (u 12), .ref (u 19), .int 0, .ref (u 34), .ref (u 35), .ref (u 36), .ref (u 37), .int 0].set 3 (.int 1))))).set 35 ((u 34), .inl (cI, 120, .inl (upd (fun _ => 0) (0 : Int32).toNatClampNeg 10)))).set 36 ((u 35), .inl (cI, 120, .inl (upd (fun _ => 0) (0 : Int32).toNatClampNeg 0)))).set 37 ((u 36), .inl (cI, 120, .inl (upd (fun _ => 0) (0 : Int32).toNatClampNeg (-1))))) A) (by decide) (Nat.le_of_ble_eq_true rfl) rfl ?_
  intro p e s m args below meth c ls A H S hr hlocks hnm hl hK hP hD hS hA hB hnt
  have hx := S.1
  have hb := S.2.1
  refine lv_aload_n hx hb dX8_fault_0 rfl (lv_at hl 0 rfl) ?_
  refine aVv (As := []) (ci := 8) S (c_X8_refresh_0 l D cI cZ cJ o u ra ga H.size) mi_X8_refresh kw_3_71 rfl rfl ⟨Nat.le_of_ble_eq_true rfl, Nat.le_of_ble_eq_true rfl⟩ hP hD hK hS hA hB xW_0 rfl rfl hl.1 (Nat.le_of_ble_eq_true rfl) ⟨Nat.le_of_ble_eq_true rfl, Nat.le_of_ble_eq_true rfl⟩ dX8_fault_1 (fun H locs hz hP hD hS => ?_)
  refine lv_iload_n hx hb dX8_fault_4 rfl (lv_at hl 1 rfl) ?_
  refine lv_if_lt (tgt := 23) hx hb dX8_fault_5 (by decide) (fun _ => ?_) (fun c => absurd (b_lt hi_x1 (by decide)) c)
  refine lv_iconst (v := 0) hx hb dX8_fault_23 (by decide) ?_
  exact tSv (As := [.int 0]) S (c_X8_needPlace_0 l D cI cZ cJ o u hst ra ga H.size) ms_X8_needPlace kw_4_210 rfl rfl ⟨Nat.le_of_ble_eq_true rfl, Nat.le_of_ble_eq_true rfl⟩ hP hD hK hS hA hB hl.1 (Nat.le_of_ble_eq_true rfl) ⟨Nat.le_of_ble_eq_true rfl, Nat.le_of_ble_eq_true rfl⟩ dX8_fault_24 hnt hlocks (Nat.le_of_ble_eq_true rfl) (Nat.le_of_ble_eq_true rfl)

set_option maxHeartbeats 8000000 in
set_option maxRecDepth 100000 in
theorem c_X8_fault_7 (l : Launch) (D : va_G) (cI cZ cJ : ClassId) (o : Nat) (u : Nat → Nat) (hst : l.stackTraces = false) (ra ga : Nat → Nat) (sz : Nat) (x1 : Int32) (x2 : Int32) (lo_x1 : 1 ≤ x1) (ne_x2_0 : ¬ x2 = 0) (ne_x2_1 : ¬ x2 = 1) : vx_Met l yX8_fault (uW yX8_fault cX8_fault 3 (some .int)) ({ frames := 7, cells := 1, slots := 6, locals := 102 }) (va_Pc [.ref o, .int x1, .int x2] (aS ra ga D (tyL cI cZ cJ) (xW o u cI cZ cJ) sz)) (nQi (va_A (xW o u cI cZ cJ) sz)) (wX "java/lang/IndexOutOfBoundsException" D (((((((xW o u cI cZ cJ).set 0 (o, .inr (8, ((xF u).set 9 (.int 0))))).set 32 ((u 31), .inl (cZ, 10, .inl (upd (upd (upd (upd (upd (upd (upd (upd (upd (upd (fun _ => 0) (0 : Int32).toNatClampNeg 0) (1 : Int32).toNatClampNeg 0) (2 : Int32).toNatClampNeg 0) (3 : Int32).toNatClampNeg 0) (4 : Int32).toNatClampNeg 0) (5 : Int32).toNatClampNeg 0) (6 : Int32).toNatClampNeg 0) (7 : Int32).toNatClampNeg 0) (8 : Int32).toNatClampNeg 0) (9 : Int32).toNatClampNeg 0)))).set 34 ((u 33), .inr (2, ([.ref (u 0), .ref (u 12), .ref (u 19), .int 0, .ref (u 34), .ref (u 35), .ref (u 36), .ref (u 37), .int 0].set 3 (.int 1))))).set 35 ((u 34), .inl (cI, 120, .inl (upd (fun _ => 0) (0 : Int32).toNatClampNeg 10)))).set 36 ((u 35), .inl (cI, 120, .inl (upd (fun _ => 0) (0 : Int32).toNatClampNeg 0)))).set 37 ((u 36), .inl (cI, 120, .inl (upd (fun _ => 0) (0 : Int32).toNatClampNeg (-1))))) (va_A (xW o u cI cZ cJ) sz)) 1 6 (va_A (xW o u cI cZ cJ) sz) := by
  refine xStart (lv := [(0, .ref o), (1, .int x1), (2, .int x2)]) (Qc := fun A => nQi A) (XC := fun A => wX "java/lang/IndexOutOfBoundsException" D (((((((xW o u cI cZ cJ).set 0 (o, .inr (8, ((xF u).set 9 (.int 0))))).set 32 ((u 31), .inl (cZ, 10, .inl (upd (upd (upd (upd (upd (upd (upd (upd (upd (upd (fun _ => 0) (0 : Int32).toNatClampNeg 0) (1 : Int32).toNatClampNeg 0) (2 : Int32).toNatClampNeg 0) (3 : Int32).toNatClampNeg 0) (4 : Int32).toNatClampNeg 0) (5 : Int32).toNatClampNeg 0) (6 : Int32).toNatClampNeg 0) (7 : Int32).toNatClampNeg 0) (8 : Int32).toNatClampNeg 0) (9 : Int32).toNatClampNeg 0)))).set 34 ((u 33), .inr (2, ([.ref (u 0), .ref (u 12), .ref (u 19), .int 0, .ref (u 34), .ref (u 35), .ref (u 36), .ref (u 37), .int 0].set 3 (.int 1))))).set 35 ((u 34), .inl (cI, 120, .inl (upd (fun _ => 0) (0 : Int32).toNatClampNeg 10)))).set 36 ((u 35), .inl (cI, 120, .inl (upd (fun _ => 0) (0 : Int32).toNatClampNeg 0)))).set 37 ((u 36), .inl (cI, 120, .inl (upd (fun _ => 0) (0 : Int32).toNatClampNeg (-1))))) A) (by decide) (Nat.le_of_ble_eq_true rfl) rfl ?_
  intro p e s m args below meth c ls A H S hr hlocks hnm hl hK hP hD hS hA hB hnt
  have hx := S.1
  have hb := S.2.1
  refine lv_aload_n hx hb dX8_fault_0 rfl (lv_at hl 0 rfl) ?_
  refine aVv (As := []) (ci := 8) S (c_X8_refresh_0 l D cI cZ cJ o u ra ga H.size) mi_X8_refresh kw_3_71 rfl rfl ⟨Nat.le_of_ble_eq_true rfl, Nat.le_of_ble_eq_true rfl⟩ hP hD hK hS hA hB xW_0 rfl rfl hl.1 (Nat.le_of_ble_eq_true rfl) ⟨Nat.le_of_ble_eq_true rfl, Nat.le_of_ble_eq_true rfl⟩ dX8_fault_1 (fun H locs hz hP hD hS => ?_)
  refine lv_iload_n hx hb dX8_fault_4 rfl (lv_at hl 1 rfl) ?_
  refine lv_if_lt (tgt := 23) hx hb dX8_fault_5 (by decide) (fun c => absurd c (b_nlt lo_x1 (by decide))) (fun _ => ?_)
  refine lv_iload_n hx hb dX8_fault_8 rfl (lv_at hl 1 rfl) ?_
  refine lv_aload_n hx hb dX8_fault_9 rfl (lv_at hl 0 rfl) ?_
  refine xg (ci := 8) S inX8 rfl hK hP (q0 := 0) rfl 3 (by decide) rfl kw_3_23 rfl dX8_fault_10 ?_
  refine xg (ci := 2) S inX2 rfl hK hP (q0 := 34) rfl 3 (by decide) rfl kw_2_14 rfl dX8_fault_13 ?_
  refine lv_icmp_ge (tgt := 23) hx hb dX8_fault_16 (by decide) (fun _ => ?_) (fun c => absurd (b_ge lo_x1 (by decide)) c)
  refine lv_iconst (v := 0) hx hb dX8_fault_23 (by decide) ?_
  exact tSv (As := [.int 0]) S (c_X8_needPlace_0 l D cI cZ cJ o u hst ra ga H.size) ms_X8_needPlace kw_4_210 rfl rfl ⟨Nat.le_of_ble_eq_true rfl, Nat.le_of_ble_eq_true rfl⟩ hP hD hK hS hA hB hl.1 (Nat.le_of_ble_eq_true rfl) ⟨Nat.le_of_ble_eq_true rfl, Nat.le_of_ble_eq_true rfl⟩ dX8_fault_24 hnt hlocks (Nat.le_of_ble_eq_true rfl) (Nat.le_of_ble_eq_true rfl)

set_option maxHeartbeats 8000000 in
set_option maxRecDepth 100000 in
theorem c_X8_fault_8 (l : Launch) (D : va_G) (cI cZ cJ : ClassId) (o : Nat) (u : Nat → Nat) (hst : l.stackTraces = false) (ra ga : Nat → Nat) (sz : Nat) (x2 : Int32) (hi_x2 : x2 ≤ (-1)) (ne_x2_0 : ¬ x2 = 0) (ne_x2_1 : ¬ x2 = 1) : vx_Met l yX8_fault (uW yX8_fault cX8_fault 3 (some .int)) ({ frames := 7, cells := 1, slots := 6, locals := 102 }) (va_Pc [.ref o, .int 0, .int x2] (aS ra ga D (tyL cI cZ cJ) (xW o u cI cZ cJ) sz)) (nQi (va_A (xW o u cI cZ cJ) sz)) (wX "java/lang/IllegalArgumentException" D (((((((xW o u cI cZ cJ).set 0 (o, .inr (8, ((xF u).set 9 (.int 0))))).set 32 ((u 31), .inl (cZ, 10, .inl (upd (upd (upd (upd (upd (upd (upd (upd (upd (upd (fun _ => 0) (0 : Int32).toNatClampNeg 0) (1 : Int32).toNatClampNeg 0) (2 : Int32).toNatClampNeg 0) (3 : Int32).toNatClampNeg 0) (4 : Int32).toNatClampNeg 0) (5 : Int32).toNatClampNeg 0) (6 : Int32).toNatClampNeg 0) (7 : Int32).toNatClampNeg 0) (8 : Int32).toNatClampNeg 0) (9 : Int32).toNatClampNeg 0)))).set 34 ((u 33), .inr (2, ([.ref (u 0), .ref (u 12), .ref (u 19), .int 0, .ref (u 34), .ref (u 35), .ref (u 36), .ref (u 37), .int 0].set 3 (.int 1))))).set 35 ((u 34), .inl (cI, 120, .inl (upd (fun _ => 0) (0 : Int32).toNatClampNeg 10)))).set 36 ((u 35), .inl (cI, 120, .inl (upd (fun _ => 0) (0 : Int32).toNatClampNeg 0)))).set 37 ((u 36), .inl (cI, 120, .inl (upd (fun _ => 0) (0 : Int32).toNatClampNeg (-1))))) (va_A (xW o u cI cZ cJ) sz)) 1 6 (va_A (xW o u cI cZ cJ) sz) := by
  refine xStart (lv := [(0, .ref o), (1, .int 0), (2, .int x2)]) (Qc := fun A => nQi A) (XC := fun A => wX "java/lang/IllegalArgumentException" D (((((((xW o u cI cZ cJ).set 0 (o, .inr (8, ((xF u).set 9 (.int 0))))).set 32 ((u 31), .inl (cZ, 10, .inl (upd (upd (upd (upd (upd (upd (upd (upd (upd (upd (fun _ => 0) (0 : Int32).toNatClampNeg 0) (1 : Int32).toNatClampNeg 0) (2 : Int32).toNatClampNeg 0) (3 : Int32).toNatClampNeg 0) (4 : Int32).toNatClampNeg 0) (5 : Int32).toNatClampNeg 0) (6 : Int32).toNatClampNeg 0) (7 : Int32).toNatClampNeg 0) (8 : Int32).toNatClampNeg 0) (9 : Int32).toNatClampNeg 0)))).set 34 ((u 33), .inr (2, ([.ref (u 0), .ref (u 12), .ref (u 19), .int 0, .ref (u 34), .ref (u 35), .ref (u 36), .ref (u 37), .int 0].set 3 (.int 1))))).set 35 ((u 34), .inl (cI, 120, .inl (upd (fun _ => 0) (0 : Int32).toNatClampNeg 10)))).set 36 ((u 35), .inl (cI, 120, .inl (upd (fun _ => 0) (0 : Int32).toNatClampNeg 0)))).set 37 ((u 36), .inl (cI, 120, .inl (upd (fun _ => 0) (0 : Int32).toNatClampNeg (-1))))) A) (by decide) (Nat.le_of_ble_eq_true rfl) rfl ?_
  intro p e s m args below meth c ls A H S hr hlocks hnm hl hK hP hD hS hA hB hnt
  have hx := S.1
  have hb := S.2.1
  refine lv_aload_n hx hb dX8_fault_0 rfl (lv_at hl 0 rfl) ?_
  refine aVv (As := []) (ci := 8) S (c_X8_refresh_0 l D cI cZ cJ o u ra ga H.size) mi_X8_refresh kw_3_71 rfl rfl ⟨Nat.le_of_ble_eq_true rfl, Nat.le_of_ble_eq_true rfl⟩ hP hD hK hS hA hB xW_0 rfl rfl hl.1 (Nat.le_of_ble_eq_true rfl) ⟨Nat.le_of_ble_eq_true rfl, Nat.le_of_ble_eq_true rfl⟩ dX8_fault_1 (fun H locs hz hP hD hS => ?_)
  refine lv_iload_n hx hb dX8_fault_4 rfl (lv_at hl 1 rfl) ?_
  refine lv_if_lt (tgt := 23) hx hb dX8_fault_5 (by decide) (fun c => absurd c (by decide)) (fun _ => ?_)
  refine lv_iload_n hx hb dX8_fault_8 rfl (lv_at hl 1 rfl) ?_
  refine lv_aload_n hx hb dX8_fault_9 rfl (lv_at hl 0 rfl) ?_
  refine xg (ci := 8) S inX8 rfl hK hP (q0 := 0) rfl 3 (by decide) rfl kw_3_23 rfl dX8_fault_10 ?_
  refine xg (ci := 2) S inX2 rfl hK hP (q0 := 34) rfl 3 (by decide) rfl kw_2_14 rfl dX8_fault_13 ?_
  refine lv_icmp_ge (tgt := 23) hx hb dX8_fault_16 (by decide) (fun c => absurd c (by decide)) (fun _ => ?_)
  refine lv_iconst (v := 1) hx hb dX8_fault_19 (by decide) ?_
  refine lv_goto (tgt := 24) hx hb dX8_fault_20 (by decide) ?_
  refine aSv (As := [.int 1]) S (c_X8_needPlace_1 l D cI cZ cJ o u ra ga H.size) ms_X8_needPlace kw_4_210 rfl rfl ⟨Nat.le_of_ble_eq_true rfl, Nat.le_of_ble_eq_true rfl⟩ hP hD hK hS hA hB hl.1 (Nat.le_of_ble_eq_true rfl) ⟨Nat.le_of_ble_eq_true rfl, Nat.le_of_ble_eq_true rfl⟩ dX8_fault_24 (fun H locs hz hP hD hS => ?_)
  refine lv_iload_n hx hb dX8_fault_27 rfl (lv_at hl 2 rfl) ?_
  refine lv_if_lt (tgt := 40) hx hb dX8_fault_28 (by decide) (fun _ => ?_) (fun c => absurd (b_lt hi_x2 (by decide)) c)
  refine lv_iconst (v := 0) hx hb dX8_fault_40 (by decide) ?_
  exact tSv (As := [.int 0]) S (c_X8_needArgument_2 l D cI cZ cJ o u hst ra ga H.size) ms_X8_needArgument kw_4_4 rfl rfl ⟨Nat.le_of_ble_eq_true rfl, Nat.le_of_ble_eq_true rfl⟩ hP hD hK hS hA hB hl.1 (Nat.le_of_ble_eq_true rfl) ⟨Nat.le_of_ble_eq_true rfl, Nat.le_of_ble_eq_true rfl⟩ dX8_fault_41 hnt hlocks (Nat.le_of_ble_eq_true rfl) (Nat.le_of_ble_eq_true rfl)

set_option maxHeartbeats 8000000 in
set_option maxRecDepth 100000 in
theorem c_X8_fault_9 (l : Launch) (D : va_G) (cI cZ cJ : ClassId) (o : Nat) (u : Nat → Nat) (hst : l.stackTraces = false) (ra ga : Nat → Nat) (sz : Nat) (x2 : Int32) (lo_x2 : 3 ≤ x2) (ne_x2_0 : ¬ x2 = 0) (ne_x2_1 : ¬ x2 = 1) : vx_Met l yX8_fault (uW yX8_fault cX8_fault 3 (some .int)) ({ frames := 7, cells := 1, slots := 6, locals := 102 }) (va_Pc [.ref o, .int 0, .int x2] (aS ra ga D (tyL cI cZ cJ) (xW o u cI cZ cJ) sz)) (nQi (va_A (xW o u cI cZ cJ) sz)) (wX "java/lang/IllegalArgumentException" D (((((((xW o u cI cZ cJ).set 0 (o, .inr (8, ((xF u).set 9 (.int 0))))).set 32 ((u 31), .inl (cZ, 10, .inl (upd (upd (upd (upd (upd (upd (upd (upd (upd (upd (fun _ => 0) (0 : Int32).toNatClampNeg 0) (1 : Int32).toNatClampNeg 0) (2 : Int32).toNatClampNeg 0) (3 : Int32).toNatClampNeg 0) (4 : Int32).toNatClampNeg 0) (5 : Int32).toNatClampNeg 0) (6 : Int32).toNatClampNeg 0) (7 : Int32).toNatClampNeg 0) (8 : Int32).toNatClampNeg 0) (9 : Int32).toNatClampNeg 0)))).set 34 ((u 33), .inr (2, ([.ref (u 0), .ref (u 12), .ref (u 19), .int 0, .ref (u 34), .ref (u 35), .ref (u 36), .ref (u 37), .int 0].set 3 (.int 1))))).set 35 ((u 34), .inl (cI, 120, .inl (upd (fun _ => 0) (0 : Int32).toNatClampNeg 10)))).set 36 ((u 35), .inl (cI, 120, .inl (upd (fun _ => 0) (0 : Int32).toNatClampNeg 0)))).set 37 ((u 36), .inl (cI, 120, .inl (upd (fun _ => 0) (0 : Int32).toNatClampNeg (-1))))) (va_A (xW o u cI cZ cJ) sz)) 1 6 (va_A (xW o u cI cZ cJ) sz) := by
  refine xStart (lv := [(0, .ref o), (1, .int 0), (2, .int x2)]) (Qc := fun A => nQi A) (XC := fun A => wX "java/lang/IllegalArgumentException" D (((((((xW o u cI cZ cJ).set 0 (o, .inr (8, ((xF u).set 9 (.int 0))))).set 32 ((u 31), .inl (cZ, 10, .inl (upd (upd (upd (upd (upd (upd (upd (upd (upd (upd (fun _ => 0) (0 : Int32).toNatClampNeg 0) (1 : Int32).toNatClampNeg 0) (2 : Int32).toNatClampNeg 0) (3 : Int32).toNatClampNeg 0) (4 : Int32).toNatClampNeg 0) (5 : Int32).toNatClampNeg 0) (6 : Int32).toNatClampNeg 0) (7 : Int32).toNatClampNeg 0) (8 : Int32).toNatClampNeg 0) (9 : Int32).toNatClampNeg 0)))).set 34 ((u 33), .inr (2, ([.ref (u 0), .ref (u 12), .ref (u 19), .int 0, .ref (u 34), .ref (u 35), .ref (u 36), .ref (u 37), .int 0].set 3 (.int 1))))).set 35 ((u 34), .inl (cI, 120, .inl (upd (fun _ => 0) (0 : Int32).toNatClampNeg 10)))).set 36 ((u 35), .inl (cI, 120, .inl (upd (fun _ => 0) (0 : Int32).toNatClampNeg 0)))).set 37 ((u 36), .inl (cI, 120, .inl (upd (fun _ => 0) (0 : Int32).toNatClampNeg (-1))))) A) (by decide) (Nat.le_of_ble_eq_true rfl) rfl ?_
  intro p e s m args below meth c ls A H S hr hlocks hnm hl hK hP hD hS hA hB hnt
  have hx := S.1
  have hb := S.2.1
  refine lv_aload_n hx hb dX8_fault_0 rfl (lv_at hl 0 rfl) ?_
  refine aVv (As := []) (ci := 8) S (c_X8_refresh_0 l D cI cZ cJ o u ra ga H.size) mi_X8_refresh kw_3_71 rfl rfl ⟨Nat.le_of_ble_eq_true rfl, Nat.le_of_ble_eq_true rfl⟩ hP hD hK hS hA hB xW_0 rfl rfl hl.1 (Nat.le_of_ble_eq_true rfl) ⟨Nat.le_of_ble_eq_true rfl, Nat.le_of_ble_eq_true rfl⟩ dX8_fault_1 (fun H locs hz hP hD hS => ?_)
  refine lv_iload_n hx hb dX8_fault_4 rfl (lv_at hl 1 rfl) ?_
  refine lv_if_lt (tgt := 23) hx hb dX8_fault_5 (by decide) (fun c => absurd c (by decide)) (fun _ => ?_)
  refine lv_iload_n hx hb dX8_fault_8 rfl (lv_at hl 1 rfl) ?_
  refine lv_aload_n hx hb dX8_fault_9 rfl (lv_at hl 0 rfl) ?_
  refine xg (ci := 8) S inX8 rfl hK hP (q0 := 0) rfl 3 (by decide) rfl kw_3_23 rfl dX8_fault_10 ?_
  refine xg (ci := 2) S inX2 rfl hK hP (q0 := 34) rfl 3 (by decide) rfl kw_2_14 rfl dX8_fault_13 ?_
  refine lv_icmp_ge (tgt := 23) hx hb dX8_fault_16 (by decide) (fun c => absurd c (by decide)) (fun _ => ?_)
  refine lv_iconst (v := 1) hx hb dX8_fault_19 (by decide) ?_
  refine lv_goto (tgt := 24) hx hb dX8_fault_20 (by decide) ?_
  refine aSv (As := [.int 1]) S (c_X8_needPlace_1 l D cI cZ cJ o u ra ga H.size) ms_X8_needPlace kw_4_210 rfl rfl ⟨Nat.le_of_ble_eq_true rfl, Nat.le_of_ble_eq_true rfl⟩ hP hD hK hS hA hB hl.1 (Nat.le_of_ble_eq_true rfl) ⟨Nat.le_of_ble_eq_true rfl, Nat.le_of_ble_eq_true rfl⟩ dX8_fault_24 (fun H locs hz hP hD hS => ?_)
  refine lv_iload_n hx hb dX8_fault_27 rfl (lv_at hl 2 rfl) ?_
  refine lv_if_lt (tgt := 40) hx hb dX8_fault_28 (by decide) (fun c => absurd c (b_nlt lo_x2 (by decide))) (fun _ => ?_)
  refine lv_iload_n hx hb dX8_fault_31 rfl (lv_at hl 2 rfl) ?_
  refine lv_iconst (v := 2) hx hb dX8_fault_32 (by decide) ?_
  refine lv_icmp_gt (tgt := 40) hx hb dX8_fault_33 (by decide) (fun _ => ?_) (fun c => absurd (b_gt lo_x2 (by decide)) c)
  refine lv_iconst (v := 0) hx hb dX8_fault_40 (by decide) ?_
  exact tSv (As := [.int 0]) S (c_X8_needArgument_2 l D cI cZ cJ o u hst ra ga H.size) ms_X8_needArgument kw_4_4 rfl rfl ⟨Nat.le_of_ble_eq_true rfl, Nat.le_of_ble_eq_true rfl⟩ hP hD hK hS hA hB hl.1 (Nat.le_of_ble_eq_true rfl) ⟨Nat.le_of_ble_eq_true rfl, Nat.le_of_ble_eq_true rfl⟩ dX8_fault_41 hnt hlocks (Nat.le_of_ble_eq_true rfl) (Nat.le_of_ble_eq_true rfl)

set_option maxHeartbeats 8000000 in
set_option maxRecDepth 100000 in
theorem c_X8_fault_10 (l : Launch) (D : va_G) (cI cZ cJ : ClassId) (o : Nat) (u : Nat → Nat) (ra ga : Nat → Nat) (sz : Nat) : Met l yX8_fault (uW yX8_fault cX8_fault 3 (some .int)) ({ frames := 4, cells := 0, slots := 0, locals := 85 }) (va_Pc [.ref o, .int 0, .int 2] (aS ra ga D (tyL cI cZ cJ) (xW o u cI cZ cJ) sz)) (wQi ((-1)) D (((((((xW o u cI cZ cJ).set 0 (o, .inr (8, ((xF u).set 9 (.int 0))))).set 32 ((u 31), .inl (cZ, 10, .inl (upd (upd (upd (upd (upd (upd (upd (upd (upd (upd (fun _ => 0) (0 : Int32).toNatClampNeg 0) (1 : Int32).toNatClampNeg 0) (2 : Int32).toNatClampNeg 0) (3 : Int32).toNatClampNeg 0) (4 : Int32).toNatClampNeg 0) (5 : Int32).toNatClampNeg 0) (6 : Int32).toNatClampNeg 0) (7 : Int32).toNatClampNeg 0) (8 : Int32).toNatClampNeg 0) (9 : Int32).toNatClampNeg 0)))).set 34 ((u 33), .inr (2, ([.ref (u 0), .ref (u 12), .ref (u 19), .int 0, .ref (u 34), .ref (u 35), .ref (u 36), .ref (u 37), .int 0].set 3 (.int 1))))).set 35 ((u 34), .inl (cI, 120, .inl (upd (fun _ => 0) (0 : Int32).toNatClampNeg 10)))).set 36 ((u 35), .inl (cI, 120, .inl (upd (fun _ => 0) (0 : Int32).toNatClampNeg 0)))).set 37 ((u 36), .inl (cI, 120, .inl (upd (fun _ => 0) (0 : Int32).toNatClampNeg (-1))))) (va_A (xW o u cI cZ cJ) sz)) 0 0 (va_A (xW o u cI cZ cJ) sz) := by
  refine aStart (lv := [(0, .ref o), (1, .int 0), (2, .int 2)]) (Qc := fun A => wQi ((-1)) D (((((((xW o u cI cZ cJ).set 0 (o, .inr (8, ((xF u).set 9 (.int 0))))).set 32 ((u 31), .inl (cZ, 10, .inl (upd (upd (upd (upd (upd (upd (upd (upd (upd (upd (fun _ => 0) (0 : Int32).toNatClampNeg 0) (1 : Int32).toNatClampNeg 0) (2 : Int32).toNatClampNeg 0) (3 : Int32).toNatClampNeg 0) (4 : Int32).toNatClampNeg 0) (5 : Int32).toNatClampNeg 0) (6 : Int32).toNatClampNeg 0) (7 : Int32).toNatClampNeg 0) (8 : Int32).toNatClampNeg 0) (9 : Int32).toNatClampNeg 0)))).set 34 ((u 33), .inr (2, ([.ref (u 0), .ref (u 12), .ref (u 19), .int 0, .ref (u 34), .ref (u 35), .ref (u 36), .ref (u 37), .int 0].set 3 (.int 1))))).set 35 ((u 34), .inl (cI, 120, .inl (upd (fun _ => 0) (0 : Int32).toNatClampNeg 10)))).set 36 ((u 35), .inl (cI, 120, .inl (upd (fun _ => 0) (0 : Int32).toNatClampNeg 0)))).set 37 ((u 36), .inl (cI, 120, .inl (upd (fun _ => 0) (0 : Int32).toNatClampNeg (-1))))) A) (by decide) (Nat.le_of_ble_eq_true rfl) rfl ?_
  intro p e s m args below meth c ls A H S hr hlocks hnm hl hK hP hD hS hA hB
  have hx := S.1
  have hb := S.2.1
  refine lv_aload_n hx hb dX8_fault_0 rfl (lv_at hl 0 rfl) ?_
  refine aVv (As := []) (ci := 8) S (c_X8_refresh_0 l D cI cZ cJ o u ra ga H.size) mi_X8_refresh kw_3_71 rfl rfl ⟨Nat.le_of_ble_eq_true rfl, Nat.le_of_ble_eq_true rfl⟩ hP hD hK hS hA hB xW_0 rfl rfl hl.1 (Nat.le_of_ble_eq_true rfl) ⟨Nat.le_of_ble_eq_true rfl, Nat.le_of_ble_eq_true rfl⟩ dX8_fault_1 (fun H locs hz hP hD hS => ?_)
  refine lv_iload_n hx hb dX8_fault_4 rfl (lv_at hl 1 rfl) ?_
  refine lv_if_lt (tgt := 23) hx hb dX8_fault_5 (by decide) (fun c => absurd c (by decide)) (fun _ => ?_)
  refine lv_iload_n hx hb dX8_fault_8 rfl (lv_at hl 1 rfl) ?_
  refine lv_aload_n hx hb dX8_fault_9 rfl (lv_at hl 0 rfl) ?_
  refine xg (ci := 8) S inX8 rfl hK hP (q0 := 0) rfl 3 (by decide) rfl kw_3_23 rfl dX8_fault_10 ?_
  refine xg (ci := 2) S inX2 rfl hK hP (q0 := 34) rfl 3 (by decide) rfl kw_2_14 rfl dX8_fault_13 ?_
  refine lv_icmp_ge (tgt := 23) hx hb dX8_fault_16 (by decide) (fun c => absurd c (by decide)) (fun _ => ?_)
  refine lv_iconst (v := 1) hx hb dX8_fault_19 (by decide) ?_
  refine lv_goto (tgt := 24) hx hb dX8_fault_20 (by decide) ?_
  refine aSv (As := [.int 1]) S (c_X8_needPlace_1 l D cI cZ cJ o u ra ga H.size) ms_X8_needPlace kw_4_210 rfl rfl ⟨Nat.le_of_ble_eq_true rfl, Nat.le_of_ble_eq_true rfl⟩ hP hD hK hS hA hB hl.1 (Nat.le_of_ble_eq_true rfl) ⟨Nat.le_of_ble_eq_true rfl, Nat.le_of_ble_eq_true rfl⟩ dX8_fault_24 (fun H locs hz hP hD hS => ?_)
  refine lv_iload_n hx hb dX8_fault_27 rfl (lv_at hl 2 rfl) ?_
  refine lv_if_lt (tgt := 40) hx hb dX8_fault_28 (by decide) (fun c => absurd c (by decide)) (fun _ => ?_)
  refine lv_iload_n hx hb dX8_fault_31 rfl (lv_at hl 2 rfl) ?_
  refine lv_iconst (v := 2) hx hb dX8_fault_32 (by decide) ?_
  refine lv_icmp_gt (tgt := 40) hx hb dX8_fault_33 (by decide) (fun c => absurd c (by decide)) (fun _ => ?_)
  refine lv_iconst (v := 1) hx hb dX8_fault_36 (by decide) ?_
  refine lv_goto (tgt := 41) hx hb dX8_fault_37 (by decide) ?_
  refine aSv (As := [.int 1]) S (c_X8_needArgument_3 l D cI cZ cJ o u ra ga H.size) ms_X8_needArgument kw_4_4 rfl rfl ⟨Nat.le_of_ble_eq_true rfl, Nat.le_of_ble_eq_true rfl⟩ hP hD hK hS hA hB hl.1 (Nat.le_of_ble_eq_true rfl) ⟨Nat.le_of_ble_eq_true rfl, Nat.le_of_ble_eq_true rfl⟩ dX8_fault_41 (fun H locs hz hP hD hS => ?_)
  refine lv_iload_n hx hb dX8_fault_44 rfl (lv_at hl 2 rfl) ?_
  refine lv_lookup (off := 47) (tgt := 92) hx hb dX8_fault_45 (by decide) (by decide) (by decide) ?_
  refine lv_aload_n hx hb dX8_fault_92 rfl (lv_at hl 0 rfl) ?_
  refine xg (ci := 8) S inX8 rfl hK hP (q0 := 0) rfl 3 (by decide) rfl kw_3_23 rfl dX8_fault_93 ?_
  refine xg (ci := 2) S inX2 rfl hK hP (q0 := 34) rfl 6 (by decide) rfl kw_2_20 rfl dX8_fault_96 ?_
  refine lv_iload_n hx hb dX8_fault_99 rfl (lv_at hl 1 rfl) ?_
  refine xiald (t0 := 0) (v := (-1)) S hK hP (q0 := 37) rfl rfl (vin rfl) rfl dX8_fault_100 ?_
  exact wEnd S hr hlocks hP hD hS (Nat.le_of_ble_eq_true rfl) (Nat.le_of_ble_eq_true rfl) dX8_fault_101 rfl

set_option maxHeartbeats 8000000 in
set_option maxRecDepth 100000 in
theorem h_fault_0 (l : Launch) (D : va_G) (cI cZ cJ : ClassId) (o : Nat) (u : Nat → Nat) (ao : Nat) (hst : l.stackTraces = false) (ra ga : Nat → Nat) (sz : Nat) (x1 : Int32) (hi_x1 : x1 ≤ (-1)) : vx_Met l yL_fault (uWh yL_fault cL_fault 5 (some .int) [(0, 10, 13, 13), (0, 10, 17, 15)]) ({ frames := 8, cells := 1, slots := 6, locals := 124 }) (va_Pc [.ref o, .int x1, .int 0, .ref ao] (lS ra ga D (tyL cI cZ cJ) ((xW o u cI cZ cJ) ++ [(ao, .inl (cJ, 1, .inr (.inl (fun _ => 0))))]) sz)) (wQi (1) D ((((((((xW o u cI cZ cJ).set 0 (o, .inr (8, ((xF u).set 9 (.int 0))))).set 32 ((u 31), .inl (cZ, 10, .inl (upd (upd (upd (upd (upd (upd (upd (upd (upd (upd (fun _ => 0) (0 : Int32).toNatClampNeg 0) (1 : Int32).toNatClampNeg 0) (2 : Int32).toNatClampNeg 0) (3 : Int32).toNatClampNeg 0) (4 : Int32).toNatClampNeg 0) (5 : Int32).toNatClampNeg 0) (6 : Int32).toNatClampNeg 0) (7 : Int32).toNatClampNeg 0) (8 : Int32).toNatClampNeg 0) (9 : Int32).toNatClampNeg 0)))).set 34 ((u 33), .inr (2, ([.ref (u 0), .ref (u 12), .ref (u 19), .int 0, .ref (u 34), .ref (u 35), .ref (u 36), .ref (u 37), .int 0].set 3 (.int 1))))).set 35 ((u 34), .inl (cI, 120, .inl (upd (fun _ => 0) (0 : Int32).toNatClampNeg 10)))).set 36 ((u 35), .inl (cI, 120, .inl (upd (fun _ => 0) (0 : Int32).toNatClampNeg 0)))).set 37 ((u 36), .inl (cI, 120, .inl (upd (fun _ => 0) (0 : Int32).toNatClampNeg (-1))))) ++ [(ao, .inl (cJ, 1, .inr (.inl (fun _ => 0))))]) (va_A ((xW o u cI cZ cJ) ++ [(ao, .inl (cJ, 1, .inr (.inl (fun _ => 0))))]) sz)) (xN (va_A ((xW o u cI cZ cJ) ++ [(ao, .inl (cJ, 1, .inr (.inl (fun _ => 0))))]) sz)) 1 6 (va_A ((xW o u cI cZ cJ) ++ [(ao, .inl (cJ, 1, .inr (.inl (fun _ => 0))))]) sz) := by
  refine hStart (l := l) (y := yL_fault) (b := cL_fault) (n := 5) (r := (some .int)) (hh := [(0, 10, 13, 13), (0, 10, 17, 15)]) (rm := ({ frames := 8, cells := 1, slots := 6, locals := 124 })) (mc := 1) (ms := 6) (ra := ra) (ga := ga) (D := D) (tys := tyL cI cZ cJ) (ws := ((xW o u cI cZ cJ) ++ [(ao, .inl (cJ, 1, .inr (.inl (fun _ => 0))))])) (av := [.ref o, .int x1, .int 0, .ref ao]) (sz := sz) (lv := [(0, .ref o), (1, .int x1), (2, .int 0), (3, .ref ao)]) (Qc := fun A => wQi (1) D ((((((((xW o u cI cZ cJ).set 0 (o, .inr (8, ((xF u).set 9 (.int 0))))).set 32 ((u 31), .inl (cZ, 10, .inl (upd (upd (upd (upd (upd (upd (upd (upd (upd (upd (fun _ => 0) (0 : Int32).toNatClampNeg 0) (1 : Int32).toNatClampNeg 0) (2 : Int32).toNatClampNeg 0) (3 : Int32).toNatClampNeg 0) (4 : Int32).toNatClampNeg 0) (5 : Int32).toNatClampNeg 0) (6 : Int32).toNatClampNeg 0) (7 : Int32).toNatClampNeg 0) (8 : Int32).toNatClampNeg 0) (9 : Int32).toNatClampNeg 0)))).set 34 ((u 33), .inr (2, ([.ref (u 0), .ref (u 12), .ref (u 19), .int 0, .ref (u 34), .ref (u 35), .ref (u 36), .ref (u 37), .int 0].set 3 (.int 1))))).set 35 ((u 34), .inl (cI, 120, .inl (upd (fun _ => 0) (0 : Int32).toNatClampNeg 10)))).set 36 ((u 35), .inl (cI, 120, .inl (upd (fun _ => 0) (0 : Int32).toNatClampNeg 0)))).set 37 ((u 36), .inl (cI, 120, .inl (upd (fun _ => 0) (0 : Int32).toNatClampNeg (-1))))) ++ [(ao, .inl (cJ, 1, .inr (.inl (fun _ => 0))))]) A) (by decide) (Nat.le_of_ble_eq_true rfl) rfl ?_
  intro p e s m args below meth c ls A H S hr hlocks htab hl hK hP hD hS hA hB hC
  have hx := S.1
  have hb := S.2.1
  refine lv_aload_n hx hb dL_fault_0 rfl (lv_at hl 3 rfl) ?_
  refine lv_iconst (v := 0) hx hb dL_fault_1 (by decide) ?_
  refine lv_aload_n hx hb dL_fault_2 rfl (lv_at hl 0 rfl) ?_
  refine lv_iload_n hx hb dL_fault_3 rfl (lv_at hl 1 rfl) ?_
  refine lv_iload_n hx hb dL_fault_4 rfl (lv_at hl 2 rfl) ?_
  refine cVi [] [(ao, .inl (cJ, 1, .inr (.inl (fun _ => 0))))] (As := [.int x1, .int 0]) (ci := 8) S (c_X8_fault_0 l D cI cZ cJ o u hst ra ga H.size x1 hi_x1) mi_X8_fault kw_6_80 rfl rfl ⟨Nat.le_of_ble_eq_true rfl, Nat.le_of_ble_eq_true rfl⟩ hP hD hK hS hA hB xW_0 rfl rfl hl.1 (Nat.le_of_ble_eq_true rfl) ⟨Nat.le_of_ble_eq_true rfl, Nat.le_of_ble_eq_true rfl⟩ dL_fault_5 (fun ce q9 H locs hz hP hD hS hce hcv hcl => ?_)
  refine vx_catch (name := "java/lang/IndexOutOfBoundsException") S.2.2.2.1 [] (⟨0, 10, 13, 13⟩ : ExceptionTableEntry) [(⟨0, 10, 17, 15⟩ : ExceptionTableEntry)] (htab.trans rfl) (fun _ h => absurd h List.not_mem_nil) (by decide) (by decide) (S.2.2.2.2 _ kw_5_176) (va_Nw.use rfl hB.c0) hce hcv hcl ?_
  have hP : va_P D vwCl ((((((((xW o u cI cZ cJ).set 0 (o, .inr (8, ((xF u).set 9 (.int 0))))).set 32 ((u 31), .inl (cZ, 10, .inl (upd (upd (upd (upd (upd (upd (upd (upd (upd (upd (fun _ => 0) (0 : Int32).toNatClampNeg 0) (1 : Int32).toNatClampNeg 0) (2 : Int32).toNatClampNeg 0) (3 : Int32).toNatClampNeg 0) (4 : Int32).toNatClampNeg 0) (5 : Int32).toNatClampNeg 0) (6 : Int32).toNatClampNeg 0) (7 : Int32).toNatClampNeg 0) (8 : Int32).toNatClampNeg 0) (9 : Int32).toNatClampNeg 0)))).set 34 ((u 33), .inr (2, ([.ref (u 0), .ref (u 12), .ref (u 19), .int 0, .ref (u 34), .ref (u 35), .ref (u 36), .ref (u 37), .int 0].set 3 (.int 1))))).set 35 ((u 34), .inl (cI, 120, .inl (upd (fun _ => 0) (0 : Int32).toNatClampNeg 10)))).set 36 ((u 35), .inl (cI, 120, .inl (upd (fun _ => 0) (0 : Int32).toNatClampNeg 0)))).set 37 ((u 36), .inl (cI, 120, .inl (upd (fun _ => 0) (0 : Int32).toNatClampNeg (-1))))) ++ [(ao, .inl (cJ, 1, .inr (.inl (fun _ => 0))))]) H := hP
  have hD : va_D A ((((((((xW o u cI cZ cJ).set 0 (o, .inr (8, ((xF u).set 9 (.int 0))))).set 32 ((u 31), .inl (cZ, 10, .inl (upd (upd (upd (upd (upd (upd (upd (upd (upd (upd (fun _ => 0) (0 : Int32).toNatClampNeg 0) (1 : Int32).toNatClampNeg 0) (2 : Int32).toNatClampNeg 0) (3 : Int32).toNatClampNeg 0) (4 : Int32).toNatClampNeg 0) (5 : Int32).toNatClampNeg 0) (6 : Int32).toNatClampNeg 0) (7 : Int32).toNatClampNeg 0) (8 : Int32).toNatClampNeg 0) (9 : Int32).toNatClampNeg 0)))).set 34 ((u 33), .inr (2, ([.ref (u 0), .ref (u 12), .ref (u 19), .int 0, .ref (u 34), .ref (u 35), .ref (u 36), .ref (u 37), .int 0].set 3 (.int 1))))).set 35 ((u 34), .inl (cI, 120, .inl (upd (fun _ => 0) (0 : Int32).toNatClampNeg 10)))).set 36 ((u 35), .inl (cI, 120, .inl (upd (fun _ => 0) (0 : Int32).toNatClampNeg 0)))).set 37 ((u 36), .inl (cI, 120, .inl (upd (fun _ => 0) (0 : Int32).toNatClampNeg (-1))))) ++ [(ao, .inl (cJ, 1, .inr (.inl (fun _ => 0))))]) := hD
  refine lv_astore (lv' := [(4, .ref q9), (0, .ref o), (1, .int x1), (2, .int 0), (3, .ref ao)]) hx hb dL_fault_13 hl (by decide) rfl (fun ls hl => ?_)
  refine lv_iconst (v := 1) hx hb dL_fault_15 (by decide) ?_
  exact vx_ret (wEnd S hr hlocks hP hD hS (Nat.le_of_ble_eq_true rfl) (Nat.le_of_ble_eq_true rfl) dL_fault_16 rfl)

set_option maxHeartbeats 8000000 in
set_option maxRecDepth 100000 in
theorem c_X9_fault_0 (l : Launch) (D : va_G) (cI cZ cJ : ClassId) (o : Nat) (q : Nat → Nat) (sz : Nat) (x1 : Int32) (hi_x1 : x1 ≤ (-1)) : Met l yX9_fault (uW yX9_fault cX9_fault 3 (some .int)) ({ frames := 2, cells := 1, slots := 111, locals := 49 }) (va_Pc [.ref o, .int x1, .int 0] (wS D (tyL cI cZ cJ) (mW o 0 q cI cZ) sz)) (wQi (0) D (mW o 1 q cI cZ) (va_A (mW o 0 q cI cZ) sz)) 1 111 (va_A (mW o 0 q cI cZ) sz) := by
  refine wStart (lv := [(0, .ref o), (1, .int x1), (2, .int 0)]) (Qc := fun A => wQi (0) D (mW o 1 q cI cZ) A) (by decide) (Nat.le_of_ble_eq_true rfl) rfl ?_
  intro p e s m args below meth c ls A H S hr hlocks hnm hl hK hP hD hS hA
  have hx := S.1
  have hb := S.2.1
  refine lv_aload_n hx hb dX9_fault_0 rfl (lv_at hl 0 rfl) ?_
  refine lv_iconst (v := 0) hx hb dX9_fault_1 (by decide) ?_
  refine xp (ci := 9) (v := .int 0) S inX9 tyX9 tyX9_ok nmX9 rfl hK hP hD hS mW_0 0 (by decide) kw_6_148 rfl rfl rfl rfl (Nat.le_of_ble_eq_true rfl) dX9_fault_2 (fun H locs hP hD hS => ?_)
  have hP : va_P D vwCl (mW o 0 q cI cZ) H := hP
  have hD : va_D A (mW o 0 q cI cZ) := hD
  refine lv_iload_n hx hb dX9_fault_5 rfl (lv_at hl 1 rfl) ?_
  refine lv_iconst (v := 0) hx hb dX9_fault_6 (by decide) ?_
  refine lv_aload_n hx hb dX9_fault_7 rfl (lv_at hl 0 rfl) ?_
  refine wrV (As := []) (ci := 9) S (c_X9_faults_0 l D cI cZ cJ o q H.size) mi_X9_faults kw_7_230 rfl rfl ⟨Nat.le_of_ble_eq_true rfl, Nat.le_of_ble_eq_true rfl⟩ hP hD hK hS hA mW_0 rfl rfl hl.1 (Nat.le_of_ble_eq_true rfl) ⟨Nat.le_of_ble_eq_true rfl, Nat.le_of_ble_eq_true rfl⟩ dX9_fault_8 (fun H locs hz hP hD hS => ?_)
  refine lv_iconst (v := 1) hx hb dX9_fault_11 (by decide) ?_
  refine xisub (v := 0) S dX9_fault_12 (by decide) ?_
  refine rdS (As := [.int x1, .int 0, .int 0]) S (c_X9_isIn_0 l D cI cZ cJ o q x1 hi_x1) ms_X9_isIn kw_7_101 ⟨rfl, rfl⟩ ⟨Nat.le_of_ble_eq_true rfl, Nat.le_of_ble_eq_true rfl⟩ hP hK hl.1 (Nat.le_of_ble_eq_true rfl) ⟨Nat.le_of_ble_eq_true rfl, Nat.le_of_ble_eq_true rfl⟩ dX9_fault_13 ?_
  refine lv_if_ne (tgt := 25) hx hb dX9_fault_16 (by decide) (fun c => absurd c (by decide)) (fun _ => ?_)
  refine lv_aload_n hx hb dX9_fault_19 rfl (lv_at hl 0 rfl) ?_
  refine lv_iconst (v := 1) hx hb dX9_fault_20 (by decide) ?_
  refine wrV (As := [.int 1]) (ci := 9) S (c_X9_no_0 l D cI cZ cJ o q H.size) mi_X9_no kw_7_104 rfl rfl ⟨Nat.le_of_ble_eq_true rfl, Nat.le_of_ble_eq_true rfl⟩ hP hD hK hS hA mW_0 rfl rfl hl.1 (Nat.le_of_ble_eq_true rfl) ⟨Nat.le_of_ble_eq_true rfl, Nat.le_of_ble_eq_true rfl⟩ dX9_fault_21 (fun H locs hz hP hD hS => ?_)
  exact wEnd S hr hlocks hP hD hS (Nat.le_of_ble_eq_true rfl) (Nat.le_of_ble_eq_true rfl) dX9_fault_24 rfl

set_option maxHeartbeats 8000000 in
set_option maxRecDepth 100000 in
theorem h_fault_1 (l : Launch) (D : va_G) (cI cZ cJ : ClassId) (o : Nat) (u : Nat → Nat) (ao : Nat) (hst : l.stackTraces = false) (ra ga : Nat → Nat) (sz : Nat) (x1 : Int32) (lo_x1 : 1 ≤ x1) : vx_Met l yL_fault (uWh yL_fault cL_fault 5 (some .int) [(0, 10, 13, 13), (0, 10, 17, 15)]) ({ frames := 8, cells := 1, slots := 6, locals := 124 }) (va_Pc [.ref o, .int x1, .int 0, .ref ao] (lS ra ga D (tyL cI cZ cJ) ((xW o u cI cZ cJ) ++ [(ao, .inl (cJ, 1, .inr (.inl (fun _ => 0))))]) sz)) (wQi (1) D ((((((((xW o u cI cZ cJ).set 0 (o, .inr (8, ((xF u).set 9 (.int 0))))).set 32 ((u 31), .inl (cZ, 10, .inl (upd (upd (upd (upd (upd (upd (upd (upd (upd (upd (fun _ => 0) (0 : Int32).toNatClampNeg 0) (1 : Int32).toNatClampNeg 0) (2 : Int32).toNatClampNeg 0) (3 : Int32).toNatClampNeg 0) (4 : Int32).toNatClampNeg 0) (5 : Int32).toNatClampNeg 0) (6 : Int32).toNatClampNeg 0) (7 : Int32).toNatClampNeg 0) (8 : Int32).toNatClampNeg 0) (9 : Int32).toNatClampNeg 0)))).set 34 ((u 33), .inr (2, ([.ref (u 0), .ref (u 12), .ref (u 19), .int 0, .ref (u 34), .ref (u 35), .ref (u 36), .ref (u 37), .int 0].set 3 (.int 1))))).set 35 ((u 34), .inl (cI, 120, .inl (upd (fun _ => 0) (0 : Int32).toNatClampNeg 10)))).set 36 ((u 35), .inl (cI, 120, .inl (upd (fun _ => 0) (0 : Int32).toNatClampNeg 0)))).set 37 ((u 36), .inl (cI, 120, .inl (upd (fun _ => 0) (0 : Int32).toNatClampNeg (-1))))) ++ [(ao, .inl (cJ, 1, .inr (.inl (fun _ => 0))))]) (va_A ((xW o u cI cZ cJ) ++ [(ao, .inl (cJ, 1, .inr (.inl (fun _ => 0))))]) sz)) (xN (va_A ((xW o u cI cZ cJ) ++ [(ao, .inl (cJ, 1, .inr (.inl (fun _ => 0))))]) sz)) 1 6 (va_A ((xW o u cI cZ cJ) ++ [(ao, .inl (cJ, 1, .inr (.inl (fun _ => 0))))]) sz) := by
  refine hStart (l := l) (y := yL_fault) (b := cL_fault) (n := 5) (r := (some .int)) (hh := [(0, 10, 13, 13), (0, 10, 17, 15)]) (rm := ({ frames := 8, cells := 1, slots := 6, locals := 124 })) (mc := 1) (ms := 6) (ra := ra) (ga := ga) (D := D) (tys := tyL cI cZ cJ) (ws := ((xW o u cI cZ cJ) ++ [(ao, .inl (cJ, 1, .inr (.inl (fun _ => 0))))])) (av := [.ref o, .int x1, .int 0, .ref ao]) (sz := sz) (lv := [(0, .ref o), (1, .int x1), (2, .int 0), (3, .ref ao)]) (Qc := fun A => wQi (1) D ((((((((xW o u cI cZ cJ).set 0 (o, .inr (8, ((xF u).set 9 (.int 0))))).set 32 ((u 31), .inl (cZ, 10, .inl (upd (upd (upd (upd (upd (upd (upd (upd (upd (upd (fun _ => 0) (0 : Int32).toNatClampNeg 0) (1 : Int32).toNatClampNeg 0) (2 : Int32).toNatClampNeg 0) (3 : Int32).toNatClampNeg 0) (4 : Int32).toNatClampNeg 0) (5 : Int32).toNatClampNeg 0) (6 : Int32).toNatClampNeg 0) (7 : Int32).toNatClampNeg 0) (8 : Int32).toNatClampNeg 0) (9 : Int32).toNatClampNeg 0)))).set 34 ((u 33), .inr (2, ([.ref (u 0), .ref (u 12), .ref (u 19), .int 0, .ref (u 34), .ref (u 35), .ref (u 36), .ref (u 37), .int 0].set 3 (.int 1))))).set 35 ((u 34), .inl (cI, 120, .inl (upd (fun _ => 0) (0 : Int32).toNatClampNeg 10)))).set 36 ((u 35), .inl (cI, 120, .inl (upd (fun _ => 0) (0 : Int32).toNatClampNeg 0)))).set 37 ((u 36), .inl (cI, 120, .inl (upd (fun _ => 0) (0 : Int32).toNatClampNeg (-1))))) ++ [(ao, .inl (cJ, 1, .inr (.inl (fun _ => 0))))]) A) (by decide) (Nat.le_of_ble_eq_true rfl) rfl ?_
  intro p e s m args below meth c ls A H S hr hlocks htab hl hK hP hD hS hA hB hC
  have hx := S.1
  have hb := S.2.1
  refine lv_aload_n hx hb dL_fault_0 rfl (lv_at hl 3 rfl) ?_
  refine lv_iconst (v := 0) hx hb dL_fault_1 (by decide) ?_
  refine lv_aload_n hx hb dL_fault_2 rfl (lv_at hl 0 rfl) ?_
  refine lv_iload_n hx hb dL_fault_3 rfl (lv_at hl 1 rfl) ?_
  refine lv_iload_n hx hb dL_fault_4 rfl (lv_at hl 2 rfl) ?_
  refine cVi [] [(ao, .inl (cJ, 1, .inr (.inl (fun _ => 0))))] (As := [.int x1, .int 0]) (ci := 8) S (c_X8_fault_1 l D cI cZ cJ o u hst ra ga H.size x1 lo_x1) mi_X8_fault kw_6_80 rfl rfl ⟨Nat.le_of_ble_eq_true rfl, Nat.le_of_ble_eq_true rfl⟩ hP hD hK hS hA hB xW_0 rfl rfl hl.1 (Nat.le_of_ble_eq_true rfl) ⟨Nat.le_of_ble_eq_true rfl, Nat.le_of_ble_eq_true rfl⟩ dL_fault_5 (fun ce q9 H locs hz hP hD hS hce hcv hcl => ?_)
  refine vx_catch (name := "java/lang/IndexOutOfBoundsException") S.2.2.2.1 [] (⟨0, 10, 13, 13⟩ : ExceptionTableEntry) [(⟨0, 10, 17, 15⟩ : ExceptionTableEntry)] (htab.trans rfl) (fun _ h => absurd h List.not_mem_nil) (by decide) (by decide) (S.2.2.2.2 _ kw_5_176) (va_Nw.use rfl hB.c0) hce hcv hcl ?_
  have hP : va_P D vwCl ((((((((xW o u cI cZ cJ).set 0 (o, .inr (8, ((xF u).set 9 (.int 0))))).set 32 ((u 31), .inl (cZ, 10, .inl (upd (upd (upd (upd (upd (upd (upd (upd (upd (upd (fun _ => 0) (0 : Int32).toNatClampNeg 0) (1 : Int32).toNatClampNeg 0) (2 : Int32).toNatClampNeg 0) (3 : Int32).toNatClampNeg 0) (4 : Int32).toNatClampNeg 0) (5 : Int32).toNatClampNeg 0) (6 : Int32).toNatClampNeg 0) (7 : Int32).toNatClampNeg 0) (8 : Int32).toNatClampNeg 0) (9 : Int32).toNatClampNeg 0)))).set 34 ((u 33), .inr (2, ([.ref (u 0), .ref (u 12), .ref (u 19), .int 0, .ref (u 34), .ref (u 35), .ref (u 36), .ref (u 37), .int 0].set 3 (.int 1))))).set 35 ((u 34), .inl (cI, 120, .inl (upd (fun _ => 0) (0 : Int32).toNatClampNeg 10)))).set 36 ((u 35), .inl (cI, 120, .inl (upd (fun _ => 0) (0 : Int32).toNatClampNeg 0)))).set 37 ((u 36), .inl (cI, 120, .inl (upd (fun _ => 0) (0 : Int32).toNatClampNeg (-1))))) ++ [(ao, .inl (cJ, 1, .inr (.inl (fun _ => 0))))]) H := hP
  have hD : va_D A ((((((((xW o u cI cZ cJ).set 0 (o, .inr (8, ((xF u).set 9 (.int 0))))).set 32 ((u 31), .inl (cZ, 10, .inl (upd (upd (upd (upd (upd (upd (upd (upd (upd (upd (fun _ => 0) (0 : Int32).toNatClampNeg 0) (1 : Int32).toNatClampNeg 0) (2 : Int32).toNatClampNeg 0) (3 : Int32).toNatClampNeg 0) (4 : Int32).toNatClampNeg 0) (5 : Int32).toNatClampNeg 0) (6 : Int32).toNatClampNeg 0) (7 : Int32).toNatClampNeg 0) (8 : Int32).toNatClampNeg 0) (9 : Int32).toNatClampNeg 0)))).set 34 ((u 33), .inr (2, ([.ref (u 0), .ref (u 12), .ref (u 19), .int 0, .ref (u 34), .ref (u 35), .ref (u 36), .ref (u 37), .int 0].set 3 (.int 1))))).set 35 ((u 34), .inl (cI, 120, .inl (upd (fun _ => 0) (0 : Int32).toNatClampNeg 10)))).set 36 ((u 35), .inl (cI, 120, .inl (upd (fun _ => 0) (0 : Int32).toNatClampNeg 0)))).set 37 ((u 36), .inl (cI, 120, .inl (upd (fun _ => 0) (0 : Int32).toNatClampNeg (-1))))) ++ [(ao, .inl (cJ, 1, .inr (.inl (fun _ => 0))))]) := hD
  refine lv_astore (lv' := [(4, .ref q9), (0, .ref o), (1, .int x1), (2, .int 0), (3, .ref ao)]) hx hb dL_fault_13 hl (by decide) rfl (fun ls hl => ?_)
  refine lv_iconst (v := 1) hx hb dL_fault_15 (by decide) ?_
  exact vx_ret (wEnd S hr hlocks hP hD hS (Nat.le_of_ble_eq_true rfl) (Nat.le_of_ble_eq_true rfl) dL_fault_16 rfl)

set_option maxHeartbeats 8000000 in
set_option maxRecDepth 100000 in
theorem c_X9_fault_1 (l : Launch) (D : va_G) (cI cZ cJ : ClassId) (o : Nat) (q : Nat → Nat) (sz : Nat) (x1 : Int32) (lo_x1 : 1 ≤ x1) : Met l yX9_fault (uW yX9_fault cX9_fault 3 (some .int)) ({ frames := 2, cells := 1, slots := 111, locals := 49 }) (va_Pc [.ref o, .int x1, .int 0] (wS D (tyL cI cZ cJ) (mW o 0 q cI cZ) sz)) (wQi (0) D (mW o 1 q cI cZ) (va_A (mW o 0 q cI cZ) sz)) 1 111 (va_A (mW o 0 q cI cZ) sz) := by
  refine wStart (lv := [(0, .ref o), (1, .int x1), (2, .int 0)]) (Qc := fun A => wQi (0) D (mW o 1 q cI cZ) A) (by decide) (Nat.le_of_ble_eq_true rfl) rfl ?_
  intro p e s m args below meth c ls A H S hr hlocks hnm hl hK hP hD hS hA
  have hx := S.1
  have hb := S.2.1
  refine lv_aload_n hx hb dX9_fault_0 rfl (lv_at hl 0 rfl) ?_
  refine lv_iconst (v := 0) hx hb dX9_fault_1 (by decide) ?_
  refine xp (ci := 9) (v := .int 0) S inX9 tyX9 tyX9_ok nmX9 rfl hK hP hD hS mW_0 0 (by decide) kw_6_148 rfl rfl rfl rfl (Nat.le_of_ble_eq_true rfl) dX9_fault_2 (fun H locs hP hD hS => ?_)
  have hP : va_P D vwCl (mW o 0 q cI cZ) H := hP
  have hD : va_D A (mW o 0 q cI cZ) := hD
  refine lv_iload_n hx hb dX9_fault_5 rfl (lv_at hl 1 rfl) ?_
  refine lv_iconst (v := 0) hx hb dX9_fault_6 (by decide) ?_
  refine lv_aload_n hx hb dX9_fault_7 rfl (lv_at hl 0 rfl) ?_
  refine wrV (As := []) (ci := 9) S (c_X9_faults_0 l D cI cZ cJ o q H.size) mi_X9_faults kw_7_230 rfl rfl ⟨Nat.le_of_ble_eq_true rfl, Nat.le_of_ble_eq_true rfl⟩ hP hD hK hS hA mW_0 rfl rfl hl.1 (Nat.le_of_ble_eq_true rfl) ⟨Nat.le_of_ble_eq_true rfl, Nat.le_of_ble_eq_true rfl⟩ dX9_fault_8 (fun H locs hz hP hD hS => ?_)
  refine lv_iconst (v := 1) hx hb dX9_fault_11 (by decide) ?_
  refine xisub (v := 0) S dX9_fault_12 (by decide) ?_
  refine rdS (As := [.int x1, .int 0, .int 0]) S (c_X9_isIn_1 l D cI cZ cJ o q x1 lo_x1) ms_X9_isIn kw_7_101 ⟨rfl, rfl⟩ ⟨Nat.le_of_ble_eq_true rfl, Nat.le_of_ble_eq_true rfl⟩ hP hK hl.1 (Nat.le_of_ble_eq_true rfl) ⟨Nat.le_of_ble_eq_true rfl, Nat.le_of_ble_eq_true rfl⟩ dX9_fault_13 ?_
  refine lv_if_ne (tgt := 25) hx hb dX9_fault_16 (by decide) (fun c => absurd c (by decide)) (fun _ => ?_)
  refine lv_aload_n hx hb dX9_fault_19 rfl (lv_at hl 0 rfl) ?_
  refine lv_iconst (v := 1) hx hb dX9_fault_20 (by decide) ?_
  refine wrV (As := [.int 1]) (ci := 9) S (c_X9_no_0 l D cI cZ cJ o q H.size) mi_X9_no kw_7_104 rfl rfl ⟨Nat.le_of_ble_eq_true rfl, Nat.le_of_ble_eq_true rfl⟩ hP hD hK hS hA mW_0 rfl rfl hl.1 (Nat.le_of_ble_eq_true rfl) ⟨Nat.le_of_ble_eq_true rfl, Nat.le_of_ble_eq_true rfl⟩ dX9_fault_21 (fun H locs hz hP hD hS => ?_)
  exact wEnd S hr hlocks hP hD hS (Nat.le_of_ble_eq_true rfl) (Nat.le_of_ble_eq_true rfl) dX9_fault_24 rfl

set_option maxHeartbeats 8000000 in
set_option maxRecDepth 100000 in
theorem h_fault_2 (l : Launch) (D : va_G) (cI cZ cJ : ClassId) (o : Nat) (u : Nat → Nat) (ao : Nat) (hst : l.stackTraces = false) (ra ga : Nat → Nat) (sz : Nat) : vx_Met l yL_fault (uWh yL_fault cL_fault 5 (some .int) [(0, 10, 13, 13), (0, 10, 17, 15)]) ({ frames := 5, cells := 0, slots := 0, locals := 107 }) (va_Pc [.ref o, .int 0, .int 0, .ref ao] (lS ra ga D (tyL cI cZ cJ) ((xW o u cI cZ cJ) ++ [(ao, .inl (cJ, 1, .inr (.inl (fun _ => 0))))]) sz)) (wQi (0) D ((((((((xW o u cI cZ cJ).set 0 (o, .inr (8, ((xF u).set 9 (.int 0))))).set 32 ((u 31), .inl (cZ, 10, .inl (upd (upd (upd (upd (upd (upd (upd (upd (upd (upd (fun _ => 0) (0 : Int32).toNatClampNeg 0) (1 : Int32).toNatClampNeg 0) (2 : Int32).toNatClampNeg 0) (3 : Int32).toNatClampNeg 0) (4 : Int32).toNatClampNeg 0) (5 : Int32).toNatClampNeg 0) (6 : Int32).toNatClampNeg 0) (7 : Int32).toNatClampNeg 0) (8 : Int32).toNatClampNeg 0) (9 : Int32).toNatClampNeg 0)))).set 34 ((u 33), .inr (2, ([.ref (u 0), .ref (u 12), .ref (u 19), .int 0, .ref (u 34), .ref (u 35), .ref (u 36), .ref (u 37), .int 0].set 3 (.int 1))))).set 35 ((u 34), .inl (cI, 120, .inl (upd (fun _ => 0) (0 : Int32).toNatClampNeg 10)))).set 36 ((u 35), .inl (cI, 120, .inl (upd (fun _ => 0) (0 : Int32).toNatClampNeg 0)))).set 37 ((u 36), .inl (cI, 120, .inl (upd (fun _ => 0) (0 : Int32).toNatClampNeg (-1))))) ++ [(ao, .inl (cJ, 1, .inr (.inl (vp_updL (fun _ => 0) (0 : Int32).toNatClampNeg 10))))]) (va_A ((xW o u cI cZ cJ) ++ [(ao, .inl (cJ, 1, .inr (.inl (fun _ => 0))))]) sz)) (xN (va_A ((xW o u cI cZ cJ) ++ [(ao, .inl (cJ, 1, .inr (.inl (fun _ => 0))))]) sz)) 0 0 (va_A ((xW o u cI cZ cJ) ++ [(ao, .inl (cJ, 1, .inr (.inl (fun _ => 0))))]) sz) := by
  refine hStart (l := l) (y := yL_fault) (b := cL_fault) (n := 5) (r := (some .int)) (hh := [(0, 10, 13, 13), (0, 10, 17, 15)]) (rm := ({ frames := 5, cells := 0, slots := 0, locals := 107 })) (mc := 0) (ms := 0) (ra := ra) (ga := ga) (D := D) (tys := tyL cI cZ cJ) (ws := ((xW o u cI cZ cJ) ++ [(ao, .inl (cJ, 1, .inr (.inl (fun _ => 0))))])) (av := [.ref o, .int 0, .int 0, .ref ao]) (sz := sz) (lv := [(0, .ref o), (1, .int 0), (2, .int 0), (3, .ref ao)]) (Qc := fun A => wQi (0) D ((((((((xW o u cI cZ cJ).set 0 (o, .inr (8, ((xF u).set 9 (.int 0))))).set 32 ((u 31), .inl (cZ, 10, .inl (upd (upd (upd (upd (upd (upd (upd (upd (upd (upd (fun _ => 0) (0 : Int32).toNatClampNeg 0) (1 : Int32).toNatClampNeg 0) (2 : Int32).toNatClampNeg 0) (3 : Int32).toNatClampNeg 0) (4 : Int32).toNatClampNeg 0) (5 : Int32).toNatClampNeg 0) (6 : Int32).toNatClampNeg 0) (7 : Int32).toNatClampNeg 0) (8 : Int32).toNatClampNeg 0) (9 : Int32).toNatClampNeg 0)))).set 34 ((u 33), .inr (2, ([.ref (u 0), .ref (u 12), .ref (u 19), .int 0, .ref (u 34), .ref (u 35), .ref (u 36), .ref (u 37), .int 0].set 3 (.int 1))))).set 35 ((u 34), .inl (cI, 120, .inl (upd (fun _ => 0) (0 : Int32).toNatClampNeg 10)))).set 36 ((u 35), .inl (cI, 120, .inl (upd (fun _ => 0) (0 : Int32).toNatClampNeg 0)))).set 37 ((u 36), .inl (cI, 120, .inl (upd (fun _ => 0) (0 : Int32).toNatClampNeg (-1))))) ++ [(ao, .inl (cJ, 1, .inr (.inl (vp_updL (fun _ => 0) (0 : Int32).toNatClampNeg 10))))]) A) (by decide) (Nat.le_of_ble_eq_true rfl) rfl ?_
  intro p e s m args below meth c ls A H S hr hlocks htab hl hK hP hD hS hA hB hC
  have hx := S.1
  have hb := S.2.1
  refine lv_aload_n hx hb dL_fault_0 rfl (lv_at hl 3 rfl) ?_
  refine lv_iconst (v := 0) hx hb dL_fault_1 (by decide) ?_
  refine lv_aload_n hx hb dL_fault_2 rfl (lv_at hl 0 rfl) ?_
  refine lv_iload_n hx hb dL_fault_3 rfl (lv_at hl 1 rfl) ?_
  refine lv_iload_n hx hb dL_fault_4 rfl (lv_at hl 2 rfl) ?_
  refine faVi [] [(ao, .inl (cJ, 1, .inr (.inl (fun _ => 0))))] (As := [.int 0, .int 0]) (ci := 8) S (c_X8_fault_2 l D cI cZ cJ o u ra ga H.size) mi_X8_fault kw_6_80 rfl rfl ⟨Nat.le_of_ble_eq_true rfl, Nat.le_of_ble_eq_true rfl⟩ hP hD hK hS hA hB xW_0 rfl rfl hl.1 (Nat.le_of_ble_eq_true rfl) ⟨Nat.le_of_ble_eq_true rfl, Nat.le_of_ble_eq_true rfl⟩ dL_fault_5 (fun H locs hz hP hD hS => ?_)
  have hP : va_P D vwCl ((((((((xW o u cI cZ cJ).set 0 (o, .inr (8, ((xF u).set 9 (.int 0))))).set 32 ((u 31), .inl (cZ, 10, .inl (upd (upd (upd (upd (upd (upd (upd (upd (upd (upd (fun _ => 0) (0 : Int32).toNatClampNeg 0) (1 : Int32).toNatClampNeg 0) (2 : Int32).toNatClampNeg 0) (3 : Int32).toNatClampNeg 0) (4 : Int32).toNatClampNeg 0) (5 : Int32).toNatClampNeg 0) (6 : Int32).toNatClampNeg 0) (7 : Int32).toNatClampNeg 0) (8 : Int32).toNatClampNeg 0) (9 : Int32).toNatClampNeg 0)))).set 34 ((u 33), .inr (2, ([.ref (u 0), .ref (u 12), .ref (u 19), .int 0, .ref (u 34), .ref (u 35), .ref (u 36), .ref (u 37), .int 0].set 3 (.int 1))))).set 35 ((u 34), .inl (cI, 120, .inl (upd (fun _ => 0) (0 : Int32).toNatClampNeg 10)))).set 36 ((u 35), .inl (cI, 120, .inl (upd (fun _ => 0) (0 : Int32).toNatClampNeg 0)))).set 37 ((u 36), .inl (cI, 120, .inl (upd (fun _ => 0) (0 : Int32).toNatClampNeg (-1))))) ++ [(ao, .inl (cJ, 1, .inr (.inl (fun _ => 0))))]) H := hP
  have hD : va_D A ((((((((xW o u cI cZ cJ).set 0 (o, .inr (8, ((xF u).set 9 (.int 0))))).set 32 ((u 31), .inl (cZ, 10, .inl (upd (upd (upd (upd (upd (upd (upd (upd (upd (upd (fun _ => 0) (0 : Int32).toNatClampNeg 0) (1 : Int32).toNatClampNeg 0) (2 : Int32).toNatClampNeg 0) (3 : Int32).toNatClampNeg 0) (4 : Int32).toNatClampNeg 0) (5 : Int32).toNatClampNeg 0) (6 : Int32).toNatClampNeg 0) (7 : Int32).toNatClampNeg 0) (8 : Int32).toNatClampNeg 0) (9 : Int32).toNatClampNeg 0)))).set 34 ((u 33), .inr (2, ([.ref (u 0), .ref (u 12), .ref (u 19), .int 0, .ref (u 34), .ref (u 35), .ref (u 36), .ref (u 37), .int 0].set 3 (.int 1))))).set 35 ((u 34), .inl (cI, 120, .inl (upd (fun _ => 0) (0 : Int32).toNatClampNeg 10)))).set 36 ((u 35), .inl (cI, 120, .inl (upd (fun _ => 0) (0 : Int32).toNatClampNeg 0)))).set 37 ((u 36), .inl (cI, 120, .inl (upd (fun _ => 0) (0 : Int32).toNatClampNeg (-1))))) ++ [(ao, .inl (cJ, 1, .inr (.inl (fun _ => 0))))]) := hD
  refine lv_i2l (v := 10) hx hb dL_fault_8 (by decide) ?_
  refine xlast (t0 := 2) S hK hP hD hS (q0 := 88) rfl rfl (vin rfl) dL_fault_9 (fun H locs hP hD hS => ?_)
  have hP : va_P D vwCl ((((((((xW o u cI cZ cJ).set 0 (o, .inr (8, ((xF u).set 9 (.int 0))))).set 32 ((u 31), .inl (cZ, 10, .inl (upd (upd (upd (upd (upd (upd (upd (upd (upd (upd (fun _ => 0) (0 : Int32).toNatClampNeg 0) (1 : Int32).toNatClampNeg 0) (2 : Int32).toNatClampNeg 0) (3 : Int32).toNatClampNeg 0) (4 : Int32).toNatClampNeg 0) (5 : Int32).toNatClampNeg 0) (6 : Int32).toNatClampNeg 0) (7 : Int32).toNatClampNeg 0) (8 : Int32).toNatClampNeg 0) (9 : Int32).toNatClampNeg 0)))).set 34 ((u 33), .inr (2, ([.ref (u 0), .ref (u 12), .ref (u 19), .int 0, .ref (u 34), .ref (u 35), .ref (u 36), .ref (u 37), .int 0].set 3 (.int 1))))).set 35 ((u 34), .inl (cI, 120, .inl (upd (fun _ => 0) (0 : Int32).toNatClampNeg 10)))).set 36 ((u 35), .inl (cI, 120, .inl (upd (fun _ => 0) (0 : Int32).toNatClampNeg 0)))).set 37 ((u 36), .inl (cI, 120, .inl (upd (fun _ => 0) (0 : Int32).toNatClampNeg (-1))))) ++ [(ao, .inl (cJ, 1, .inr (.inl (vp_updL (fun _ => 0) (0 : Int32).toNatClampNeg 10))))]) H := hP
  have hD : va_D A ((((((((xW o u cI cZ cJ).set 0 (o, .inr (8, ((xF u).set 9 (.int 0))))).set 32 ((u 31), .inl (cZ, 10, .inl (upd (upd (upd (upd (upd (upd (upd (upd (upd (upd (fun _ => 0) (0 : Int32).toNatClampNeg 0) (1 : Int32).toNatClampNeg 0) (2 : Int32).toNatClampNeg 0) (3 : Int32).toNatClampNeg 0) (4 : Int32).toNatClampNeg 0) (5 : Int32).toNatClampNeg 0) (6 : Int32).toNatClampNeg 0) (7 : Int32).toNatClampNeg 0) (8 : Int32).toNatClampNeg 0) (9 : Int32).toNatClampNeg 0)))).set 34 ((u 33), .inr (2, ([.ref (u 0), .ref (u 12), .ref (u 19), .int 0, .ref (u 34), .ref (u 35), .ref (u 36), .ref (u 37), .int 0].set 3 (.int 1))))).set 35 ((u 34), .inl (cI, 120, .inl (upd (fun _ => 0) (0 : Int32).toNatClampNeg 10)))).set 36 ((u 35), .inl (cI, 120, .inl (upd (fun _ => 0) (0 : Int32).toNatClampNeg 0)))).set 37 ((u 36), .inl (cI, 120, .inl (upd (fun _ => 0) (0 : Int32).toNatClampNeg (-1))))) ++ [(ao, .inl (cJ, 1, .inr (.inl (vp_updL (fun _ => 0) (0 : Int32).toNatClampNeg 10))))]) := hD
  refine lv_goto (tgt := 21) hx hb dL_fault_10 (by decide) ?_
  refine lv_iconst (v := 0) hx hb dL_fault_21 (by decide) ?_
  exact vx_ret (wEnd S hr hlocks hP hD hS (Nat.le_of_ble_eq_true rfl) (Nat.le_of_ble_eq_true rfl) dL_fault_22 rfl)

set_option maxHeartbeats 8000000 in
set_option maxRecDepth 100000 in
theorem c_X9_isIn_65 (l : Launch) (D : va_G) (cI cZ cJ : ClassId) (o : Nat) (q : Nat → Nat) : Met l yX9_isIn (uW yX9_isIn cX9_isIn 3 (some .boolean)) ({ frames := 0, cells := 0, slots := 0, locals := 0 }) (va_Pc [.int 0, .int 0, .int 2] (pS D (tyL cI cZ cJ) (mW o 0 q cI cZ))) (QcRead (1)) 0 0 (fun _ => False) := by
  refine rdStart (lv := [(0, .int 0), (1, .int 0), (2, .int 2)]) (by decide) (Nat.le_of_ble_eq_true rfl) rfl ?_
  intro p e s m args below meth c ls S hr hlocks hl hP hK
  have hx := S.1
  have hb := S.2.1
  refine lv_iload_n hx hb dX9_isIn_0 rfl (lv_at hl 0 rfl) ?_
  refine lv_iload_n hx hb dX9_isIn_1 rfl (lv_at hl 1 rfl) ?_
  refine lv_icmp_lt (tgt := 14) hx hb dX9_isIn_2 (by decide) (fun c => absurd c (by decide)) (fun _ => ?_)
  refine lv_iload_n hx hb dX9_isIn_5 rfl (lv_at hl 0 rfl) ?_
  refine lv_iload_n hx hb dX9_isIn_6 rfl (lv_at hl 2 rfl) ?_
  refine lv_icmp_gt (tgt := 14) hx hb dX9_isIn_7 (by decide) (fun c => absurd c (by decide)) (fun _ => ?_)
  refine lv_iconst (v := 1) hx hb dX9_isIn_10 (by decide) ?_
  refine lv_goto (tgt := 15) hx hb dX9_isIn_11 (by decide) ?_
  exact rdEndZ S hr hlocks dX9_isIn_15 rfl rfl

set_option maxHeartbeats 8000000 in
set_option maxRecDepth 100000 in
theorem c_X9_lookFor_1 (l : Launch) (D : va_G) (cI cZ cJ : ClassId) (o : Nat) (q : Nat → Nat) (sz : Nat) : Met l yX9_lookFor (uW yX9_lookFor cX9_lookFor 10 (some .int)) ({ frames := 0, cells := 1, slots := 111, locals := 0 }) (va_Pc [.ref o, .int 0, .int 0] (wS D (tyL cI cZ cJ) (mW o 0 q cI cZ) sz)) (wQi (10) D (mW o 0 q cI cZ) (va_A (mW o 0 q cI cZ) sz)) 1 111 (va_A (mW o 0 q cI cZ) sz) := by
  refine wStart (lv := [(0, .ref o), (1, .int 0), (2, .int 0)]) (Qc := fun A => wQi (10) D (mW o 0 q cI cZ) A) (by decide) (Nat.le_of_ble_eq_true rfl) rfl ?_
  intro p e s m args below meth c ls A H S hr hlocks hnm hl hK hP hD hS hA
  have hx := S.1
  have hb := S.2.1
  refine lv_iconst (v := 0) hx hb dX9_lookFor_0 (by decide) ?_
  refine lv_istore_n (lv' := [(3, .int 0), (0, .ref o), (1, .int 0), (2, .int 0)]) hx hb dX9_lookFor_1 rfl hl (by decide) rfl (fun ls hl => ?_)
  refine lv_bipush (v := 111) hx hb dX9_lookFor_2 (by decide) ?_
  refine xnewa (ty := .int) (t0 := 0) (N := 111) (a0 := (111, .inl (fun _ => 0))) S kw_1_100 rfl (Or.inl rfl) hK hP hD hS hA rfl (fun _ => rfl) (by decide) (by decide) (by decide) (Nat.le_of_ble_eq_true rfl) (Nat.le_of_ble_eq_true rfl) dX9_lookFor_4 (fun n1 H hP hD hS => ?_)
  refine lv_astore (lv' := [(4, .ref n1), (3, .int 0), (0, .ref o), (1, .int 0), (2, .int 0)]) hx hb dX9_lookFor_6 hl (by decide) rfl (fun ls hl => ?_)
  refine lv_iconst (v := 0) hx hb dX9_lookFor_8 (by decide) ?_
  refine lv_istore (lv' := [(5, .int 0), (4, .ref n1), (3, .int 0), (0, .ref o), (1, .int 0), (2, .int 0)]) hx hb dX9_lookFor_9 hl (by decide) rfl (fun ls hl => ?_)
  refine lv_iload hx hb dX9_lookFor_11 (lv_at hl 0 rfl) ?_
  refine lv_aload_n hx hb dX9_lookFor_13 rfl (lv_at hl 3 rfl) ?_
  refine xg (ci := 9) S inX9 rfl hK hP (q0 := 0) rfl 1 (by decide) mF_1 kw_6_149 rfl dX9_lookFor_14 ?_
  refine lv_icmp_ge (tgt := 200) hx hb dX9_lookFor_17 (by decide) (fun c => absurd c (by decide)) (fun _ => ?_)
  refine lv_aload_n hx hb dX9_lookFor_20 rfl (lv_at hl 3 rfl) ?_
  refine xg (ci := 9) S inX9 rfl hK hP (q0 := 0) rfl 7 (by decide) mF_7 kw_6_155 rfl dX9_lookFor_21 ?_
  refine lv_iload hx hb dX9_lookFor_24 (lv_at hl 0 rfl) ?_
  refine xiald (t0 := 0) (v := (-1)) S hK hP (q0 := 6) rfl rfl (vin rfl) rfl dX9_lookFor_26 ?_
  refine lv_iconst (v := (-1)) hx hb dX9_lookFor_27 (by decide) ?_
  refine lv_icmp_ne (tgt := 63) hx hb dX9_lookFor_28 (by decide) (fun c => absurd c (by decide)) (fun _ => ?_)
  refine lv_iload_n hx hb dX9_lookFor_31 rfl (lv_at hl 2 rfl) ?_
  refine lv_iload_n hx hb dX9_lookFor_32 rfl (lv_at hl 4 rfl) ?_
  refine lv_icmp_ne (tgt := 57) hx hb dX9_lookFor_33 (by decide) (fun c => absurd c (by decide)) (fun _ => ?_)
  refine lv_iload_n hx hb dX9_lookFor_36 rfl (lv_at hl 5 rfl) ?_
  refine lv_if_ne (tgt := 45) hx hb dX9_lookFor_37 (by decide) (fun c => absurd c (by decide)) (fun _ => ?_)
  refine lv_bipush (v := 10) hx hb dX9_lookFor_40 (by decide) ?_
  refine lv_goto (tgt := 56) hx hb dX9_lookFor_42 (by decide) ?_
  have hP := va_Pl (ws := (mW o 0 q cI cZ)) (x := [(n1, .inl (cI, 111, .inl (fun _ => 0)))]) hP
  have hD := va_Dl (ws := (mW o 0 q cI cZ)) (x := [(n1, .inl (cI, 111, .inl (fun _ => 0)))]) hD
  exact wEnd S hr hlocks hP hD hS (Nat.le_of_ble_eq_true rfl) (Nat.le_of_ble_eq_true rfl) dX9_lookFor_56 rfl

set_option maxHeartbeats 8000000 in
set_option maxRecDepth 100000 in
theorem c_X9_fault_2 (l : Launch) (D : va_G) (cI cZ cJ : ClassId) (o : Nat) (q : Nat → Nat) (sz : Nat) : Met l yX9_fault (uW yX9_fault cX9_fault 3 (some .int)) ({ frames := 2, cells := 2, slots := 222, locals := 49 }) (va_Pc [.ref o, .int 0, .int 0] (wS D (tyL cI cZ cJ) (mW o 0 q cI cZ) sz)) (wQi (10) D (mW o 0 q cI cZ) (va_A (mW o 0 q cI cZ) sz)) 2 222 (va_A (mW o 0 q cI cZ) sz) := by
  refine wStart (lv := [(0, .ref o), (1, .int 0), (2, .int 0)]) (Qc := fun A => wQi (10) D (mW o 0 q cI cZ) A) (by decide) (Nat.le_of_ble_eq_true rfl) rfl ?_
  intro p e s m args below meth c ls A H S hr hlocks hnm hl hK hP hD hS hA
  have hx := S.1
  have hb := S.2.1
  refine lv_aload_n hx hb dX9_fault_0 rfl (lv_at hl 0 rfl) ?_
  refine lv_iconst (v := 0) hx hb dX9_fault_1 (by decide) ?_
  refine xp (ci := 9) (v := .int 0) S inX9 tyX9 tyX9_ok nmX9 rfl hK hP hD hS mW_0 0 (by decide) kw_6_148 rfl rfl rfl rfl (Nat.le_of_ble_eq_true rfl) dX9_fault_2 (fun H locs hP hD hS => ?_)
  have hP : va_P D vwCl (mW o 0 q cI cZ) H := hP
  have hD : va_D A (mW o 0 q cI cZ) := hD
  refine lv_iload_n hx hb dX9_fault_5 rfl (lv_at hl 1 rfl) ?_
  refine lv_iconst (v := 0) hx hb dX9_fault_6 (by decide) ?_
  refine lv_aload_n hx hb dX9_fault_7 rfl (lv_at hl 0 rfl) ?_
  refine wrV (As := []) (ci := 9) S (c_X9_faults_0 l D cI cZ cJ o q H.size) mi_X9_faults kw_7_230 rfl rfl ⟨Nat.le_of_ble_eq_true rfl, Nat.le_of_ble_eq_true rfl⟩ hP hD hK hS hA mW_0 rfl rfl hl.1 (Nat.le_of_ble_eq_true rfl) ⟨Nat.le_of_ble_eq_true rfl, Nat.le_of_ble_eq_true rfl⟩ dX9_fault_8 (fun H locs hz hP hD hS => ?_)
  refine lv_iconst (v := 1) hx hb dX9_fault_11 (by decide) ?_
  refine xisub (v := 0) S dX9_fault_12 (by decide) ?_
  refine rdS (As := [.int 0, .int 0, .int 0]) S (c_X9_isIn_2 l D cI cZ cJ o q) ms_X9_isIn kw_7_101 ⟨rfl, rfl⟩ ⟨Nat.le_of_ble_eq_true rfl, Nat.le_of_ble_eq_true rfl⟩ hP hK hl.1 (Nat.le_of_ble_eq_true rfl) ⟨Nat.le_of_ble_eq_true rfl, Nat.le_of_ble_eq_true rfl⟩ dX9_fault_13 ?_
  refine lv_if_ne (tgt := 25) hx hb dX9_fault_16 (by decide) (fun _ => ?_) (fun c => absurd c (by decide))
  refine lv_iload_n hx hb dX9_fault_25 rfl (lv_at hl 2 rfl) ?_
  refine lv_iconst (v := 0) hx hb dX9_fault_26 (by decide) ?_
  refine lv_iconst (v := 2) hx hb dX9_fault_27 (by decide) ?_
  refine rdS (As := [.int 0, .int 0, .int 2]) S (c_X9_isIn_65 l D cI cZ cJ o q) ms_X9_isIn kw_7_101 ⟨rfl, rfl⟩ ⟨Nat.le_of_ble_eq_true rfl, Nat.le_of_ble_eq_true rfl⟩ hP hK hl.1 (Nat.le_of_ble_eq_true rfl) ⟨Nat.le_of_ble_eq_true rfl, Nat.le_of_ble_eq_true rfl⟩ dX9_fault_28 ?_
  refine lv_if_eq (tgt := 43) hx hb dX9_fault_31 (by decide) (fun c => absurd c (by decide)) (fun _ => ?_)
  refine lv_aload_n hx hb dX9_fault_34 rfl (lv_at hl 0 rfl) ?_
  refine lv_iload_n hx hb dX9_fault_35 rfl (lv_at hl 1 rfl) ?_
  refine lv_iload_n hx hb dX9_fault_36 rfl (lv_at hl 2 rfl) ?_
  refine wrV (As := [.int 0, .int 0]) (ci := 9) S (c_X9_lookFor_1 l D cI cZ cJ o q H.size) mi_X9_lookFor kw_7_234 rfl rfl ⟨Nat.le_of_ble_eq_true rfl, Nat.le_of_ble_eq_true rfl⟩ hP hD hK hS hA mW_0 rfl rfl hl.1 (Nat.le_of_ble_eq_true rfl) ⟨Nat.le_of_ble_eq_true rfl, Nat.le_of_ble_eq_true rfl⟩ dX9_fault_37 (fun H locs hz hP hD hS => ?_)
  refine lv_goto (tgt := 48) hx hb dX9_fault_40 (by decide) ?_
  exact wEnd S hr hlocks hP hD hS (Nat.le_of_ble_eq_true rfl) (Nat.le_of_ble_eq_true rfl) dX9_fault_48 rfl

set_option maxHeartbeats 8000000 in
set_option maxRecDepth 100000 in
theorem h_fault_3 (l : Launch) (D : va_G) (cI cZ cJ : ClassId) (o : Nat) (u : Nat → Nat) (ao : Nat) (hst : l.stackTraces = false) (ra ga : Nat → Nat) (sz : Nat) (x1 : Int32) (hi_x1 : x1 ≤ (-1)) : vx_Met l yL_fault (uWh yL_fault cL_fault 5 (some .int) [(0, 10, 13, 13), (0, 10, 17, 15)]) ({ frames := 8, cells := 1, slots := 6, locals := 124 }) (va_Pc [.ref o, .int x1, .int 1, .ref ao] (lS ra ga D (tyL cI cZ cJ) ((xW o u cI cZ cJ) ++ [(ao, .inl (cJ, 1, .inr (.inl (fun _ => 0))))]) sz)) (wQi (1) D ((((((((xW o u cI cZ cJ).set 0 (o, .inr (8, ((xF u).set 9 (.int 0))))).set 32 ((u 31), .inl (cZ, 10, .inl (upd (upd (upd (upd (upd (upd (upd (upd (upd (upd (fun _ => 0) (0 : Int32).toNatClampNeg 0) (1 : Int32).toNatClampNeg 0) (2 : Int32).toNatClampNeg 0) (3 : Int32).toNatClampNeg 0) (4 : Int32).toNatClampNeg 0) (5 : Int32).toNatClampNeg 0) (6 : Int32).toNatClampNeg 0) (7 : Int32).toNatClampNeg 0) (8 : Int32).toNatClampNeg 0) (9 : Int32).toNatClampNeg 0)))).set 34 ((u 33), .inr (2, ([.ref (u 0), .ref (u 12), .ref (u 19), .int 0, .ref (u 34), .ref (u 35), .ref (u 36), .ref (u 37), .int 0].set 3 (.int 1))))).set 35 ((u 34), .inl (cI, 120, .inl (upd (fun _ => 0) (0 : Int32).toNatClampNeg 10)))).set 36 ((u 35), .inl (cI, 120, .inl (upd (fun _ => 0) (0 : Int32).toNatClampNeg 0)))).set 37 ((u 36), .inl (cI, 120, .inl (upd (fun _ => 0) (0 : Int32).toNatClampNeg (-1))))) ++ [(ao, .inl (cJ, 1, .inr (.inl (fun _ => 0))))]) (va_A ((xW o u cI cZ cJ) ++ [(ao, .inl (cJ, 1, .inr (.inl (fun _ => 0))))]) sz)) (xN (va_A ((xW o u cI cZ cJ) ++ [(ao, .inl (cJ, 1, .inr (.inl (fun _ => 0))))]) sz)) 1 6 (va_A ((xW o u cI cZ cJ) ++ [(ao, .inl (cJ, 1, .inr (.inl (fun _ => 0))))]) sz) := by
  refine hStart (l := l) (y := yL_fault) (b := cL_fault) (n := 5) (r := (some .int)) (hh := [(0, 10, 13, 13), (0, 10, 17, 15)]) (rm := ({ frames := 8, cells := 1, slots := 6, locals := 124 })) (mc := 1) (ms := 6) (ra := ra) (ga := ga) (D := D) (tys := tyL cI cZ cJ) (ws := ((xW o u cI cZ cJ) ++ [(ao, .inl (cJ, 1, .inr (.inl (fun _ => 0))))])) (av := [.ref o, .int x1, .int 1, .ref ao]) (sz := sz) (lv := [(0, .ref o), (1, .int x1), (2, .int 1), (3, .ref ao)]) (Qc := fun A => wQi (1) D ((((((((xW o u cI cZ cJ).set 0 (o, .inr (8, ((xF u).set 9 (.int 0))))).set 32 ((u 31), .inl (cZ, 10, .inl (upd (upd (upd (upd (upd (upd (upd (upd (upd (upd (fun _ => 0) (0 : Int32).toNatClampNeg 0) (1 : Int32).toNatClampNeg 0) (2 : Int32).toNatClampNeg 0) (3 : Int32).toNatClampNeg 0) (4 : Int32).toNatClampNeg 0) (5 : Int32).toNatClampNeg 0) (6 : Int32).toNatClampNeg 0) (7 : Int32).toNatClampNeg 0) (8 : Int32).toNatClampNeg 0) (9 : Int32).toNatClampNeg 0)))).set 34 ((u 33), .inr (2, ([.ref (u 0), .ref (u 12), .ref (u 19), .int 0, .ref (u 34), .ref (u 35), .ref (u 36), .ref (u 37), .int 0].set 3 (.int 1))))).set 35 ((u 34), .inl (cI, 120, .inl (upd (fun _ => 0) (0 : Int32).toNatClampNeg 10)))).set 36 ((u 35), .inl (cI, 120, .inl (upd (fun _ => 0) (0 : Int32).toNatClampNeg 0)))).set 37 ((u 36), .inl (cI, 120, .inl (upd (fun _ => 0) (0 : Int32).toNatClampNeg (-1))))) ++ [(ao, .inl (cJ, 1, .inr (.inl (fun _ => 0))))]) A) (by decide) (Nat.le_of_ble_eq_true rfl) rfl ?_
  intro p e s m args below meth c ls A H S hr hlocks htab hl hK hP hD hS hA hB hC
  have hx := S.1
  have hb := S.2.1
  refine lv_aload_n hx hb dL_fault_0 rfl (lv_at hl 3 rfl) ?_
  refine lv_iconst (v := 0) hx hb dL_fault_1 (by decide) ?_
  refine lv_aload_n hx hb dL_fault_2 rfl (lv_at hl 0 rfl) ?_
  refine lv_iload_n hx hb dL_fault_3 rfl (lv_at hl 1 rfl) ?_
  refine lv_iload_n hx hb dL_fault_4 rfl (lv_at hl 2 rfl) ?_
  refine cVi [] [(ao, .inl (cJ, 1, .inr (.inl (fun _ => 0))))] (As := [.int x1, .int 1]) (ci := 8) S (c_X8_fault_3 l D cI cZ cJ o u hst ra ga H.size x1 hi_x1) mi_X8_fault kw_6_80 rfl rfl ⟨Nat.le_of_ble_eq_true rfl, Nat.le_of_ble_eq_true rfl⟩ hP hD hK hS hA hB xW_0 rfl rfl hl.1 (Nat.le_of_ble_eq_true rfl) ⟨Nat.le_of_ble_eq_true rfl, Nat.le_of_ble_eq_true rfl⟩ dL_fault_5 (fun ce q9 H locs hz hP hD hS hce hcv hcl => ?_)
  refine vx_catch (name := "java/lang/IndexOutOfBoundsException") S.2.2.2.1 [] (⟨0, 10, 13, 13⟩ : ExceptionTableEntry) [(⟨0, 10, 17, 15⟩ : ExceptionTableEntry)] (htab.trans rfl) (fun _ h => absurd h List.not_mem_nil) (by decide) (by decide) (S.2.2.2.2 _ kw_5_176) (va_Nw.use rfl hB.c0) hce hcv hcl ?_
  have hP : va_P D vwCl ((((((((xW o u cI cZ cJ).set 0 (o, .inr (8, ((xF u).set 9 (.int 0))))).set 32 ((u 31), .inl (cZ, 10, .inl (upd (upd (upd (upd (upd (upd (upd (upd (upd (upd (fun _ => 0) (0 : Int32).toNatClampNeg 0) (1 : Int32).toNatClampNeg 0) (2 : Int32).toNatClampNeg 0) (3 : Int32).toNatClampNeg 0) (4 : Int32).toNatClampNeg 0) (5 : Int32).toNatClampNeg 0) (6 : Int32).toNatClampNeg 0) (7 : Int32).toNatClampNeg 0) (8 : Int32).toNatClampNeg 0) (9 : Int32).toNatClampNeg 0)))).set 34 ((u 33), .inr (2, ([.ref (u 0), .ref (u 12), .ref (u 19), .int 0, .ref (u 34), .ref (u 35), .ref (u 36), .ref (u 37), .int 0].set 3 (.int 1))))).set 35 ((u 34), .inl (cI, 120, .inl (upd (fun _ => 0) (0 : Int32).toNatClampNeg 10)))).set 36 ((u 35), .inl (cI, 120, .inl (upd (fun _ => 0) (0 : Int32).toNatClampNeg 0)))).set 37 ((u 36), .inl (cI, 120, .inl (upd (fun _ => 0) (0 : Int32).toNatClampNeg (-1))))) ++ [(ao, .inl (cJ, 1, .inr (.inl (fun _ => 0))))]) H := hP
  have hD : va_D A ((((((((xW o u cI cZ cJ).set 0 (o, .inr (8, ((xF u).set 9 (.int 0))))).set 32 ((u 31), .inl (cZ, 10, .inl (upd (upd (upd (upd (upd (upd (upd (upd (upd (upd (fun _ => 0) (0 : Int32).toNatClampNeg 0) (1 : Int32).toNatClampNeg 0) (2 : Int32).toNatClampNeg 0) (3 : Int32).toNatClampNeg 0) (4 : Int32).toNatClampNeg 0) (5 : Int32).toNatClampNeg 0) (6 : Int32).toNatClampNeg 0) (7 : Int32).toNatClampNeg 0) (8 : Int32).toNatClampNeg 0) (9 : Int32).toNatClampNeg 0)))).set 34 ((u 33), .inr (2, ([.ref (u 0), .ref (u 12), .ref (u 19), .int 0, .ref (u 34), .ref (u 35), .ref (u 36), .ref (u 37), .int 0].set 3 (.int 1))))).set 35 ((u 34), .inl (cI, 120, .inl (upd (fun _ => 0) (0 : Int32).toNatClampNeg 10)))).set 36 ((u 35), .inl (cI, 120, .inl (upd (fun _ => 0) (0 : Int32).toNatClampNeg 0)))).set 37 ((u 36), .inl (cI, 120, .inl (upd (fun _ => 0) (0 : Int32).toNatClampNeg (-1))))) ++ [(ao, .inl (cJ, 1, .inr (.inl (fun _ => 0))))]) := hD
  refine lv_astore (lv' := [(4, .ref q9), (0, .ref o), (1, .int x1), (2, .int 1), (3, .ref ao)]) hx hb dL_fault_13 hl (by decide) rfl (fun ls hl => ?_)
  refine lv_iconst (v := 1) hx hb dL_fault_15 (by decide) ?_
  exact vx_ret (wEnd S hr hlocks hP hD hS (Nat.le_of_ble_eq_true rfl) (Nat.le_of_ble_eq_true rfl) dL_fault_16 rfl)

set_option maxHeartbeats 8000000 in
set_option maxRecDepth 100000 in
theorem c_X9_fault_3 (l : Launch) (D : va_G) (cI cZ cJ : ClassId) (o : Nat) (q : Nat → Nat) (sz : Nat) (x1 : Int32) (hi_x1 : x1 ≤ (-1)) : Met l yX9_fault (uW yX9_fault cX9_fault 3 (some .int)) ({ frames := 2, cells := 1, slots := 111, locals := 49 }) (va_Pc [.ref o, .int x1, .int 1] (wS D (tyL cI cZ cJ) (mW o 0 q cI cZ) sz)) (wQi (0) D (mW o 1 q cI cZ) (va_A (mW o 0 q cI cZ) sz)) 1 111 (va_A (mW o 0 q cI cZ) sz) := by
  refine wStart (lv := [(0, .ref o), (1, .int x1), (2, .int 1)]) (Qc := fun A => wQi (0) D (mW o 1 q cI cZ) A) (by decide) (Nat.le_of_ble_eq_true rfl) rfl ?_
  intro p e s m args below meth c ls A H S hr hlocks hnm hl hK hP hD hS hA
  have hx := S.1
  have hb := S.2.1
  refine lv_aload_n hx hb dX9_fault_0 rfl (lv_at hl 0 rfl) ?_
  refine lv_iconst (v := 0) hx hb dX9_fault_1 (by decide) ?_
  refine xp (ci := 9) (v := .int 0) S inX9 tyX9 tyX9_ok nmX9 rfl hK hP hD hS mW_0 0 (by decide) kw_6_148 rfl rfl rfl rfl (Nat.le_of_ble_eq_true rfl) dX9_fault_2 (fun H locs hP hD hS => ?_)
  have hP : va_P D vwCl (mW o 0 q cI cZ) H := hP
  have hD : va_D A (mW o 0 q cI cZ) := hD
  refine lv_iload_n hx hb dX9_fault_5 rfl (lv_at hl 1 rfl) ?_
  refine lv_iconst (v := 0) hx hb dX9_fault_6 (by decide) ?_
  refine lv_aload_n hx hb dX9_fault_7 rfl (lv_at hl 0 rfl) ?_
  refine wrV (As := []) (ci := 9) S (c_X9_faults_0 l D cI cZ cJ o q H.size) mi_X9_faults kw_7_230 rfl rfl ⟨Nat.le_of_ble_eq_true rfl, Nat.le_of_ble_eq_true rfl⟩ hP hD hK hS hA mW_0 rfl rfl hl.1 (Nat.le_of_ble_eq_true rfl) ⟨Nat.le_of_ble_eq_true rfl, Nat.le_of_ble_eq_true rfl⟩ dX9_fault_8 (fun H locs hz hP hD hS => ?_)
  refine lv_iconst (v := 1) hx hb dX9_fault_11 (by decide) ?_
  refine xisub (v := 0) S dX9_fault_12 (by decide) ?_
  refine rdS (As := [.int x1, .int 0, .int 0]) S (c_X9_isIn_0 l D cI cZ cJ o q x1 hi_x1) ms_X9_isIn kw_7_101 ⟨rfl, rfl⟩ ⟨Nat.le_of_ble_eq_true rfl, Nat.le_of_ble_eq_true rfl⟩ hP hK hl.1 (Nat.le_of_ble_eq_true rfl) ⟨Nat.le_of_ble_eq_true rfl, Nat.le_of_ble_eq_true rfl⟩ dX9_fault_13 ?_
  refine lv_if_ne (tgt := 25) hx hb dX9_fault_16 (by decide) (fun c => absurd c (by decide)) (fun _ => ?_)
  refine lv_aload_n hx hb dX9_fault_19 rfl (lv_at hl 0 rfl) ?_
  refine lv_iconst (v := 1) hx hb dX9_fault_20 (by decide) ?_
  refine wrV (As := [.int 1]) (ci := 9) S (c_X9_no_0 l D cI cZ cJ o q H.size) mi_X9_no kw_7_104 rfl rfl ⟨Nat.le_of_ble_eq_true rfl, Nat.le_of_ble_eq_true rfl⟩ hP hD hK hS hA mW_0 rfl rfl hl.1 (Nat.le_of_ble_eq_true rfl) ⟨Nat.le_of_ble_eq_true rfl, Nat.le_of_ble_eq_true rfl⟩ dX9_fault_21 (fun H locs hz hP hD hS => ?_)
  exact wEnd S hr hlocks hP hD hS (Nat.le_of_ble_eq_true rfl) (Nat.le_of_ble_eq_true rfl) dX9_fault_24 rfl

set_option maxHeartbeats 8000000 in
set_option maxRecDepth 100000 in
theorem h_fault_4 (l : Launch) (D : va_G) (cI cZ cJ : ClassId) (o : Nat) (u : Nat → Nat) (ao : Nat) (hst : l.stackTraces = false) (ra ga : Nat → Nat) (sz : Nat) (x1 : Int32) (lo_x1 : 1 ≤ x1) : vx_Met l yL_fault (uWh yL_fault cL_fault 5 (some .int) [(0, 10, 13, 13), (0, 10, 17, 15)]) ({ frames := 8, cells := 1, slots := 6, locals := 124 }) (va_Pc [.ref o, .int x1, .int 1, .ref ao] (lS ra ga D (tyL cI cZ cJ) ((xW o u cI cZ cJ) ++ [(ao, .inl (cJ, 1, .inr (.inl (fun _ => 0))))]) sz)) (wQi (1) D ((((((((xW o u cI cZ cJ).set 0 (o, .inr (8, ((xF u).set 9 (.int 0))))).set 32 ((u 31), .inl (cZ, 10, .inl (upd (upd (upd (upd (upd (upd (upd (upd (upd (upd (fun _ => 0) (0 : Int32).toNatClampNeg 0) (1 : Int32).toNatClampNeg 0) (2 : Int32).toNatClampNeg 0) (3 : Int32).toNatClampNeg 0) (4 : Int32).toNatClampNeg 0) (5 : Int32).toNatClampNeg 0) (6 : Int32).toNatClampNeg 0) (7 : Int32).toNatClampNeg 0) (8 : Int32).toNatClampNeg 0) (9 : Int32).toNatClampNeg 0)))).set 34 ((u 33), .inr (2, ([.ref (u 0), .ref (u 12), .ref (u 19), .int 0, .ref (u 34), .ref (u 35), .ref (u 36), .ref (u 37), .int 0].set 3 (.int 1))))).set 35 ((u 34), .inl (cI, 120, .inl (upd (fun _ => 0) (0 : Int32).toNatClampNeg 10)))).set 36 ((u 35), .inl (cI, 120, .inl (upd (fun _ => 0) (0 : Int32).toNatClampNeg 0)))).set 37 ((u 36), .inl (cI, 120, .inl (upd (fun _ => 0) (0 : Int32).toNatClampNeg (-1))))) ++ [(ao, .inl (cJ, 1, .inr (.inl (fun _ => 0))))]) (va_A ((xW o u cI cZ cJ) ++ [(ao, .inl (cJ, 1, .inr (.inl (fun _ => 0))))]) sz)) (xN (va_A ((xW o u cI cZ cJ) ++ [(ao, .inl (cJ, 1, .inr (.inl (fun _ => 0))))]) sz)) 1 6 (va_A ((xW o u cI cZ cJ) ++ [(ao, .inl (cJ, 1, .inr (.inl (fun _ => 0))))]) sz) := by
  refine hStart (l := l) (y := yL_fault) (b := cL_fault) (n := 5) (r := (some .int)) (hh := [(0, 10, 13, 13), (0, 10, 17, 15)]) (rm := ({ frames := 8, cells := 1, slots := 6, locals := 124 })) (mc := 1) (ms := 6) (ra := ra) (ga := ga) (D := D) (tys := tyL cI cZ cJ) (ws := ((xW o u cI cZ cJ) ++ [(ao, .inl (cJ, 1, .inr (.inl (fun _ => 0))))])) (av := [.ref o, .int x1, .int 1, .ref ao]) (sz := sz) (lv := [(0, .ref o), (1, .int x1), (2, .int 1), (3, .ref ao)]) (Qc := fun A => wQi (1) D ((((((((xW o u cI cZ cJ).set 0 (o, .inr (8, ((xF u).set 9 (.int 0))))).set 32 ((u 31), .inl (cZ, 10, .inl (upd (upd (upd (upd (upd (upd (upd (upd (upd (upd (fun _ => 0) (0 : Int32).toNatClampNeg 0) (1 : Int32).toNatClampNeg 0) (2 : Int32).toNatClampNeg 0) (3 : Int32).toNatClampNeg 0) (4 : Int32).toNatClampNeg 0) (5 : Int32).toNatClampNeg 0) (6 : Int32).toNatClampNeg 0) (7 : Int32).toNatClampNeg 0) (8 : Int32).toNatClampNeg 0) (9 : Int32).toNatClampNeg 0)))).set 34 ((u 33), .inr (2, ([.ref (u 0), .ref (u 12), .ref (u 19), .int 0, .ref (u 34), .ref (u 35), .ref (u 36), .ref (u 37), .int 0].set 3 (.int 1))))).set 35 ((u 34), .inl (cI, 120, .inl (upd (fun _ => 0) (0 : Int32).toNatClampNeg 10)))).set 36 ((u 35), .inl (cI, 120, .inl (upd (fun _ => 0) (0 : Int32).toNatClampNeg 0)))).set 37 ((u 36), .inl (cI, 120, .inl (upd (fun _ => 0) (0 : Int32).toNatClampNeg (-1))))) ++ [(ao, .inl (cJ, 1, .inr (.inl (fun _ => 0))))]) A) (by decide) (Nat.le_of_ble_eq_true rfl) rfl ?_
  intro p e s m args below meth c ls A H S hr hlocks htab hl hK hP hD hS hA hB hC
  have hx := S.1
  have hb := S.2.1
  refine lv_aload_n hx hb dL_fault_0 rfl (lv_at hl 3 rfl) ?_
  refine lv_iconst (v := 0) hx hb dL_fault_1 (by decide) ?_
  refine lv_aload_n hx hb dL_fault_2 rfl (lv_at hl 0 rfl) ?_
  refine lv_iload_n hx hb dL_fault_3 rfl (lv_at hl 1 rfl) ?_
  refine lv_iload_n hx hb dL_fault_4 rfl (lv_at hl 2 rfl) ?_
  refine cVi [] [(ao, .inl (cJ, 1, .inr (.inl (fun _ => 0))))] (As := [.int x1, .int 1]) (ci := 8) S (c_X8_fault_4 l D cI cZ cJ o u hst ra ga H.size x1 lo_x1) mi_X8_fault kw_6_80 rfl rfl ⟨Nat.le_of_ble_eq_true rfl, Nat.le_of_ble_eq_true rfl⟩ hP hD hK hS hA hB xW_0 rfl rfl hl.1 (Nat.le_of_ble_eq_true rfl) ⟨Nat.le_of_ble_eq_true rfl, Nat.le_of_ble_eq_true rfl⟩ dL_fault_5 (fun ce q9 H locs hz hP hD hS hce hcv hcl => ?_)
  refine vx_catch (name := "java/lang/IndexOutOfBoundsException") S.2.2.2.1 [] (⟨0, 10, 13, 13⟩ : ExceptionTableEntry) [(⟨0, 10, 17, 15⟩ : ExceptionTableEntry)] (htab.trans rfl) (fun _ h => absurd h List.not_mem_nil) (by decide) (by decide) (S.2.2.2.2 _ kw_5_176) (va_Nw.use rfl hB.c0) hce hcv hcl ?_
  have hP : va_P D vwCl ((((((((xW o u cI cZ cJ).set 0 (o, .inr (8, ((xF u).set 9 (.int 0))))).set 32 ((u 31), .inl (cZ, 10, .inl (upd (upd (upd (upd (upd (upd (upd (upd (upd (upd (fun _ => 0) (0 : Int32).toNatClampNeg 0) (1 : Int32).toNatClampNeg 0) (2 : Int32).toNatClampNeg 0) (3 : Int32).toNatClampNeg 0) (4 : Int32).toNatClampNeg 0) (5 : Int32).toNatClampNeg 0) (6 : Int32).toNatClampNeg 0) (7 : Int32).toNatClampNeg 0) (8 : Int32).toNatClampNeg 0) (9 : Int32).toNatClampNeg 0)))).set 34 ((u 33), .inr (2, ([.ref (u 0), .ref (u 12), .ref (u 19), .int 0, .ref (u 34), .ref (u 35), .ref (u 36), .ref (u 37), .int 0].set 3 (.int 1))))).set 35 ((u 34), .inl (cI, 120, .inl (upd (fun _ => 0) (0 : Int32).toNatClampNeg 10)))).set 36 ((u 35), .inl (cI, 120, .inl (upd (fun _ => 0) (0 : Int32).toNatClampNeg 0)))).set 37 ((u 36), .inl (cI, 120, .inl (upd (fun _ => 0) (0 : Int32).toNatClampNeg (-1))))) ++ [(ao, .inl (cJ, 1, .inr (.inl (fun _ => 0))))]) H := hP
  have hD : va_D A ((((((((xW o u cI cZ cJ).set 0 (o, .inr (8, ((xF u).set 9 (.int 0))))).set 32 ((u 31), .inl (cZ, 10, .inl (upd (upd (upd (upd (upd (upd (upd (upd (upd (upd (fun _ => 0) (0 : Int32).toNatClampNeg 0) (1 : Int32).toNatClampNeg 0) (2 : Int32).toNatClampNeg 0) (3 : Int32).toNatClampNeg 0) (4 : Int32).toNatClampNeg 0) (5 : Int32).toNatClampNeg 0) (6 : Int32).toNatClampNeg 0) (7 : Int32).toNatClampNeg 0) (8 : Int32).toNatClampNeg 0) (9 : Int32).toNatClampNeg 0)))).set 34 ((u 33), .inr (2, ([.ref (u 0), .ref (u 12), .ref (u 19), .int 0, .ref (u 34), .ref (u 35), .ref (u 36), .ref (u 37), .int 0].set 3 (.int 1))))).set 35 ((u 34), .inl (cI, 120, .inl (upd (fun _ => 0) (0 : Int32).toNatClampNeg 10)))).set 36 ((u 35), .inl (cI, 120, .inl (upd (fun _ => 0) (0 : Int32).toNatClampNeg 0)))).set 37 ((u 36), .inl (cI, 120, .inl (upd (fun _ => 0) (0 : Int32).toNatClampNeg (-1))))) ++ [(ao, .inl (cJ, 1, .inr (.inl (fun _ => 0))))]) := hD
  refine lv_astore (lv' := [(4, .ref q9), (0, .ref o), (1, .int x1), (2, .int 1), (3, .ref ao)]) hx hb dL_fault_13 hl (by decide) rfl (fun ls hl => ?_)
  refine lv_iconst (v := 1) hx hb dL_fault_15 (by decide) ?_
  exact vx_ret (wEnd S hr hlocks hP hD hS (Nat.le_of_ble_eq_true rfl) (Nat.le_of_ble_eq_true rfl) dL_fault_16 rfl)

set_option maxHeartbeats 8000000 in
set_option maxRecDepth 100000 in
theorem c_X9_fault_4 (l : Launch) (D : va_G) (cI cZ cJ : ClassId) (o : Nat) (q : Nat → Nat) (sz : Nat) (x1 : Int32) (lo_x1 : 1 ≤ x1) : Met l yX9_fault (uW yX9_fault cX9_fault 3 (some .int)) ({ frames := 2, cells := 1, slots := 111, locals := 49 }) (va_Pc [.ref o, .int x1, .int 1] (wS D (tyL cI cZ cJ) (mW o 0 q cI cZ) sz)) (wQi (0) D (mW o 1 q cI cZ) (va_A (mW o 0 q cI cZ) sz)) 1 111 (va_A (mW o 0 q cI cZ) sz) := by
  refine wStart (lv := [(0, .ref o), (1, .int x1), (2, .int 1)]) (Qc := fun A => wQi (0) D (mW o 1 q cI cZ) A) (by decide) (Nat.le_of_ble_eq_true rfl) rfl ?_
  intro p e s m args below meth c ls A H S hr hlocks hnm hl hK hP hD hS hA
  have hx := S.1
  have hb := S.2.1
  refine lv_aload_n hx hb dX9_fault_0 rfl (lv_at hl 0 rfl) ?_
  refine lv_iconst (v := 0) hx hb dX9_fault_1 (by decide) ?_
  refine xp (ci := 9) (v := .int 0) S inX9 tyX9 tyX9_ok nmX9 rfl hK hP hD hS mW_0 0 (by decide) kw_6_148 rfl rfl rfl rfl (Nat.le_of_ble_eq_true rfl) dX9_fault_2 (fun H locs hP hD hS => ?_)
  have hP : va_P D vwCl (mW o 0 q cI cZ) H := hP
  have hD : va_D A (mW o 0 q cI cZ) := hD
  refine lv_iload_n hx hb dX9_fault_5 rfl (lv_at hl 1 rfl) ?_
  refine lv_iconst (v := 0) hx hb dX9_fault_6 (by decide) ?_
  refine lv_aload_n hx hb dX9_fault_7 rfl (lv_at hl 0 rfl) ?_
  refine wrV (As := []) (ci := 9) S (c_X9_faults_0 l D cI cZ cJ o q H.size) mi_X9_faults kw_7_230 rfl rfl ⟨Nat.le_of_ble_eq_true rfl, Nat.le_of_ble_eq_true rfl⟩ hP hD hK hS hA mW_0 rfl rfl hl.1 (Nat.le_of_ble_eq_true rfl) ⟨Nat.le_of_ble_eq_true rfl, Nat.le_of_ble_eq_true rfl⟩ dX9_fault_8 (fun H locs hz hP hD hS => ?_)
  refine lv_iconst (v := 1) hx hb dX9_fault_11 (by decide) ?_
  refine xisub (v := 0) S dX9_fault_12 (by decide) ?_
  refine rdS (As := [.int x1, .int 0, .int 0]) S (c_X9_isIn_1 l D cI cZ cJ o q x1 lo_x1) ms_X9_isIn kw_7_101 ⟨rfl, rfl⟩ ⟨Nat.le_of_ble_eq_true rfl, Nat.le_of_ble_eq_true rfl⟩ hP hK hl.1 (Nat.le_of_ble_eq_true rfl) ⟨Nat.le_of_ble_eq_true rfl, Nat.le_of_ble_eq_true rfl⟩ dX9_fault_13 ?_
  refine lv_if_ne (tgt := 25) hx hb dX9_fault_16 (by decide) (fun c => absurd c (by decide)) (fun _ => ?_)
  refine lv_aload_n hx hb dX9_fault_19 rfl (lv_at hl 0 rfl) ?_
  refine lv_iconst (v := 1) hx hb dX9_fault_20 (by decide) ?_
  refine wrV (As := [.int 1]) (ci := 9) S (c_X9_no_0 l D cI cZ cJ o q H.size) mi_X9_no kw_7_104 rfl rfl ⟨Nat.le_of_ble_eq_true rfl, Nat.le_of_ble_eq_true rfl⟩ hP hD hK hS hA mW_0 rfl rfl hl.1 (Nat.le_of_ble_eq_true rfl) ⟨Nat.le_of_ble_eq_true rfl, Nat.le_of_ble_eq_true rfl⟩ dX9_fault_21 (fun H locs hz hP hD hS => ?_)
  exact wEnd S hr hlocks hP hD hS (Nat.le_of_ble_eq_true rfl) (Nat.le_of_ble_eq_true rfl) dX9_fault_24 rfl

set_option maxHeartbeats 8000000 in
set_option maxRecDepth 100000 in
theorem h_fault_5 (l : Launch) (D : va_G) (cI cZ cJ : ClassId) (o : Nat) (u : Nat → Nat) (ao : Nat) (hst : l.stackTraces = false) (ra ga : Nat → Nat) (sz : Nat) : vx_Met l yL_fault (uWh yL_fault cL_fault 5 (some .int) [(0, 10, 13, 13), (0, 10, 17, 15)]) ({ frames := 5, cells := 0, slots := 0, locals := 107 }) (va_Pc [.ref o, .int 0, .int 1, .ref ao] (lS ra ga D (tyL cI cZ cJ) ((xW o u cI cZ cJ) ++ [(ao, .inl (cJ, 1, .inr (.inl (fun _ => 0))))]) sz)) (wQi (0) D ((((((((xW o u cI cZ cJ).set 0 (o, .inr (8, ((xF u).set 9 (.int 0))))).set 32 ((u 31), .inl (cZ, 10, .inl (upd (upd (upd (upd (upd (upd (upd (upd (upd (upd (fun _ => 0) (0 : Int32).toNatClampNeg 0) (1 : Int32).toNatClampNeg 0) (2 : Int32).toNatClampNeg 0) (3 : Int32).toNatClampNeg 0) (4 : Int32).toNatClampNeg 0) (5 : Int32).toNatClampNeg 0) (6 : Int32).toNatClampNeg 0) (7 : Int32).toNatClampNeg 0) (8 : Int32).toNatClampNeg 0) (9 : Int32).toNatClampNeg 0)))).set 34 ((u 33), .inr (2, ([.ref (u 0), .ref (u 12), .ref (u 19), .int 0, .ref (u 34), .ref (u 35), .ref (u 36), .ref (u 37), .int 0].set 3 (.int 1))))).set 35 ((u 34), .inl (cI, 120, .inl (upd (fun _ => 0) (0 : Int32).toNatClampNeg 10)))).set 36 ((u 35), .inl (cI, 120, .inl (upd (fun _ => 0) (0 : Int32).toNatClampNeg 0)))).set 37 ((u 36), .inl (cI, 120, .inl (upd (fun _ => 0) (0 : Int32).toNatClampNeg (-1))))) ++ [(ao, .inl (cJ, 1, .inr (.inl (vp_updL (fun _ => 0) (0 : Int32).toNatClampNeg 0))))]) (va_A ((xW o u cI cZ cJ) ++ [(ao, .inl (cJ, 1, .inr (.inl (fun _ => 0))))]) sz)) (xN (va_A ((xW o u cI cZ cJ) ++ [(ao, .inl (cJ, 1, .inr (.inl (fun _ => 0))))]) sz)) 0 0 (va_A ((xW o u cI cZ cJ) ++ [(ao, .inl (cJ, 1, .inr (.inl (fun _ => 0))))]) sz) := by
  refine hStart (l := l) (y := yL_fault) (b := cL_fault) (n := 5) (r := (some .int)) (hh := [(0, 10, 13, 13), (0, 10, 17, 15)]) (rm := ({ frames := 5, cells := 0, slots := 0, locals := 107 })) (mc := 0) (ms := 0) (ra := ra) (ga := ga) (D := D) (tys := tyL cI cZ cJ) (ws := ((xW o u cI cZ cJ) ++ [(ao, .inl (cJ, 1, .inr (.inl (fun _ => 0))))])) (av := [.ref o, .int 0, .int 1, .ref ao]) (sz := sz) (lv := [(0, .ref o), (1, .int 0), (2, .int 1), (3, .ref ao)]) (Qc := fun A => wQi (0) D ((((((((xW o u cI cZ cJ).set 0 (o, .inr (8, ((xF u).set 9 (.int 0))))).set 32 ((u 31), .inl (cZ, 10, .inl (upd (upd (upd (upd (upd (upd (upd (upd (upd (upd (fun _ => 0) (0 : Int32).toNatClampNeg 0) (1 : Int32).toNatClampNeg 0) (2 : Int32).toNatClampNeg 0) (3 : Int32).toNatClampNeg 0) (4 : Int32).toNatClampNeg 0) (5 : Int32).toNatClampNeg 0) (6 : Int32).toNatClampNeg 0) (7 : Int32).toNatClampNeg 0) (8 : Int32).toNatClampNeg 0) (9 : Int32).toNatClampNeg 0)))).set 34 ((u 33), .inr (2, ([.ref (u 0), .ref (u 12), .ref (u 19), .int 0, .ref (u 34), .ref (u 35), .ref (u 36), .ref (u 37), .int 0].set 3 (.int 1))))).set 35 ((u 34), .inl (cI, 120, .inl (upd (fun _ => 0) (0 : Int32).toNatClampNeg 10)))).set 36 ((u 35), .inl (cI, 120, .inl (upd (fun _ => 0) (0 : Int32).toNatClampNeg 0)))).set 37 ((u 36), .inl (cI, 120, .inl (upd (fun _ => 0) (0 : Int32).toNatClampNeg (-1))))) ++ [(ao, .inl (cJ, 1, .inr (.inl (vp_updL (fun _ => 0) (0 : Int32).toNatClampNeg 0))))]) A) (by decide) (Nat.le_of_ble_eq_true rfl) rfl ?_
  intro p e s m args below meth c ls A H S hr hlocks htab hl hK hP hD hS hA hB hC
  have hx := S.1
  have hb := S.2.1
  refine lv_aload_n hx hb dL_fault_0 rfl (lv_at hl 3 rfl) ?_
  refine lv_iconst (v := 0) hx hb dL_fault_1 (by decide) ?_
  refine lv_aload_n hx hb dL_fault_2 rfl (lv_at hl 0 rfl) ?_
  refine lv_iload_n hx hb dL_fault_3 rfl (lv_at hl 1 rfl) ?_
  refine lv_iload_n hx hb dL_fault_4 rfl (lv_at hl 2 rfl) ?_
  refine faVi [] [(ao, .inl (cJ, 1, .inr (.inl (fun _ => 0))))] (As := [.int 0, .int 1]) (ci := 8) S (c_X8_fault_5 l D cI cZ cJ o u ra ga H.size) mi_X8_fault kw_6_80 rfl rfl ⟨Nat.le_of_ble_eq_true rfl, Nat.le_of_ble_eq_true rfl⟩ hP hD hK hS hA hB xW_0 rfl rfl hl.1 (Nat.le_of_ble_eq_true rfl) ⟨Nat.le_of_ble_eq_true rfl, Nat.le_of_ble_eq_true rfl⟩ dL_fault_5 (fun H locs hz hP hD hS => ?_)
  have hP : va_P D vwCl ((((((((xW o u cI cZ cJ).set 0 (o, .inr (8, ((xF u).set 9 (.int 0))))).set 32 ((u 31), .inl (cZ, 10, .inl (upd (upd (upd (upd (upd (upd (upd (upd (upd (upd (fun _ => 0) (0 : Int32).toNatClampNeg 0) (1 : Int32).toNatClampNeg 0) (2 : Int32).toNatClampNeg 0) (3 : Int32).toNatClampNeg 0) (4 : Int32).toNatClampNeg 0) (5 : Int32).toNatClampNeg 0) (6 : Int32).toNatClampNeg 0) (7 : Int32).toNatClampNeg 0) (8 : Int32).toNatClampNeg 0) (9 : Int32).toNatClampNeg 0)))).set 34 ((u 33), .inr (2, ([.ref (u 0), .ref (u 12), .ref (u 19), .int 0, .ref (u 34), .ref (u 35), .ref (u 36), .ref (u 37), .int 0].set 3 (.int 1))))).set 35 ((u 34), .inl (cI, 120, .inl (upd (fun _ => 0) (0 : Int32).toNatClampNeg 10)))).set 36 ((u 35), .inl (cI, 120, .inl (upd (fun _ => 0) (0 : Int32).toNatClampNeg 0)))).set 37 ((u 36), .inl (cI, 120, .inl (upd (fun _ => 0) (0 : Int32).toNatClampNeg (-1))))) ++ [(ao, .inl (cJ, 1, .inr (.inl (fun _ => 0))))]) H := hP
  have hD : va_D A ((((((((xW o u cI cZ cJ).set 0 (o, .inr (8, ((xF u).set 9 (.int 0))))).set 32 ((u 31), .inl (cZ, 10, .inl (upd (upd (upd (upd (upd (upd (upd (upd (upd (upd (fun _ => 0) (0 : Int32).toNatClampNeg 0) (1 : Int32).toNatClampNeg 0) (2 : Int32).toNatClampNeg 0) (3 : Int32).toNatClampNeg 0) (4 : Int32).toNatClampNeg 0) (5 : Int32).toNatClampNeg 0) (6 : Int32).toNatClampNeg 0) (7 : Int32).toNatClampNeg 0) (8 : Int32).toNatClampNeg 0) (9 : Int32).toNatClampNeg 0)))).set 34 ((u 33), .inr (2, ([.ref (u 0), .ref (u 12), .ref (u 19), .int 0, .ref (u 34), .ref (u 35), .ref (u 36), .ref (u 37), .int 0].set 3 (.int 1))))).set 35 ((u 34), .inl (cI, 120, .inl (upd (fun _ => 0) (0 : Int32).toNatClampNeg 10)))).set 36 ((u 35), .inl (cI, 120, .inl (upd (fun _ => 0) (0 : Int32).toNatClampNeg 0)))).set 37 ((u 36), .inl (cI, 120, .inl (upd (fun _ => 0) (0 : Int32).toNatClampNeg (-1))))) ++ [(ao, .inl (cJ, 1, .inr (.inl (fun _ => 0))))]) := hD
  refine lv_i2l (v := 0) hx hb dL_fault_8 (by decide) ?_
  refine xlast (t0 := 2) S hK hP hD hS (q0 := 88) rfl rfl (vin rfl) dL_fault_9 (fun H locs hP hD hS => ?_)
  have hP : va_P D vwCl ((((((((xW o u cI cZ cJ).set 0 (o, .inr (8, ((xF u).set 9 (.int 0))))).set 32 ((u 31), .inl (cZ, 10, .inl (upd (upd (upd (upd (upd (upd (upd (upd (upd (upd (fun _ => 0) (0 : Int32).toNatClampNeg 0) (1 : Int32).toNatClampNeg 0) (2 : Int32).toNatClampNeg 0) (3 : Int32).toNatClampNeg 0) (4 : Int32).toNatClampNeg 0) (5 : Int32).toNatClampNeg 0) (6 : Int32).toNatClampNeg 0) (7 : Int32).toNatClampNeg 0) (8 : Int32).toNatClampNeg 0) (9 : Int32).toNatClampNeg 0)))).set 34 ((u 33), .inr (2, ([.ref (u 0), .ref (u 12), .ref (u 19), .int 0, .ref (u 34), .ref (u 35), .ref (u 36), .ref (u 37), .int 0].set 3 (.int 1))))).set 35 ((u 34), .inl (cI, 120, .inl (upd (fun _ => 0) (0 : Int32).toNatClampNeg 10)))).set 36 ((u 35), .inl (cI, 120, .inl (upd (fun _ => 0) (0 : Int32).toNatClampNeg 0)))).set 37 ((u 36), .inl (cI, 120, .inl (upd (fun _ => 0) (0 : Int32).toNatClampNeg (-1))))) ++ [(ao, .inl (cJ, 1, .inr (.inl (vp_updL (fun _ => 0) (0 : Int32).toNatClampNeg 0))))]) H := hP
  have hD : va_D A ((((((((xW o u cI cZ cJ).set 0 (o, .inr (8, ((xF u).set 9 (.int 0))))).set 32 ((u 31), .inl (cZ, 10, .inl (upd (upd (upd (upd (upd (upd (upd (upd (upd (upd (fun _ => 0) (0 : Int32).toNatClampNeg 0) (1 : Int32).toNatClampNeg 0) (2 : Int32).toNatClampNeg 0) (3 : Int32).toNatClampNeg 0) (4 : Int32).toNatClampNeg 0) (5 : Int32).toNatClampNeg 0) (6 : Int32).toNatClampNeg 0) (7 : Int32).toNatClampNeg 0) (8 : Int32).toNatClampNeg 0) (9 : Int32).toNatClampNeg 0)))).set 34 ((u 33), .inr (2, ([.ref (u 0), .ref (u 12), .ref (u 19), .int 0, .ref (u 34), .ref (u 35), .ref (u 36), .ref (u 37), .int 0].set 3 (.int 1))))).set 35 ((u 34), .inl (cI, 120, .inl (upd (fun _ => 0) (0 : Int32).toNatClampNeg 10)))).set 36 ((u 35), .inl (cI, 120, .inl (upd (fun _ => 0) (0 : Int32).toNatClampNeg 0)))).set 37 ((u 36), .inl (cI, 120, .inl (upd (fun _ => 0) (0 : Int32).toNatClampNeg (-1))))) ++ [(ao, .inl (cJ, 1, .inr (.inl (vp_updL (fun _ => 0) (0 : Int32).toNatClampNeg 0))))]) := hD
  refine lv_goto (tgt := 21) hx hb dL_fault_10 (by decide) ?_
  refine lv_iconst (v := 0) hx hb dL_fault_21 (by decide) ?_
  exact vx_ret (wEnd S hr hlocks hP hD hS (Nat.le_of_ble_eq_true rfl) (Nat.le_of_ble_eq_true rfl) dL_fault_22 rfl)

set_option maxHeartbeats 8000000 in
set_option maxRecDepth 100000 in
theorem c_X9_isIn_66 (l : Launch) (D : va_G) (cI cZ cJ : ClassId) (o : Nat) (q : Nat → Nat) : Met l yX9_isIn (uW yX9_isIn cX9_isIn 3 (some .boolean)) ({ frames := 0, cells := 0, slots := 0, locals := 0 }) (va_Pc [.int 1, .int 0, .int 2] (pS D (tyL cI cZ cJ) (mW o 0 q cI cZ))) (QcRead (1)) 0 0 (fun _ => False) := by
  refine rdStart (lv := [(0, .int 1), (1, .int 0), (2, .int 2)]) (by decide) (Nat.le_of_ble_eq_true rfl) rfl ?_
  intro p e s m args below meth c ls S hr hlocks hl hP hK
  have hx := S.1
  have hb := S.2.1
  refine lv_iload_n hx hb dX9_isIn_0 rfl (lv_at hl 0 rfl) ?_
  refine lv_iload_n hx hb dX9_isIn_1 rfl (lv_at hl 1 rfl) ?_
  refine lv_icmp_lt (tgt := 14) hx hb dX9_isIn_2 (by decide) (fun c => absurd c (by decide)) (fun _ => ?_)
  refine lv_iload_n hx hb dX9_isIn_5 rfl (lv_at hl 0 rfl) ?_
  refine lv_iload_n hx hb dX9_isIn_6 rfl (lv_at hl 2 rfl) ?_
  refine lv_icmp_gt (tgt := 14) hx hb dX9_isIn_7 (by decide) (fun c => absurd c (by decide)) (fun _ => ?_)
  refine lv_iconst (v := 1) hx hb dX9_isIn_10 (by decide) ?_
  refine lv_goto (tgt := 15) hx hb dX9_isIn_11 (by decide) ?_
  exact rdEndZ S hr hlocks dX9_isIn_15 rfl rfl

set_option maxHeartbeats 8000000 in
set_option maxRecDepth 100000 in
theorem c_X9_lookFor_2 (l : Launch) (D : va_G) (cI cZ cJ : ClassId) (o : Nat) (q : Nat → Nat) (sz : Nat) : Met l yX9_lookFor (uW yX9_lookFor cX9_lookFor 10 (some .int)) ({ frames := 0, cells := 1, slots := 111, locals := 0 }) (va_Pc [.ref o, .int 0, .int 1] (wS D (tyL cI cZ cJ) (mW o 0 q cI cZ) sz)) (wQi (0) D (mW o 0 q cI cZ) (va_A (mW o 0 q cI cZ) sz)) 1 111 (va_A (mW o 0 q cI cZ) sz) := by
  refine wStart (lv := [(0, .ref o), (1, .int 0), (2, .int 1)]) (Qc := fun A => wQi (0) D (mW o 0 q cI cZ) A) (by decide) (Nat.le_of_ble_eq_true rfl) rfl ?_
  intro p e s m args below meth c ls A H S hr hlocks hnm hl hK hP hD hS hA
  have hx := S.1
  have hb := S.2.1
  refine lv_iconst (v := 0) hx hb dX9_lookFor_0 (by decide) ?_
  refine lv_istore_n (lv' := [(3, .int 0), (0, .ref o), (1, .int 0), (2, .int 1)]) hx hb dX9_lookFor_1 rfl hl (by decide) rfl (fun ls hl => ?_)
  refine lv_bipush (v := 111) hx hb dX9_lookFor_2 (by decide) ?_
  refine xnewa (ty := .int) (t0 := 0) (N := 111) (a0 := (111, .inl (fun _ => 0))) S kw_1_100 rfl (Or.inl rfl) hK hP hD hS hA rfl (fun _ => rfl) (by decide) (by decide) (by decide) (Nat.le_of_ble_eq_true rfl) (Nat.le_of_ble_eq_true rfl) dX9_lookFor_4 (fun n1 H hP hD hS => ?_)
  refine lv_astore (lv' := [(4, .ref n1), (3, .int 0), (0, .ref o), (1, .int 0), (2, .int 1)]) hx hb dX9_lookFor_6 hl (by decide) rfl (fun ls hl => ?_)
  refine lv_iconst (v := 0) hx hb dX9_lookFor_8 (by decide) ?_
  refine lv_istore (lv' := [(5, .int 0), (4, .ref n1), (3, .int 0), (0, .ref o), (1, .int 0), (2, .int 1)]) hx hb dX9_lookFor_9 hl (by decide) rfl (fun ls hl => ?_)
  refine lv_iload hx hb dX9_lookFor_11 (lv_at hl 0 rfl) ?_
  refine lv_aload_n hx hb dX9_lookFor_13 rfl (lv_at hl 3 rfl) ?_
  refine xg (ci := 9) S inX9 rfl hK hP (q0 := 0) rfl 1 (by decide) mF_1 kw_6_149 rfl dX9_lookFor_14 ?_
  refine lv_icmp_ge (tgt := 200) hx hb dX9_lookFor_17 (by decide) (fun c => absurd c (by decide)) (fun _ => ?_)
  refine lv_aload_n hx hb dX9_lookFor_20 rfl (lv_at hl 3 rfl) ?_
  refine xg (ci := 9) S inX9 rfl hK hP (q0 := 0) rfl 7 (by decide) mF_7 kw_6_155 rfl dX9_lookFor_21 ?_
  refine lv_iload hx hb dX9_lookFor_24 (lv_at hl 0 rfl) ?_
  refine xiald (t0 := 0) (v := (-1)) S hK hP (q0 := 6) rfl rfl (vin rfl) rfl dX9_lookFor_26 ?_
  refine lv_iconst (v := (-1)) hx hb dX9_lookFor_27 (by decide) ?_
  refine lv_icmp_ne (tgt := 63) hx hb dX9_lookFor_28 (by decide) (fun c => absurd c (by decide)) (fun _ => ?_)
  refine lv_iload_n hx hb dX9_lookFor_31 rfl (lv_at hl 2 rfl) ?_
  refine lv_iload_n hx hb dX9_lookFor_32 rfl (lv_at hl 4 rfl) ?_
  refine lv_icmp_ne (tgt := 57) hx hb dX9_lookFor_33 (by decide) (fun c => absurd c (by decide)) (fun _ => ?_)
  refine lv_iload_n hx hb dX9_lookFor_36 rfl (lv_at hl 5 rfl) ?_
  refine lv_if_ne (tgt := 45) hx hb dX9_lookFor_37 (by decide) (fun _ => ?_) (fun c => absurd c (by decide))
  refine lv_iload_n hx hb dX9_lookFor_45 rfl (lv_at hl 5 rfl) ?_
  refine lv_iconst (v := 1) hx hb dX9_lookFor_46 (by decide) ?_
  refine lv_icmp_ne (tgt := 55) hx hb dX9_lookFor_47 (by decide) (fun c => absurd c (by decide)) (fun _ => ?_)
  refine lv_iload hx hb dX9_lookFor_50 (lv_at hl 0 rfl) ?_
  refine lv_goto (tgt := 56) hx hb dX9_lookFor_52 (by decide) ?_
  have hP := va_Pl (ws := (mW o 0 q cI cZ)) (x := [(n1, .inl (cI, 111, .inl (fun _ => 0)))]) hP
  have hD := va_Dl (ws := (mW o 0 q cI cZ)) (x := [(n1, .inl (cI, 111, .inl (fun _ => 0)))]) hD
  exact wEnd S hr hlocks hP hD hS (Nat.le_of_ble_eq_true rfl) (Nat.le_of_ble_eq_true rfl) dX9_lookFor_56 rfl

set_option maxHeartbeats 8000000 in
set_option maxRecDepth 100000 in
theorem c_X9_fault_5 (l : Launch) (D : va_G) (cI cZ cJ : ClassId) (o : Nat) (q : Nat → Nat) (sz : Nat) : Met l yX9_fault (uW yX9_fault cX9_fault 3 (some .int)) ({ frames := 2, cells := 2, slots := 222, locals := 49 }) (va_Pc [.ref o, .int 0, .int 1] (wS D (tyL cI cZ cJ) (mW o 0 q cI cZ) sz)) (wQi (0) D (mW o 0 q cI cZ) (va_A (mW o 0 q cI cZ) sz)) 2 222 (va_A (mW o 0 q cI cZ) sz) := by
  refine wStart (lv := [(0, .ref o), (1, .int 0), (2, .int 1)]) (Qc := fun A => wQi (0) D (mW o 0 q cI cZ) A) (by decide) (Nat.le_of_ble_eq_true rfl) rfl ?_
  intro p e s m args below meth c ls A H S hr hlocks hnm hl hK hP hD hS hA
  have hx := S.1
  have hb := S.2.1
  refine lv_aload_n hx hb dX9_fault_0 rfl (lv_at hl 0 rfl) ?_
  refine lv_iconst (v := 0) hx hb dX9_fault_1 (by decide) ?_
  refine xp (ci := 9) (v := .int 0) S inX9 tyX9 tyX9_ok nmX9 rfl hK hP hD hS mW_0 0 (by decide) kw_6_148 rfl rfl rfl rfl (Nat.le_of_ble_eq_true rfl) dX9_fault_2 (fun H locs hP hD hS => ?_)
  have hP : va_P D vwCl (mW o 0 q cI cZ) H := hP
  have hD : va_D A (mW o 0 q cI cZ) := hD
  refine lv_iload_n hx hb dX9_fault_5 rfl (lv_at hl 1 rfl) ?_
  refine lv_iconst (v := 0) hx hb dX9_fault_6 (by decide) ?_
  refine lv_aload_n hx hb dX9_fault_7 rfl (lv_at hl 0 rfl) ?_
  refine wrV (As := []) (ci := 9) S (c_X9_faults_0 l D cI cZ cJ o q H.size) mi_X9_faults kw_7_230 rfl rfl ⟨Nat.le_of_ble_eq_true rfl, Nat.le_of_ble_eq_true rfl⟩ hP hD hK hS hA mW_0 rfl rfl hl.1 (Nat.le_of_ble_eq_true rfl) ⟨Nat.le_of_ble_eq_true rfl, Nat.le_of_ble_eq_true rfl⟩ dX9_fault_8 (fun H locs hz hP hD hS => ?_)
  refine lv_iconst (v := 1) hx hb dX9_fault_11 (by decide) ?_
  refine xisub (v := 0) S dX9_fault_12 (by decide) ?_
  refine rdS (As := [.int 0, .int 0, .int 0]) S (c_X9_isIn_2 l D cI cZ cJ o q) ms_X9_isIn kw_7_101 ⟨rfl, rfl⟩ ⟨Nat.le_of_ble_eq_true rfl, Nat.le_of_ble_eq_true rfl⟩ hP hK hl.1 (Nat.le_of_ble_eq_true rfl) ⟨Nat.le_of_ble_eq_true rfl, Nat.le_of_ble_eq_true rfl⟩ dX9_fault_13 ?_
  refine lv_if_ne (tgt := 25) hx hb dX9_fault_16 (by decide) (fun _ => ?_) (fun c => absurd c (by decide))
  refine lv_iload_n hx hb dX9_fault_25 rfl (lv_at hl 2 rfl) ?_
  refine lv_iconst (v := 0) hx hb dX9_fault_26 (by decide) ?_
  refine lv_iconst (v := 2) hx hb dX9_fault_27 (by decide) ?_
  refine rdS (As := [.int 1, .int 0, .int 2]) S (c_X9_isIn_66 l D cI cZ cJ o q) ms_X9_isIn kw_7_101 ⟨rfl, rfl⟩ ⟨Nat.le_of_ble_eq_true rfl, Nat.le_of_ble_eq_true rfl⟩ hP hK hl.1 (Nat.le_of_ble_eq_true rfl) ⟨Nat.le_of_ble_eq_true rfl, Nat.le_of_ble_eq_true rfl⟩ dX9_fault_28 ?_
  refine lv_if_eq (tgt := 43) hx hb dX9_fault_31 (by decide) (fun c => absurd c (by decide)) (fun _ => ?_)
  refine lv_aload_n hx hb dX9_fault_34 rfl (lv_at hl 0 rfl) ?_
  refine lv_iload_n hx hb dX9_fault_35 rfl (lv_at hl 1 rfl) ?_
  refine lv_iload_n hx hb dX9_fault_36 rfl (lv_at hl 2 rfl) ?_
  refine wrV (As := [.int 0, .int 1]) (ci := 9) S (c_X9_lookFor_2 l D cI cZ cJ o q H.size) mi_X9_lookFor kw_7_234 rfl rfl ⟨Nat.le_of_ble_eq_true rfl, Nat.le_of_ble_eq_true rfl⟩ hP hD hK hS hA mW_0 rfl rfl hl.1 (Nat.le_of_ble_eq_true rfl) ⟨Nat.le_of_ble_eq_true rfl, Nat.le_of_ble_eq_true rfl⟩ dX9_fault_37 (fun H locs hz hP hD hS => ?_)
  refine lv_goto (tgt := 48) hx hb dX9_fault_40 (by decide) ?_
  exact wEnd S hr hlocks hP hD hS (Nat.le_of_ble_eq_true rfl) (Nat.le_of_ble_eq_true rfl) dX9_fault_48 rfl

set_option maxHeartbeats 8000000 in
set_option maxRecDepth 100000 in
theorem h_fault_6 (l : Launch) (D : va_G) (cI cZ cJ : ClassId) (o : Nat) (u : Nat → Nat) (ao : Nat) (hst : l.stackTraces = false) (ra ga : Nat → Nat) (sz : Nat) (x1 : Int32) (x2 : Int32) (hi_x1 : x1 ≤ (-1)) (ne_x2_0 : ¬ x2 = 0) (ne_x2_1 : ¬ x2 = 1) : vx_Met l yL_fault (uWh yL_fault cL_fault 5 (some .int) [(0, 10, 13, 13), (0, 10, 17, 15)]) ({ frames := 8, cells := 1, slots := 6, locals := 124 }) (va_Pc [.ref o, .int x1, .int x2, .ref ao] (lS ra ga D (tyL cI cZ cJ) ((xW o u cI cZ cJ) ++ [(ao, .inl (cJ, 1, .inr (.inl (fun _ => 0))))]) sz)) (wQi (1) D ((((((((xW o u cI cZ cJ).set 0 (o, .inr (8, ((xF u).set 9 (.int 0))))).set 32 ((u 31), .inl (cZ, 10, .inl (upd (upd (upd (upd (upd (upd (upd (upd (upd (upd (fun _ => 0) (0 : Int32).toNatClampNeg 0) (1 : Int32).toNatClampNeg 0) (2 : Int32).toNatClampNeg 0) (3 : Int32).toNatClampNeg 0) (4 : Int32).toNatClampNeg 0) (5 : Int32).toNatClampNeg 0) (6 : Int32).toNatClampNeg 0) (7 : Int32).toNatClampNeg 0) (8 : Int32).toNatClampNeg 0) (9 : Int32).toNatClampNeg 0)))).set 34 ((u 33), .inr (2, ([.ref (u 0), .ref (u 12), .ref (u 19), .int 0, .ref (u 34), .ref (u 35), .ref (u 36), .ref (u 37), .int 0].set 3 (.int 1))))).set 35 ((u 34), .inl (cI, 120, .inl (upd (fun _ => 0) (0 : Int32).toNatClampNeg 10)))).set 36 ((u 35), .inl (cI, 120, .inl (upd (fun _ => 0) (0 : Int32).toNatClampNeg 0)))).set 37 ((u 36), .inl (cI, 120, .inl (upd (fun _ => 0) (0 : Int32).toNatClampNeg (-1))))) ++ [(ao, .inl (cJ, 1, .inr (.inl (fun _ => 0))))]) (va_A ((xW o u cI cZ cJ) ++ [(ao, .inl (cJ, 1, .inr (.inl (fun _ => 0))))]) sz)) (xN (va_A ((xW o u cI cZ cJ) ++ [(ao, .inl (cJ, 1, .inr (.inl (fun _ => 0))))]) sz)) 1 6 (va_A ((xW o u cI cZ cJ) ++ [(ao, .inl (cJ, 1, .inr (.inl (fun _ => 0))))]) sz) := by
  refine hStart (l := l) (y := yL_fault) (b := cL_fault) (n := 5) (r := (some .int)) (hh := [(0, 10, 13, 13), (0, 10, 17, 15)]) (rm := ({ frames := 8, cells := 1, slots := 6, locals := 124 })) (mc := 1) (ms := 6) (ra := ra) (ga := ga) (D := D) (tys := tyL cI cZ cJ) (ws := ((xW o u cI cZ cJ) ++ [(ao, .inl (cJ, 1, .inr (.inl (fun _ => 0))))])) (av := [.ref o, .int x1, .int x2, .ref ao]) (sz := sz) (lv := [(0, .ref o), (1, .int x1), (2, .int x2), (3, .ref ao)]) (Qc := fun A => wQi (1) D ((((((((xW o u cI cZ cJ).set 0 (o, .inr (8, ((xF u).set 9 (.int 0))))).set 32 ((u 31), .inl (cZ, 10, .inl (upd (upd (upd (upd (upd (upd (upd (upd (upd (upd (fun _ => 0) (0 : Int32).toNatClampNeg 0) (1 : Int32).toNatClampNeg 0) (2 : Int32).toNatClampNeg 0) (3 : Int32).toNatClampNeg 0) (4 : Int32).toNatClampNeg 0) (5 : Int32).toNatClampNeg 0) (6 : Int32).toNatClampNeg 0) (7 : Int32).toNatClampNeg 0) (8 : Int32).toNatClampNeg 0) (9 : Int32).toNatClampNeg 0)))).set 34 ((u 33), .inr (2, ([.ref (u 0), .ref (u 12), .ref (u 19), .int 0, .ref (u 34), .ref (u 35), .ref (u 36), .ref (u 37), .int 0].set 3 (.int 1))))).set 35 ((u 34), .inl (cI, 120, .inl (upd (fun _ => 0) (0 : Int32).toNatClampNeg 10)))).set 36 ((u 35), .inl (cI, 120, .inl (upd (fun _ => 0) (0 : Int32).toNatClampNeg 0)))).set 37 ((u 36), .inl (cI, 120, .inl (upd (fun _ => 0) (0 : Int32).toNatClampNeg (-1))))) ++ [(ao, .inl (cJ, 1, .inr (.inl (fun _ => 0))))]) A) (by decide) (Nat.le_of_ble_eq_true rfl) rfl ?_
  intro p e s m args below meth c ls A H S hr hlocks htab hl hK hP hD hS hA hB hC
  have hx := S.1
  have hb := S.2.1
  refine lv_aload_n hx hb dL_fault_0 rfl (lv_at hl 3 rfl) ?_
  refine lv_iconst (v := 0) hx hb dL_fault_1 (by decide) ?_
  refine lv_aload_n hx hb dL_fault_2 rfl (lv_at hl 0 rfl) ?_
  refine lv_iload_n hx hb dL_fault_3 rfl (lv_at hl 1 rfl) ?_
  refine lv_iload_n hx hb dL_fault_4 rfl (lv_at hl 2 rfl) ?_
  refine cVi [] [(ao, .inl (cJ, 1, .inr (.inl (fun _ => 0))))] (As := [.int x1, .int x2]) (ci := 8) S (c_X8_fault_6 l D cI cZ cJ o u hst ra ga H.size x1 x2 hi_x1 ne_x2_0 ne_x2_1) mi_X8_fault kw_6_80 rfl rfl ⟨Nat.le_of_ble_eq_true rfl, Nat.le_of_ble_eq_true rfl⟩ hP hD hK hS hA hB xW_0 rfl rfl hl.1 (Nat.le_of_ble_eq_true rfl) ⟨Nat.le_of_ble_eq_true rfl, Nat.le_of_ble_eq_true rfl⟩ dL_fault_5 (fun ce q9 H locs hz hP hD hS hce hcv hcl => ?_)
  refine vx_catch (name := "java/lang/IndexOutOfBoundsException") S.2.2.2.1 [] (⟨0, 10, 13, 13⟩ : ExceptionTableEntry) [(⟨0, 10, 17, 15⟩ : ExceptionTableEntry)] (htab.trans rfl) (fun _ h => absurd h List.not_mem_nil) (by decide) (by decide) (S.2.2.2.2 _ kw_5_176) (va_Nw.use rfl hB.c0) hce hcv hcl ?_
  have hP : va_P D vwCl ((((((((xW o u cI cZ cJ).set 0 (o, .inr (8, ((xF u).set 9 (.int 0))))).set 32 ((u 31), .inl (cZ, 10, .inl (upd (upd (upd (upd (upd (upd (upd (upd (upd (upd (fun _ => 0) (0 : Int32).toNatClampNeg 0) (1 : Int32).toNatClampNeg 0) (2 : Int32).toNatClampNeg 0) (3 : Int32).toNatClampNeg 0) (4 : Int32).toNatClampNeg 0) (5 : Int32).toNatClampNeg 0) (6 : Int32).toNatClampNeg 0) (7 : Int32).toNatClampNeg 0) (8 : Int32).toNatClampNeg 0) (9 : Int32).toNatClampNeg 0)))).set 34 ((u 33), .inr (2, ([.ref (u 0), .ref (u 12), .ref (u 19), .int 0, .ref (u 34), .ref (u 35), .ref (u 36), .ref (u 37), .int 0].set 3 (.int 1))))).set 35 ((u 34), .inl (cI, 120, .inl (upd (fun _ => 0) (0 : Int32).toNatClampNeg 10)))).set 36 ((u 35), .inl (cI, 120, .inl (upd (fun _ => 0) (0 : Int32).toNatClampNeg 0)))).set 37 ((u 36), .inl (cI, 120, .inl (upd (fun _ => 0) (0 : Int32).toNatClampNeg (-1))))) ++ [(ao, .inl (cJ, 1, .inr (.inl (fun _ => 0))))]) H := hP
  have hD : va_D A ((((((((xW o u cI cZ cJ).set 0 (o, .inr (8, ((xF u).set 9 (.int 0))))).set 32 ((u 31), .inl (cZ, 10, .inl (upd (upd (upd (upd (upd (upd (upd (upd (upd (upd (fun _ => 0) (0 : Int32).toNatClampNeg 0) (1 : Int32).toNatClampNeg 0) (2 : Int32).toNatClampNeg 0) (3 : Int32).toNatClampNeg 0) (4 : Int32).toNatClampNeg 0) (5 : Int32).toNatClampNeg 0) (6 : Int32).toNatClampNeg 0) (7 : Int32).toNatClampNeg 0) (8 : Int32).toNatClampNeg 0) (9 : Int32).toNatClampNeg 0)))).set 34 ((u 33), .inr (2, ([.ref (u 0), .ref (u 12), .ref (u 19), .int 0, .ref (u 34), .ref (u 35), .ref (u 36), .ref (u 37), .int 0].set 3 (.int 1))))).set 35 ((u 34), .inl (cI, 120, .inl (upd (fun _ => 0) (0 : Int32).toNatClampNeg 10)))).set 36 ((u 35), .inl (cI, 120, .inl (upd (fun _ => 0) (0 : Int32).toNatClampNeg 0)))).set 37 ((u 36), .inl (cI, 120, .inl (upd (fun _ => 0) (0 : Int32).toNatClampNeg (-1))))) ++ [(ao, .inl (cJ, 1, .inr (.inl (fun _ => 0))))]) := hD
  refine lv_astore (lv' := [(4, .ref q9), (0, .ref o), (1, .int x1), (2, .int x2), (3, .ref ao)]) hx hb dL_fault_13 hl (by decide) rfl (fun ls hl => ?_)
  refine lv_iconst (v := 1) hx hb dL_fault_15 (by decide) ?_
  exact vx_ret (wEnd S hr hlocks hP hD hS (Nat.le_of_ble_eq_true rfl) (Nat.le_of_ble_eq_true rfl) dL_fault_16 rfl)

set_option maxHeartbeats 8000000 in
set_option maxRecDepth 100000 in
theorem c_X9_fault_6 (l : Launch) (D : va_G) (cI cZ cJ : ClassId) (o : Nat) (q : Nat → Nat) (sz : Nat) (x1 : Int32) (x2 : Int32) (hi_x1 : x1 ≤ (-1)) (ne_x2_0 : ¬ x2 = 0) (ne_x2_1 : ¬ x2 = 1) : Met l yX9_fault (uW yX9_fault cX9_fault 3 (some .int)) ({ frames := 2, cells := 1, slots := 111, locals := 49 }) (va_Pc [.ref o, .int x1, .int x2] (wS D (tyL cI cZ cJ) (mW o 0 q cI cZ) sz)) (wQi (0) D (mW o 1 q cI cZ) (va_A (mW o 0 q cI cZ) sz)) 1 111 (va_A (mW o 0 q cI cZ) sz) := by
  refine wStart (lv := [(0, .ref o), (1, .int x1), (2, .int x2)]) (Qc := fun A => wQi (0) D (mW o 1 q cI cZ) A) (by decide) (Nat.le_of_ble_eq_true rfl) rfl ?_
  intro p e s m args below meth c ls A H S hr hlocks hnm hl hK hP hD hS hA
  have hx := S.1
  have hb := S.2.1
  refine lv_aload_n hx hb dX9_fault_0 rfl (lv_at hl 0 rfl) ?_
  refine lv_iconst (v := 0) hx hb dX9_fault_1 (by decide) ?_
  refine xp (ci := 9) (v := .int 0) S inX9 tyX9 tyX9_ok nmX9 rfl hK hP hD hS mW_0 0 (by decide) kw_6_148 rfl rfl rfl rfl (Nat.le_of_ble_eq_true rfl) dX9_fault_2 (fun H locs hP hD hS => ?_)
  have hP : va_P D vwCl (mW o 0 q cI cZ) H := hP
  have hD : va_D A (mW o 0 q cI cZ) := hD
  refine lv_iload_n hx hb dX9_fault_5 rfl (lv_at hl 1 rfl) ?_
  refine lv_iconst (v := 0) hx hb dX9_fault_6 (by decide) ?_
  refine lv_aload_n hx hb dX9_fault_7 rfl (lv_at hl 0 rfl) ?_
  refine wrV (As := []) (ci := 9) S (c_X9_faults_0 l D cI cZ cJ o q H.size) mi_X9_faults kw_7_230 rfl rfl ⟨Nat.le_of_ble_eq_true rfl, Nat.le_of_ble_eq_true rfl⟩ hP hD hK hS hA mW_0 rfl rfl hl.1 (Nat.le_of_ble_eq_true rfl) ⟨Nat.le_of_ble_eq_true rfl, Nat.le_of_ble_eq_true rfl⟩ dX9_fault_8 (fun H locs hz hP hD hS => ?_)
  refine lv_iconst (v := 1) hx hb dX9_fault_11 (by decide) ?_
  refine xisub (v := 0) S dX9_fault_12 (by decide) ?_
  refine rdS (As := [.int x1, .int 0, .int 0]) S (c_X9_isIn_0 l D cI cZ cJ o q x1 hi_x1) ms_X9_isIn kw_7_101 ⟨rfl, rfl⟩ ⟨Nat.le_of_ble_eq_true rfl, Nat.le_of_ble_eq_true rfl⟩ hP hK hl.1 (Nat.le_of_ble_eq_true rfl) ⟨Nat.le_of_ble_eq_true rfl, Nat.le_of_ble_eq_true rfl⟩ dX9_fault_13 ?_
  refine lv_if_ne (tgt := 25) hx hb dX9_fault_16 (by decide) (fun c => absurd c (by decide)) (fun _ => ?_)
  refine lv_aload_n hx hb dX9_fault_19 rfl (lv_at hl 0 rfl) ?_
  refine lv_iconst (v := 1) hx hb dX9_fault_20 (by decide) ?_
  refine wrV (As := [.int 1]) (ci := 9) S (c_X9_no_0 l D cI cZ cJ o q H.size) mi_X9_no kw_7_104 rfl rfl ⟨Nat.le_of_ble_eq_true rfl, Nat.le_of_ble_eq_true rfl⟩ hP hD hK hS hA mW_0 rfl rfl hl.1 (Nat.le_of_ble_eq_true rfl) ⟨Nat.le_of_ble_eq_true rfl, Nat.le_of_ble_eq_true rfl⟩ dX9_fault_21 (fun H locs hz hP hD hS => ?_)
  exact wEnd S hr hlocks hP hD hS (Nat.le_of_ble_eq_true rfl) (Nat.le_of_ble_eq_true rfl) dX9_fault_24 rfl

set_option maxHeartbeats 8000000 in
set_option maxRecDepth 100000 in
theorem h_fault_7 (l : Launch) (D : va_G) (cI cZ cJ : ClassId) (o : Nat) (u : Nat → Nat) (ao : Nat) (hst : l.stackTraces = false) (ra ga : Nat → Nat) (sz : Nat) (x1 : Int32) (x2 : Int32) (lo_x1 : 1 ≤ x1) (ne_x2_0 : ¬ x2 = 0) (ne_x2_1 : ¬ x2 = 1) : vx_Met l yL_fault (uWh yL_fault cL_fault 5 (some .int) [(0, 10, 13, 13), (0, 10, 17, 15)]) ({ frames := 8, cells := 1, slots := 6, locals := 124 }) (va_Pc [.ref o, .int x1, .int x2, .ref ao] (lS ra ga D (tyL cI cZ cJ) ((xW o u cI cZ cJ) ++ [(ao, .inl (cJ, 1, .inr (.inl (fun _ => 0))))]) sz)) (wQi (1) D ((((((((xW o u cI cZ cJ).set 0 (o, .inr (8, ((xF u).set 9 (.int 0))))).set 32 ((u 31), .inl (cZ, 10, .inl (upd (upd (upd (upd (upd (upd (upd (upd (upd (upd (fun _ => 0) (0 : Int32).toNatClampNeg 0) (1 : Int32).toNatClampNeg 0) (2 : Int32).toNatClampNeg 0) (3 : Int32).toNatClampNeg 0) (4 : Int32).toNatClampNeg 0) (5 : Int32).toNatClampNeg 0) (6 : Int32).toNatClampNeg 0) (7 : Int32).toNatClampNeg 0) (8 : Int32).toNatClampNeg 0) (9 : Int32).toNatClampNeg 0)))).set 34 ((u 33), .inr (2, ([.ref (u 0), .ref (u 12), .ref (u 19), .int 0, .ref (u 34), .ref (u 35), .ref (u 36), .ref (u 37), .int 0].set 3 (.int 1))))).set 35 ((u 34), .inl (cI, 120, .inl (upd (fun _ => 0) (0 : Int32).toNatClampNeg 10)))).set 36 ((u 35), .inl (cI, 120, .inl (upd (fun _ => 0) (0 : Int32).toNatClampNeg 0)))).set 37 ((u 36), .inl (cI, 120, .inl (upd (fun _ => 0) (0 : Int32).toNatClampNeg (-1))))) ++ [(ao, .inl (cJ, 1, .inr (.inl (fun _ => 0))))]) (va_A ((xW o u cI cZ cJ) ++ [(ao, .inl (cJ, 1, .inr (.inl (fun _ => 0))))]) sz)) (xN (va_A ((xW o u cI cZ cJ) ++ [(ao, .inl (cJ, 1, .inr (.inl (fun _ => 0))))]) sz)) 1 6 (va_A ((xW o u cI cZ cJ) ++ [(ao, .inl (cJ, 1, .inr (.inl (fun _ => 0))))]) sz) := by
  refine hStart (l := l) (y := yL_fault) (b := cL_fault) (n := 5) (r := (some .int)) (hh := [(0, 10, 13, 13), (0, 10, 17, 15)]) (rm := ({ frames := 8, cells := 1, slots := 6, locals := 124 })) (mc := 1) (ms := 6) (ra := ra) (ga := ga) (D := D) (tys := tyL cI cZ cJ) (ws := ((xW o u cI cZ cJ) ++ [(ao, .inl (cJ, 1, .inr (.inl (fun _ => 0))))])) (av := [.ref o, .int x1, .int x2, .ref ao]) (sz := sz) (lv := [(0, .ref o), (1, .int x1), (2, .int x2), (3, .ref ao)]) (Qc := fun A => wQi (1) D ((((((((xW o u cI cZ cJ).set 0 (o, .inr (8, ((xF u).set 9 (.int 0))))).set 32 ((u 31), .inl (cZ, 10, .inl (upd (upd (upd (upd (upd (upd (upd (upd (upd (upd (fun _ => 0) (0 : Int32).toNatClampNeg 0) (1 : Int32).toNatClampNeg 0) (2 : Int32).toNatClampNeg 0) (3 : Int32).toNatClampNeg 0) (4 : Int32).toNatClampNeg 0) (5 : Int32).toNatClampNeg 0) (6 : Int32).toNatClampNeg 0) (7 : Int32).toNatClampNeg 0) (8 : Int32).toNatClampNeg 0) (9 : Int32).toNatClampNeg 0)))).set 34 ((u 33), .inr (2, ([.ref (u 0), .ref (u 12), .ref (u 19), .int 0, .ref (u 34), .ref (u 35), .ref (u 36), .ref (u 37), .int 0].set 3 (.int 1))))).set 35 ((u 34), .inl (cI, 120, .inl (upd (fun _ => 0) (0 : Int32).toNatClampNeg 10)))).set 36 ((u 35), .inl (cI, 120, .inl (upd (fun _ => 0) (0 : Int32).toNatClampNeg 0)))).set 37 ((u 36), .inl (cI, 120, .inl (upd (fun _ => 0) (0 : Int32).toNatClampNeg (-1))))) ++ [(ao, .inl (cJ, 1, .inr (.inl (fun _ => 0))))]) A) (by decide) (Nat.le_of_ble_eq_true rfl) rfl ?_
  intro p e s m args below meth c ls A H S hr hlocks htab hl hK hP hD hS hA hB hC
  have hx := S.1
  have hb := S.2.1
  refine lv_aload_n hx hb dL_fault_0 rfl (lv_at hl 3 rfl) ?_
  refine lv_iconst (v := 0) hx hb dL_fault_1 (by decide) ?_
  refine lv_aload_n hx hb dL_fault_2 rfl (lv_at hl 0 rfl) ?_
  refine lv_iload_n hx hb dL_fault_3 rfl (lv_at hl 1 rfl) ?_
  refine lv_iload_n hx hb dL_fault_4 rfl (lv_at hl 2 rfl) ?_
  refine cVi [] [(ao, .inl (cJ, 1, .inr (.inl (fun _ => 0))))] (As := [.int x1, .int x2]) (ci := 8) S (c_X8_fault_7 l D cI cZ cJ o u hst ra ga H.size x1 x2 lo_x1 ne_x2_0 ne_x2_1) mi_X8_fault kw_6_80 rfl rfl ⟨Nat.le_of_ble_eq_true rfl, Nat.le_of_ble_eq_true rfl⟩ hP hD hK hS hA hB xW_0 rfl rfl hl.1 (Nat.le_of_ble_eq_true rfl) ⟨Nat.le_of_ble_eq_true rfl, Nat.le_of_ble_eq_true rfl⟩ dL_fault_5 (fun ce q9 H locs hz hP hD hS hce hcv hcl => ?_)
  refine vx_catch (name := "java/lang/IndexOutOfBoundsException") S.2.2.2.1 [] (⟨0, 10, 13, 13⟩ : ExceptionTableEntry) [(⟨0, 10, 17, 15⟩ : ExceptionTableEntry)] (htab.trans rfl) (fun _ h => absurd h List.not_mem_nil) (by decide) (by decide) (S.2.2.2.2 _ kw_5_176) (va_Nw.use rfl hB.c0) hce hcv hcl ?_
  have hP : va_P D vwCl ((((((((xW o u cI cZ cJ).set 0 (o, .inr (8, ((xF u).set 9 (.int 0))))).set 32 ((u 31), .inl (cZ, 10, .inl (upd (upd (upd (upd (upd (upd (upd (upd (upd (upd (fun _ => 0) (0 : Int32).toNatClampNeg 0) (1 : Int32).toNatClampNeg 0) (2 : Int32).toNatClampNeg 0) (3 : Int32).toNatClampNeg 0) (4 : Int32).toNatClampNeg 0) (5 : Int32).toNatClampNeg 0) (6 : Int32).toNatClampNeg 0) (7 : Int32).toNatClampNeg 0) (8 : Int32).toNatClampNeg 0) (9 : Int32).toNatClampNeg 0)))).set 34 ((u 33), .inr (2, ([.ref (u 0), .ref (u 12), .ref (u 19), .int 0, .ref (u 34), .ref (u 35), .ref (u 36), .ref (u 37), .int 0].set 3 (.int 1))))).set 35 ((u 34), .inl (cI, 120, .inl (upd (fun _ => 0) (0 : Int32).toNatClampNeg 10)))).set 36 ((u 35), .inl (cI, 120, .inl (upd (fun _ => 0) (0 : Int32).toNatClampNeg 0)))).set 37 ((u 36), .inl (cI, 120, .inl (upd (fun _ => 0) (0 : Int32).toNatClampNeg (-1))))) ++ [(ao, .inl (cJ, 1, .inr (.inl (fun _ => 0))))]) H := hP
  have hD : va_D A ((((((((xW o u cI cZ cJ).set 0 (o, .inr (8, ((xF u).set 9 (.int 0))))).set 32 ((u 31), .inl (cZ, 10, .inl (upd (upd (upd (upd (upd (upd (upd (upd (upd (upd (fun _ => 0) (0 : Int32).toNatClampNeg 0) (1 : Int32).toNatClampNeg 0) (2 : Int32).toNatClampNeg 0) (3 : Int32).toNatClampNeg 0) (4 : Int32).toNatClampNeg 0) (5 : Int32).toNatClampNeg 0) (6 : Int32).toNatClampNeg 0) (7 : Int32).toNatClampNeg 0) (8 : Int32).toNatClampNeg 0) (9 : Int32).toNatClampNeg 0)))).set 34 ((u 33), .inr (2, ([.ref (u 0), .ref (u 12), .ref (u 19), .int 0, .ref (u 34), .ref (u 35), .ref (u 36), .ref (u 37), .int 0].set 3 (.int 1))))).set 35 ((u 34), .inl (cI, 120, .inl (upd (fun _ => 0) (0 : Int32).toNatClampNeg 10)))).set 36 ((u 35), .inl (cI, 120, .inl (upd (fun _ => 0) (0 : Int32).toNatClampNeg 0)))).set 37 ((u 36), .inl (cI, 120, .inl (upd (fun _ => 0) (0 : Int32).toNatClampNeg (-1))))) ++ [(ao, .inl (cJ, 1, .inr (.inl (fun _ => 0))))]) := hD
  refine lv_astore (lv' := [(4, .ref q9), (0, .ref o), (1, .int x1), (2, .int x2), (3, .ref ao)]) hx hb dL_fault_13 hl (by decide) rfl (fun ls hl => ?_)
  refine lv_iconst (v := 1) hx hb dL_fault_15 (by decide) ?_
  exact vx_ret (wEnd S hr hlocks hP hD hS (Nat.le_of_ble_eq_true rfl) (Nat.le_of_ble_eq_true rfl) dL_fault_16 rfl)

set_option maxHeartbeats 8000000 in
set_option maxRecDepth 100000 in
theorem c_X9_fault_7 (l : Launch) (D : va_G) (cI cZ cJ : ClassId) (o : Nat) (q : Nat → Nat) (sz : Nat) (x1 : Int32) (x2 : Int32) (lo_x1 : 1 ≤ x1) (ne_x2_0 : ¬ x2 = 0) (ne_x2_1 : ¬ x2 = 1) : Met l yX9_fault (uW yX9_fault cX9_fault 3 (some .int)) ({ frames := 2, cells := 1, slots := 111, locals := 49 }) (va_Pc [.ref o, .int x1, .int x2] (wS D (tyL cI cZ cJ) (mW o 0 q cI cZ) sz)) (wQi (0) D (mW o 1 q cI cZ) (va_A (mW o 0 q cI cZ) sz)) 1 111 (va_A (mW o 0 q cI cZ) sz) := by
  refine wStart (lv := [(0, .ref o), (1, .int x1), (2, .int x2)]) (Qc := fun A => wQi (0) D (mW o 1 q cI cZ) A) (by decide) (Nat.le_of_ble_eq_true rfl) rfl ?_
  intro p e s m args below meth c ls A H S hr hlocks hnm hl hK hP hD hS hA
  have hx := S.1
  have hb := S.2.1
  refine lv_aload_n hx hb dX9_fault_0 rfl (lv_at hl 0 rfl) ?_
  refine lv_iconst (v := 0) hx hb dX9_fault_1 (by decide) ?_
  refine xp (ci := 9) (v := .int 0) S inX9 tyX9 tyX9_ok nmX9 rfl hK hP hD hS mW_0 0 (by decide) kw_6_148 rfl rfl rfl rfl (Nat.le_of_ble_eq_true rfl) dX9_fault_2 (fun H locs hP hD hS => ?_)
  have hP : va_P D vwCl (mW o 0 q cI cZ) H := hP
  have hD : va_D A (mW o 0 q cI cZ) := hD
  refine lv_iload_n hx hb dX9_fault_5 rfl (lv_at hl 1 rfl) ?_
  refine lv_iconst (v := 0) hx hb dX9_fault_6 (by decide) ?_
  refine lv_aload_n hx hb dX9_fault_7 rfl (lv_at hl 0 rfl) ?_
  refine wrV (As := []) (ci := 9) S (c_X9_faults_0 l D cI cZ cJ o q H.size) mi_X9_faults kw_7_230 rfl rfl ⟨Nat.le_of_ble_eq_true rfl, Nat.le_of_ble_eq_true rfl⟩ hP hD hK hS hA mW_0 rfl rfl hl.1 (Nat.le_of_ble_eq_true rfl) ⟨Nat.le_of_ble_eq_true rfl, Nat.le_of_ble_eq_true rfl⟩ dX9_fault_8 (fun H locs hz hP hD hS => ?_)
  refine lv_iconst (v := 1) hx hb dX9_fault_11 (by decide) ?_
  refine xisub (v := 0) S dX9_fault_12 (by decide) ?_
  refine rdS (As := [.int x1, .int 0, .int 0]) S (c_X9_isIn_1 l D cI cZ cJ o q x1 lo_x1) ms_X9_isIn kw_7_101 ⟨rfl, rfl⟩ ⟨Nat.le_of_ble_eq_true rfl, Nat.le_of_ble_eq_true rfl⟩ hP hK hl.1 (Nat.le_of_ble_eq_true rfl) ⟨Nat.le_of_ble_eq_true rfl, Nat.le_of_ble_eq_true rfl⟩ dX9_fault_13 ?_
  refine lv_if_ne (tgt := 25) hx hb dX9_fault_16 (by decide) (fun c => absurd c (by decide)) (fun _ => ?_)
  refine lv_aload_n hx hb dX9_fault_19 rfl (lv_at hl 0 rfl) ?_
  refine lv_iconst (v := 1) hx hb dX9_fault_20 (by decide) ?_
  refine wrV (As := [.int 1]) (ci := 9) S (c_X9_no_0 l D cI cZ cJ o q H.size) mi_X9_no kw_7_104 rfl rfl ⟨Nat.le_of_ble_eq_true rfl, Nat.le_of_ble_eq_true rfl⟩ hP hD hK hS hA mW_0 rfl rfl hl.1 (Nat.le_of_ble_eq_true rfl) ⟨Nat.le_of_ble_eq_true rfl, Nat.le_of_ble_eq_true rfl⟩ dX9_fault_21 (fun H locs hz hP hD hS => ?_)
  exact wEnd S hr hlocks hP hD hS (Nat.le_of_ble_eq_true rfl) (Nat.le_of_ble_eq_true rfl) dX9_fault_24 rfl
