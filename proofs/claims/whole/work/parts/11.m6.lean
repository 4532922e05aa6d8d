set_option maxHeartbeats 8000000 in
set_option maxRecDepth 100000 in
theorem m_node_k15 (l : Launch) (D : va_G) (cI cZ cJ : ClassId) (o : Nat) (q : Nat → Nat) (sz : Nat) (x2 : Int32) (x3 : Int32) (x4 : Int32) : Met l yX9_node (uW yX9_node cX9_node 6 (some .int)) ({ frames := 5, cells := 0, slots := 0, locals := 109 }) (va_Pc [.ref o, .int 15, .int x2, .int x3, .int x4] (wS D (tyL cI cZ cJ) (mW o 0 q cI cZ) sz)) (wQi (0) D (mW o 1 q cI cZ) (va_A (mW o 0 q cI cZ) sz)) 0 0 (va_A (mW o 0 q cI cZ) sz) := by
  refine wStart (lv := [(0, .ref o), (1, .int 15), (2, .int x2), (3, .int x3), (4, .int x4)]) (Qc := fun A => wQi (0) D (mW o 1 q cI cZ) A) (by decide) (Nat.le_of_ble_eq_true rfl) rfl ?_
  intro p e s m args below meth c ls A H S hr hlocks hnm hl hK hP hD hS hA
  have hx := S.1
  have hb := S.2.1
  refine lv_aload_n hx hb dX9_node_0 rfl (lv_at hl 0 rfl) ?_
  refine lv_iconst (v := 0) hx hb dX9_node_1 (by decide) ?_
  refine xp (ci := 9) (v := .int 0) S inX9 tyX9 tyX9_ok nmX9 rfl hK hP hD hS mW_0 0 (by decide) kw_6_147 rfl rfl rfl rfl (Nat.le_of_ble_eq_true rfl) dX9_node_2 (fun H locs hP hD hS => ?_)
  have hP : va_P D vwCl (mW o 0 q cI cZ) H := hP
  have hD : va_D A (mW o 0 q cI cZ) := hD
  refine lv_iload_n hx hb dX9_node_5 rfl (lv_at hl 1 rfl) ?_
  refine lv_iconst (v := 0) hx hb dX9_node_6 (by decide) ?_
  refine lv_bipush (v := 21) hx hb dX9_node_7 (by decide) ?_
  refine rdS (As := [.int 15, .int 0, .int 21]) S (c_X9_isIn_55 l D cI cZ cJ o q) ms_X9_isIn kw_7_100 ⟨rfl, rfl⟩ ⟨Nat.le_of_ble_eq_true rfl, Nat.le_of_ble_eq_true rfl⟩ hP hK hl.1 (Nat.le_of_ble_eq_true rfl) ⟨Nat.le_of_ble_eq_true rfl, Nat.le_of_ble_eq_true rfl⟩ dX9_node_9 ?_
  refine lv_if_eq (tgt := 27) hx hb dX9_node_12 (by decide) (fun c => absurd c (by decide)) (fun _ => ?_)
  refine lv_aload_n hx hb dX9_node_15 rfl (lv_at hl 0 rfl) ?_
  refine lv_iload_n hx hb dX9_node_16 rfl (lv_at hl 1 rfl) ?_
  refine lv_iload_n hx hb dX9_node_17 rfl (lv_at hl 2 rfl) ?_
  refine lv_iload_n hx hb dX9_node_18 rfl (lv_at hl 3 rfl) ?_
  refine lv_iload hx hb dX9_node_19 (lv_at hl 4 rfl) ?_
  refine rdV (As := [.int 15, .int x2, .int x3, .int x4]) (ci := 9) S (c_X9_canBe_34 l D cI cZ cJ o q x2 x3 x4) mi_X9_canBe kw_7_154 ⟨rfl, rfl⟩ ⟨Nat.le_of_ble_eq_true rfl, Nat.le_of_ble_eq_true rfl⟩ hP hK mW_0 rfl rfl hl.1 (Nat.le_of_ble_eq_true rfl) ⟨Nat.le_of_ble_eq_true rfl, Nat.le_of_ble_eq_true rfl⟩ dX9_node_21 ?_
  refine lv_if_ne (tgt := 33) hx hb dX9_node_24 (by decide) (fun c => absurd c (by decide)) (fun _ => ?_)
  refine lv_aload_n hx hb dX9_node_27 rfl (lv_at hl 0 rfl) ?_
  refine lv_iconst (v := 1) hx hb dX9_node_28 (by decide) ?_
  refine wrV (As := [.int 1]) (ci := 9) S (c_X9_no_0 l D cI cZ cJ o q H.size) mi_X9_no kw_7_103 rfl rfl ⟨Nat.le_of_ble_eq_true rfl, Nat.le_of_ble_eq_true rfl⟩ hP hD hK hS hA mW_0 rfl rfl hl.1 (Nat.le_of_ble_eq_true rfl) ⟨Nat.le_of_ble_eq_true rfl, Nat.le_of_ble_eq_true rfl⟩ dX9_node_29 (fun H locs hz hP hD hS => ?_)
  exact wEnd S hr hlocks hP hD hS (Nat.le_of_ble_eq_true rfl) (Nat.le_of_ble_eq_true rfl) dX9_node_32 rfl

set_option maxHeartbeats 8000000 in
set_option maxRecDepth 100000 in
theorem c_X9_isIn_56 (l : Launch) (D : va_G) (cI cZ cJ : ClassId) (o : Nat) (q : Nat → Nat) : Met l yX9_isIn (uW yX9_isIn cX9_isIn 3 (some .boolean)) ({ frames := 0, cells := 0, slots := 0, locals := 0 }) (va_Pc [.int 16, .int 0, .int 21] (pS D (tyL cI cZ cJ) (mW o 0 q cI cZ))) (QcRead (1)) 0 0 (fun _ => False) := by
  refine rdStart (lv := [(0, .int 16), (1, .int 0), (2, .int 21)]) (by decide) (Nat.le_of_ble_eq_true rfl) rfl ?_
  intro p e s m args below meth c ls S hr hlocks hl hP hK
  have hx := S.1
  have hb := S.2.1
  refine lv_iload_n hx hb dX9_isIn_0 rfl (lv_at hl 0 rfl) ?_
  refine lv_iload_n hx hb dX9_isIn_1 rfl (lv_at hl 1 rfl) ?_
  refine lv_icmp_lt (tgt := 14) hx hb dX9_isIn_2 (by decide) (fun c => absurd c (by decide)) (fun _ => ?_)
  refine lv_iload_n hx hb dX9_isIn_5 rfl (lv_at hl 0 rfl) ?_
  refine lv_iload_n hx hb dX9_isIn_6 rfl (lv_at hl 2 rfl) ?_
  refine lv_icmp_gt (tgt := 14) hx hb dX9_isIn_7 (by decide) (fun c => absurd c (by decide)) (fun _ => ?_)
  refine lv_iconst (v := 1) hx hb dX9_isIn_10 (by decide) ?_
  refine lv_goto (tgt := 15) hx hb dX9_isIn_11 (by decide) ?_
  exact rdEndZ S hr hlocks dX9_isIn_15 rfl rfl

set_option maxHeartbeats 8000000 in
set_option maxRecDepth 100000 in
theorem c_X9_isIn_57 (l : Launch) (D : va_G) (cI cZ cJ : ClassId) (o : Nat) (q : Nat → Nat) (x2 : Int32) (hi_x2 : x2 ≤ (-1)) : Met l yX9_isIn (uW yX9_isIn cX9_isIn 3 (some .boolean)) ({ frames := 0, cells := 0, slots := 0, locals := 0 }) (va_Pc [.int x2, .int 0, .int 9] (pS D (tyL cI cZ cJ) (mW o 0 q cI cZ))) (QcRead (0)) 0 0 (fun _ => False) := by
  refine rdStart (lv := [(0, .int x2), (1, .int 0), (2, .int 9)]) (by decide) (Nat.le_of_ble_eq_true rfl) rfl ?_
  intro p e s m args below meth c ls S hr hlocks hl hP hK
  have hx := S.1
  have hb := S.2.1
  refine lv_iload_n hx hb dX9_isIn_0 rfl (lv_at hl 0 rfl) ?_
  refine lv_iload_n hx hb dX9_isIn_1 rfl (lv_at hl 1 rfl) ?_
  refine lv_icmp_lt (tgt := 14) hx hb dX9_isIn_2 (by decide) (fun _ => ?_) (fun c => absurd (b_lt hi_x2 (by decide)) c)
  refine lv_iconst (v := 0) hx hb dX9_isIn_14 (by decide) ?_
  exact rdEndZ S hr hlocks dX9_isIn_15 rfl rfl

set_option maxHeartbeats 8000000 in
set_option maxRecDepth 100000 in
theorem c_X9_isIn_58 (l : Launch) (D : va_G) (cI cZ cJ : ClassId) (o : Nat) (q : Nat → Nat) (x2 : Int32) (lo_x2 : 10 ≤ x2) : Met l yX9_isIn (uW yX9_isIn cX9_isIn 3 (some .boolean)) ({ frames := 0, cells := 0, slots := 0, locals := 0 }) (va_Pc [.int x2, .int 0, .int 9] (pS D (tyL cI cZ cJ) (mW o 0 q cI cZ))) (QcRead (0)) 0 0 (fun _ => False) := by
  refine rdStart (lv := [(0, .int x2), (1, .int 0), (2, .int 9)]) (by decide) (Nat.le_of_ble_eq_true rfl) rfl ?_
  intro p e s m args below meth c ls S hr hlocks hl hP hK
  have hx := S.1
  have hb := S.2.1
  refine lv_iload_n hx hb dX9_isIn_0 rfl (lv_at hl 0 rfl) ?_
  refine lv_iload_n hx hb dX9_isIn_1 rfl (lv_at hl 1 rfl) ?_
  refine lv_icmp_lt (tgt := 14) hx hb dX9_isIn_2 (by decide) (fun c => absurd c (b_nlt lo_x2 (by decide))) (fun _ => ?_)
  refine lv_iload_n hx hb dX9_isIn_5 rfl (lv_at hl 0 rfl) ?_
  refine lv_iload_n hx hb dX9_isIn_6 rfl (lv_at hl 2 rfl) ?_
  refine lv_icmp_gt (tgt := 14) hx hb dX9_isIn_7 (by decide) (fun _ => ?_) (fun c => absurd (b_gt lo_x2 (by decide)) c)
  refine lv_iconst (v := 0) hx hb dX9_isIn_14 (by decide) ?_
  exact rdEndZ S hr hlocks dX9_isIn_15 rfl rfl

set_option maxHeartbeats 8000000 in
set_option maxRecDepth 100000 in
theorem c_X9_canBe_35 (l : Launch) (D : va_G) (cI cZ cJ : ClassId) (o : Nat) (q : Nat → Nat) (x2 : Int32) (x3 : Int32) (x4 : Int32) : Met l yX9_canBe (uW yX9_canBe cX9_canBe 5 (some .boolean)) ({ frames := 4, cells := 0, slots := 0, locals := 85 }) (va_Pc [.ref o, .int 16, .int x2, .int x3, .int x4] (pS D (tyL cI cZ cJ) (mW o 0 q cI cZ))) (QcRead (0)) 0 0 (fun _ => False) := by
  refine rdStart (lv := [(0, .ref o), (1, .int 16), (2, .int x2), (3, .int x3), (4, .int x4)]) (by decide) (Nat.le_of_ble_eq_true rfl) rfl ?_
  intro p e s m args below meth c ls S hr hlocks hl hP hK
  have hx := S.1
  have hb := S.2.1
  refine lv_iload_n hx hb dX9_canBe_0 rfl (lv_at hl 1 rfl) ?_
  refine lv_tableIn (off := 410) (tgt := 411) hx hb dX9_canBe_1 (by decide) (by decide) (by decide) (by decide) ?_
  refine lv_iload_n hx hb dX9_canBe_411 rfl (lv_at hl 2 rfl) ?_
  refine lv_iconst (v := 0) hx hb dX9_canBe_412 (by decide) ?_
  refine lv_bipush (v := 9) hx hb dX9_canBe_413 (by decide) ?_
  by_cases d_415 : x2 < 0
  · have hi_x2 : x2 ≤ (-1) := u_lt d_415 (by decide)
    refine rdS (As := [.int x2, .int 0, .int 9]) S (c_X9_isIn_57 l D cI cZ cJ o q x2 hi_x2) ms_X9_isIn kw_7_100 ⟨rfl, rfl⟩ ⟨Nat.le_of_ble_eq_true rfl, Nat.le_of_ble_eq_true rfl⟩ hP hK hl.1 (Nat.le_of_ble_eq_true rfl) ⟨Nat.le_of_ble_eq_true rfl, Nat.le_of_ble_eq_true rfl⟩ dX9_canBe_415 ?_
    refine lv_if_eq (tgt := 442) hx hb dX9_canBe_418 (by decide) (fun _ => ?_) (fun c => absurd c (by decide))
    refine lv_iconst (v := 0) hx hb dX9_canBe_442 (by decide) ?_
    exact rdEndZ S hr hlocks dX9_canBe_443 rfl rfl
  · have lo_x2 : 0 ≤ x2 := l_nlt d_415
    by_cases d_415 : 9 < x2
    · have lo_x2 : 10 ≤ x2 := l_gt d_415 (by decide)
      refine rdS (As := [.int x2, .int 0, .int 9]) S (c_X9_isIn_58 l D cI cZ cJ o q x2 lo_x2) ms_X9_isIn kw_7_100 ⟨rfl, rfl⟩ ⟨Nat.le_of_ble_eq_true rfl, Nat.le_of_ble_eq_true rfl⟩ hP hK hl.1 (Nat.le_of_ble_eq_true rfl) ⟨Nat.le_of_ble_eq_true rfl, Nat.le_of_ble_eq_true rfl⟩ dX9_canBe_415 ?_
      refine lv_if_eq (tgt := 442) hx hb dX9_canBe_418 (by decide) (fun _ => ?_) (fun c => absurd c (by decide))
      refine lv_iconst (v := 0) hx hb dX9_canBe_442 (by decide) ?_
      exact rdEndZ S hr hlocks dX9_canBe_443 rfl rfl
    · have hi_x2 : x2 ≤ 9 := u_ngt d_415
      refine rdS (As := [.int x2, .int 0, .int 9]) S (c_X9_isIn_41 l D cI cZ cJ o q x2 lo_x2 hi_x2) ms_X9_isIn kw_7_100 ⟨rfl, rfl⟩ ⟨Nat.le_of_ble_eq_true rfl, Nat.le_of_ble_eq_true rfl⟩ hP hK hl.1 (Nat.le_of_ble_eq_true rfl) ⟨Nat.le_of_ble_eq_true rfl, Nat.le_of_ble_eq_true rfl⟩ dX9_canBe_415 ?_
      refine lv_if_eq (tgt := 442) hx hb dX9_canBe_418 (by decide) (fun c => absurd c (by decide)) (fun _ => ?_)
      refine lv_aload_n hx hb dX9_canBe_421 rfl (lv_at hl 0 rfl) ?_
      refine lv_iload_n hx hb dX9_canBe_422 rfl (lv_at hl 3 rfl) ?_
      refine rdV (As := [.int x3]) (ci := 9) S (c_X9_isFreeExpression_0 l D cI cZ cJ o q x3) mi_X9_isFreeExpression kw_7_158 ⟨rfl, rfl⟩ ⟨Nat.le_of_ble_eq_true rfl, Nat.le_of_ble_eq_true rfl⟩ hP hK mW_0 rfl rfl hl.1 (Nat.le_of_ble_eq_true rfl) ⟨Nat.le_of_ble_eq_true rfl, Nat.le_of_ble_eq_true rfl⟩ dX9_canBe_423 ?_
      refine lv_if_eq (tgt := 442) hx hb dX9_canBe_426 (by decide) (fun _ => ?_) (fun c => absurd c (by decide))
      refine lv_iconst (v := 0) hx hb dX9_canBe_442 (by decide) ?_
      exact rdEndZ S hr hlocks dX9_canBe_443 rfl rfl

set_option maxHeartbeats 8000000 in
set_option maxRecDepth 100000 in
theorem m_node_k16 (l : Launch) (D : va_G) (cI cZ cJ : ClassId) (o : Nat) (q : Nat → Nat) (sz : Nat) (x2 : Int32) (x3 : Int32) (x4 : Int32) : Met l yX9_node (uW yX9_node cX9_node 6 (some .int)) ({ frames := 5, cells := 0, slots := 0, locals := 109 }) (va_Pc [.ref o, .int 16, .int x2, .int x3, .int x4] (wS D (tyL cI cZ cJ) (mW o 0 q cI cZ) sz)) (wQi (0) D (mW o 1 q cI cZ) (va_A (mW o 0 q cI cZ) sz)) 0 0 (va_A (mW o 0 q cI cZ) sz) := by
  refine wStart (lv := [(0, .ref o), (1, .int 16), (2, .int x2), (3, .int x3), (4, .int x4)]) (Qc := fun A => wQi (0) D (mW o 1 q cI cZ) A) (by decide) (Nat.le_of_ble_eq_true rfl) rfl ?_
  intro p e s m args below meth c ls A H S hr hlocks hnm hl hK hP hD hS hA
  have hx := S.1
  have hb := S.2.1
  refine lv_aload_n hx hb dX9_node_0 rfl (lv_at hl 0 rfl) ?_
  refine lv_iconst (v := 0) hx hb dX9_node_1 (by decide) ?_
  refine xp (ci := 9) (v := .int 0) S inX9 tyX9 tyX9_ok nmX9 rfl hK hP hD hS mW_0 0 (by decide) kw_6_147 rfl rfl rfl rfl (Nat.le_of_ble_eq_true rfl) dX9_node_2 (fun H locs hP hD hS => ?_)
  have hP : va_P D vwCl (mW o 0 q cI cZ) H := hP
  have hD : va_D A (mW o 0 q cI cZ) := hD
  refine lv_iload_n hx hb dX9_node_5 rfl (lv_at hl 1 rfl) ?_
  refine lv_iconst (v := 0) hx hb dX9_node_6 (by decide) ?_
  refine lv_bipush (v := 21) hx hb dX9_node_7 (by decide) ?_
  refine rdS (As := [.int 16, .int 0, .int 21]) S (c_X9_isIn_56 l D cI cZ cJ o q) ms_X9_isIn kw_7_100 ⟨rfl, rfl⟩ ⟨Nat.le_of_ble_eq_true rfl, Nat.le_of_ble_eq_true rfl⟩ hP hK hl.1 (Nat.le_of_ble_eq_true rfl) ⟨Nat.le_of_ble_eq_true rfl, Nat.le_of_ble_eq_true rfl⟩ dX9_node_9 ?_
  refine lv_if_eq (tgt := 27) hx hb dX9_node_12 (by decide) (fun c => absurd c (by decide)) (fun _ => ?_)
  refine lv_aload_n hx hb dX9_node_15 rfl (lv_at hl 0 rfl) ?_
  refine lv_iload_n hx hb dX9_node_16 rfl (lv_at hl 1 rfl) ?_
  refine lv_iload_n hx hb dX9_node_17 rfl (lv_at hl 2 rfl) ?_
  refine lv_iload_n hx hb dX9_node_18 rfl (lv_at hl 3 rfl) ?_
  refine lv_iload hx hb dX9_node_19 (lv_at hl 4 rfl) ?_
  refine rdV (As := [.int 16, .int x2, .int x3, .int x4]) (ci := 9) S (c_X9_canBe_35 l D cI cZ cJ o q x2 x3 x4) mi_X9_canBe kw_7_154 ⟨rfl, rfl⟩ ⟨Nat.le_of_ble_eq_true rfl, Nat.le_of_ble_eq_true rfl⟩ hP hK mW_0 rfl rfl hl.1 (Nat.le_of_ble_eq_true rfl) ⟨Nat.le_of_ble_eq_true rfl, Nat.le_of_ble_eq_true rfl⟩ dX9_node_21 ?_
  refine lv_if_ne (tgt := 33) hx hb dX9_node_24 (by decide) (fun c => absurd c (by decide)) (fun _ => ?_)
  refine lv_aload_n hx hb dX9_node_27 rfl (lv_at hl 0 rfl) ?_
  refine lv_iconst (v := 1) hx hb dX9_node_28 (by decide) ?_
  refine wrV (As := [.int 1]) (ci := 9) S (c_X9_no_0 l D cI cZ cJ o q H.size) mi_X9_no kw_7_103 rfl rfl ⟨Nat.le_of_ble_eq_true rfl, Nat.le_of_ble_eq_true rfl⟩ hP hD hK hS hA mW_0 rfl rfl hl.1 (Nat.le_of_ble_eq_true rfl) ⟨Nat.le_of_ble_eq_true rfl, Nat.le_of_ble_eq_true rfl⟩ dX9_node_29 (fun H locs hz hP hD hS => ?_)
  exact wEnd S hr hlocks hP hD hS (Nat.le_of_ble_eq_true rfl) (Nat.le_of_ble_eq_true rfl) dX9_node_32 rfl

set_option maxHeartbeats 8000000 in
set_option maxRecDepth 100000 in
theorem c_X9_isIn_59 (l : Launch) (D : va_G) (cI cZ cJ : ClassId) (o : Nat) (q : Nat → Nat) : Met l yX9_isIn (uW yX9_isIn cX9_isIn 3 (some .boolean)) ({ frames := 0, cells := 0, slots := 0, locals := 0 }) (va_Pc [.int 18, .int 0, .int 21] (pS D (tyL cI cZ cJ) (mW o 0 q cI cZ))) (QcRead (1)) 0 0 (fun _ => False) := by
  refine rdStart (lv := [(0, .int 18), (1, .int 0), (2, .int 21)]) (by decide) (Nat.le_of_ble_eq_true rfl) rfl ?_
  intro p e s m args below meth c ls S hr hlocks hl hP hK
  have hx := S.1
  have hb := S.2.1
  refine lv_iload_n hx hb dX9_isIn_0 rfl (lv_at hl 0 rfl) ?_
  refine lv_iload_n hx hb dX9_isIn_1 rfl (lv_at hl 1 rfl) ?_
  refine lv_icmp_lt (tgt := 14) hx hb dX9_isIn_2 (by decide) (fun c => absurd c (by decide)) (fun _ => ?_)
  refine lv_iload_n hx hb dX9_isIn_5 rfl (lv_at hl 0 rfl) ?_
  refine lv_iload_n hx hb dX9_isIn_6 rfl (lv_at hl 2 rfl) ?_
  refine lv_icmp_gt (tgt := 14) hx hb dX9_isIn_7 (by decide) (fun c => absurd c (by decide)) (fun _ => ?_)
  refine lv_iconst (v := 1) hx hb dX9_isIn_10 (by decide) ?_
  refine lv_goto (tgt := 15) hx hb dX9_isIn_11 (by decide) ?_
  exact rdEndZ S hr hlocks dX9_isIn_15 rfl rfl

set_option maxHeartbeats 8000000 in
set_option maxRecDepth 100000 in
theorem c_X9_canBe_36 (l : Launch) (D : va_G) (cI cZ cJ : ClassId) (o : Nat) (q : Nat → Nat) (x2 : Int32) (x3 : Int32) (x4 : Int32) : Met l yX9_canBe (uW yX9_canBe cX9_canBe 5 (some .boolean)) ({ frames := 4, cells := 0, slots := 0, locals := 85 }) (va_Pc [.ref o, .int 18, .int x2, .int x3, .int x4] (pS D (tyL cI cZ cJ) (mW o 0 q cI cZ))) (QcRead (0)) 0 0 (fun _ => False) := by
  refine rdStart (lv := [(0, .ref o), (1, .int 18), (2, .int x2), (3, .int x3), (4, .int x4)]) (by decide) (Nat.le_of_ble_eq_true rfl) rfl ?_
  intro p e s m args below meth c ls S hr hlocks hl hP hK
  have hx := S.1
  have hb := S.2.1
  refine lv_iload_n hx hb dX9_canBe_0 rfl (lv_at hl 1 rfl) ?_
  refine lv_tableIn (off := 468) (tgt := 469) hx hb dX9_canBe_1 (by decide) (by decide) (by decide) (by decide) ?_
  refine lv_iload_n hx hb dX9_canBe_469 rfl (lv_at hl 2 rfl) ?_
  refine lv_if_ne (tgt := 490) hx hb dX9_canBe_470 (by decide) (fun c_470 => ?_) (fun c_470 => ?_)
  · have ne_x2_0 : ¬ x2 = 0 := c_470
    refine lv_iconst (v := 0) hx hb dX9_canBe_490 (by decide) ?_
    exact rdEndZ S hr hlocks dX9_canBe_491 rfl rfl
  · have e_x2 : x2 = 0 := c_470
    subst e_x2
    refine lv_aload_n hx hb dX9_canBe_473 rfl (lv_at hl 0 rfl) ?_
    refine lv_iload_n hx hb dX9_canBe_474 rfl (lv_at hl 3 rfl) ?_
    refine rdV (As := [.int x3]) (ci := 9) S (c_X9_isFreeExpression_0 l D cI cZ cJ o q x3) mi_X9_isFreeExpression kw_7_158 ⟨rfl, rfl⟩ ⟨Nat.le_of_ble_eq_true rfl, Nat.le_of_ble_eq_true rfl⟩ hP hK mW_0 rfl rfl hl.1 (Nat.le_of_ble_eq_true rfl) ⟨Nat.le_of_ble_eq_true rfl, Nat.le_of_ble_eq_true rfl⟩ dX9_canBe_475 ?_
    refine lv_if_eq (tgt := 490) hx hb dX9_canBe_478 (by decide) (fun _ => ?_) (fun c => absurd c (by decide))
    refine lv_iconst (v := 0) hx hb dX9_canBe_490 (by decide) ?_
    exact rdEndZ S hr hlocks dX9_canBe_491 rfl rfl

set_option maxHeartbeats 8000000 in
set_option maxRecDepth 100000 in
theorem m_node_k18 (l : Launch) (D : va_G) (cI cZ cJ : ClassId) (o : Nat) (q : Nat → Nat) (sz : Nat) (x2 : Int32) (x3 : Int32) (x4 : Int32) : Met l yX9_node (uW yX9_node cX9_node 6 (some .int)) ({ frames := 5, cells := 0, slots := 0, locals := 109 }) (va_Pc [.ref o, .int 18, .int x2, .int x3, .int x4] (wS D (tyL cI cZ cJ) (mW o 0 q cI cZ) sz)) (wQi (0) D (mW o 1 q cI cZ) (va_A (mW o 0 q cI cZ) sz)) 0 0 (va_A (mW o 0 q cI cZ) sz) := by
  refine wStart (lv := [(0, .ref o), (1, .int 18), (2, .int x2), (3, .int x3), (4, .int x4)]) (Qc := fun A => wQi (0) D (mW o 1 q cI cZ) A) (by decide) (Nat.le_of_ble_eq_true rfl) rfl ?_
  intro p e s m args below meth c ls A H S hr hlocks hnm hl hK hP hD hS hA
  have hx := S.1
  have hb := S.2.1
  refine lv_aload_n hx hb dX9_node_0 rfl (lv_at hl 0 rfl) ?_
  refine lv_iconst (v := 0) hx hb dX9_node_1 (by decide) ?_
  refine xp (ci := 9) (v := .int 0) S inX9 tyX9 tyX9_ok nmX9 rfl hK hP hD hS mW_0 0 (by decide) kw_6_147 rfl rfl rfl rfl (Nat.le_of_ble_eq_true rfl) dX9_node_2 (fun H locs hP hD hS => ?_)
  have hP : va_P D vwCl (mW o 0 q cI cZ) H := hP
  have hD : va_D A (mW o 0 q cI cZ) := hD
  refine lv_iload_n hx hb dX9_node_5 rfl (lv_at hl 1 rfl) ?_
  refine lv_iconst (v := 0) hx hb dX9_node_6 (by decide) ?_
  refine lv_bipush (v := 21) hx hb dX9_node_7 (by decide) ?_
  refine rdS (As := [.int 18, .int 0, .int 21]) S (c_X9_isIn_59 l D cI cZ cJ o q) ms_X9_isIn kw_7_100 ⟨rfl, rfl⟩ ⟨Nat.le_of_ble_eq_true rfl, Nat.le_of_ble_eq_true rfl⟩ hP hK hl.1 (Nat.le_of_ble_eq_true rfl) ⟨Nat.le_of_ble_eq_true rfl, Nat.le_of_ble_eq_true rfl⟩ dX9_node_9 ?_
  refine lv_if_eq (tgt := 27) hx hb dX9_node_12 (by decide) (fun c => absurd c (by decide)) (fun _ => ?_)
  refine lv_aload_n hx hb dX9_node_15 rfl (lv_at hl 0 rfl) ?_
  refine lv_iload_n hx hb dX9_node_16 rfl (lv_at hl 1 rfl) ?_
  refine lv_iload_n hx hb dX9_node_17 rfl (lv_at hl 2 rfl) ?_
  refine lv_iload_n hx hb dX9_node_18 rfl (lv_at hl 3 rfl) ?_
  refine lv_iload hx hb dX9_node_19 (lv_at hl 4 rfl) ?_
  refine rdV (As := [.int 18, .int x2, .int x3, .int x4]) (ci := 9) S (c_X9_canBe_36 l D cI cZ cJ o q x2 x3 x4) mi_X9_canBe kw_7_154 ⟨rfl, rfl⟩ ⟨Nat.le_of_ble_eq_true rfl, Nat.le_of_ble_eq_true rfl⟩ hP hK mW_0 rfl rfl hl.1 (Nat.le_of_ble_eq_true rfl) ⟨Nat.le_of_ble_eq_true rfl, Nat.le_of_ble_eq_true rfl⟩ dX9_node_21 ?_
  refine lv_if_ne (tgt := 33) hx hb dX9_node_24 (by decide) (fun c => absurd c (by decide)) (fun _ => ?_)
  refine lv_aload_n hx hb dX9_node_27 rfl (lv_at hl 0 rfl) ?_
  refine lv_iconst (v := 1) hx hb dX9_node_28 (by decide) ?_
  refine wrV (As := [.int 1]) (ci := 9) S (c_X9_no_0 l D cI cZ cJ o q H.size) mi_X9_no kw_7_103 rfl rfl ⟨Nat.le_of_ble_eq_true rfl, Nat.le_of_ble_eq_true rfl⟩ hP hD hK hS hA mW_0 rfl rfl hl.1 (Nat.le_of_ble_eq_true rfl) ⟨Nat.le_of_ble_eq_true rfl, Nat.le_of_ble_eq_true rfl⟩ dX9_node_29 (fun H locs hz hP hD hS => ?_)
  exact wEnd S hr hlocks hP hD hS (Nat.le_of_ble_eq_true rfl) (Nat.le_of_ble_eq_true rfl) dX9_node_32 rfl

set_option maxHeartbeats 8000000 in
set_option maxRecDepth 100000 in
theorem c_X9_isIn_60 (l : Launch) (D : va_G) (cI cZ cJ : ClassId) (o : Nat) (q : Nat → Nat) : Met l yX9_isIn (uW yX9_isIn cX9_isIn 3 (some .boolean)) ({ frames := 0, cells := 0, slots := 0, locals := 0 }) (va_Pc [.int 19, .int 0, .int 21] (pS D (tyL cI cZ cJ) (mW o 0 q cI cZ))) (QcRead (1)) 0 0 (fun _ => False) := by
  refine rdStart (lv := [(0, .int 19), (1, .int 0), (2, .int 21)]) (by decide) (Nat.le_of_ble_eq_true rfl) rfl ?_
  intro p e s m args below meth c ls S hr hlocks hl hP hK
  have hx := S.1
  have hb := S.2.1
  refine lv_iload_n hx hb dX9_isIn_0 rfl (lv_at hl 0 rfl) ?_
  refine lv_iload_n hx hb dX9_isIn_1 rfl (lv_at hl 1 rfl) ?_
  refine lv_icmp_lt (tgt := 14) hx hb dX9_isIn_2 (by decide) (fun c => absurd c (by decide)) (fun _ => ?_)
  refine lv_iload_n hx hb dX9_isIn_5 rfl (lv_at hl 0 rfl) ?_
  refine lv_iload_n hx hb dX9_isIn_6 rfl (lv_at hl 2 rfl) ?_
  refine lv_icmp_gt (tgt := 14) hx hb dX9_isIn_7 (by decide) (fun c => absurd c (by decide)) (fun _ => ?_)
  refine lv_iconst (v := 1) hx hb dX9_isIn_10 (by decide) ?_
  refine lv_goto (tgt := 15) hx hb dX9_isIn_11 (by decide) ?_
  exact rdEndZ S hr hlocks dX9_isIn_15 rfl rfl

set_option maxHeartbeats 8000000 in
set_option maxRecDepth 100000 in
theorem c_X9_canBe_37 (l : Launch) (D : va_G) (cI cZ cJ : ClassId) (o : Nat) (q : Nat → Nat) (x2 : Int32) (x3 : Int32) (x4 : Int32) : Met l yX9_canBe (uW yX9_canBe cX9_canBe 5 (some .boolean)) ({ frames := 4, cells := 0, slots := 0, locals := 85 }) (va_Pc [.ref o, .int 19, .int x2, .int x3, .int x4] (pS D (tyL cI cZ cJ) (mW o 0 q cI cZ))) (QcRead (0)) 0 0 (fun _ => False) := by
  refine rdStart (lv := [(0, .ref o), (1, .int 19), (2, .int x2), (3, .int x3), (4, .int x4)]) (by decide) (Nat.le_of_ble_eq_true rfl) rfl ?_
  intro p e s m args below meth c ls S hr hlocks hl hP hK
  have hx := S.1
  have hb := S.2.1
  refine lv_iload_n hx hb dX9_canBe_0 rfl (lv_at hl 1 rfl) ?_
  refine lv_tableIn (off := 468) (tgt := 469) hx hb dX9_canBe_1 (by decide) (by decide) (by decide) (by decide) ?_
  refine lv_iload_n hx hb dX9_canBe_469 rfl (lv_at hl 2 rfl) ?_
  refine lv_if_ne (tgt := 490) hx hb dX9_canBe_470 (by decide) (fun c_470 => ?_) (fun c_470 => ?_)
  · have ne_x2_0 : ¬ x2 = 0 := c_470
    refine lv_iconst (v := 0) hx hb dX9_canBe_490 (by decide) ?_
    exact rdEndZ S hr hlocks dX9_canBe_491 rfl rfl
  · have e_x2 : x2 = 0 := c_470
    subst e_x2
    refine lv_aload_n hx hb dX9_canBe_473 rfl (lv_at hl 0 rfl) ?_
    refine lv_iload_n hx hb dX9_canBe_474 rfl (lv_at hl 3 rfl) ?_
    refine rdV (As := [.int x3]) (ci := 9) S (c_X9_isFreeExpression_0 l D cI cZ cJ o q x3) mi_X9_isFreeExpression kw_7_158 ⟨rfl, rfl⟩ ⟨Nat.le_of_ble_eq_true rfl, Nat.le_of_ble_eq_true rfl⟩ hP hK mW_0 rfl rfl hl.1 (Nat.le_of_ble_eq_true rfl) ⟨Nat.le_of_ble_eq_true rfl, Nat.le_of_ble_eq_true rfl⟩ dX9_canBe_475 ?_
    refine lv_if_eq (tgt := 490) hx hb dX9_canBe_478 (by decide) (fun _ => ?_) (fun c => absurd c (by decide))
    refine lv_iconst (v := 0) hx hb dX9_canBe_490 (by decide) ?_
    exact rdEndZ S hr hlocks dX9_canBe_491 rfl rfl

set_option maxHeartbeats 8000000 in
set_option maxRecDepth 100000 in
theorem m_node_k19 (l : Launch) (D : va_G) (cI cZ cJ : ClassId) (o : Nat) (q : Nat → Nat) (sz : Nat) (x2 : Int32) (x3 : Int32) (x4 : Int32) : Met l yX9_node (uW yX9_node cX9_node 6 (some .int)) ({ frames := 5, cells := 0, slots := 0, locals := 109 }) (va_Pc [.ref o, .int 19, .int x2, .int x3, .int x4] (wS D (tyL cI cZ cJ) (mW o 0 q cI cZ) sz)) (wQi (0) D (mW o 1 q cI cZ) (va_A (mW o 0 q cI cZ) sz)) 0 0 (va_A (mW o 0 q cI cZ) sz) := by
  refine wStart (lv := [(0, .ref o), (1, .int 19), (2, .int x2), (3, .int x3), (4, .int x4)]) (Qc := fun A => wQi (0) D (mW o 1 q cI cZ) A) (by decide) (Nat.le_of_ble_eq_true rfl) rfl ?_
  intro p e s m args below meth c ls A H S hr hlocks hnm hl hK hP hD hS hA
  have hx := S.1
  have hb := S.2.1
  refine lv_aload_n hx hb dX9_node_0 rfl (lv_at hl 0 rfl) ?_
  refine lv_iconst (v := 0) hx hb dX9_node_1 (by decide) ?_
  refine xp (ci := 9) (v := .int 0) S inX9 tyX9 tyX9_ok nmX9 rfl hK hP hD hS mW_0 0 (by decide) kw_6_147 rfl rfl rfl rfl (Nat.le_of_ble_eq_true rfl) dX9_node_2 (fun H locs hP hD hS => ?_)
  have hP : va_P D vwCl (mW o 0 q cI cZ) H := hP
  have hD : va_D A (mW o 0 q cI cZ) := hD
  refine lv_iload_n hx hb dX9_node_5 rfl (lv_at hl 1 rfl) ?_
  refine lv_iconst (v := 0) hx hb dX9_node_6 (by decide) ?_
  refine lv_bipush (v := 21) hx hb dX9_node_7 (by decide) ?_
  refine rdS (As := [.int 19, .int 0, .int 21]) S (c_X9_isIn_60 l D cI cZ cJ o q) ms_X9_isIn kw_7_100 ⟨rfl, rfl⟩ ⟨Nat.le_of_ble_eq_true rfl, Nat.le_of_ble_eq_true rfl⟩ hP hK hl.1 (Nat.le_of_ble_eq_true rfl) ⟨Nat.le_of_ble_eq_true rfl, Nat.le_of_ble_eq_true rfl⟩ dX9_node_9 ?_
  refine lv_if_eq (tgt := 27) hx hb dX9_node_12 (by decide) (fun c => absurd c (by decide)) (fun _ => ?_)
  refine lv_aload_n hx hb dX9_node_15 rfl (lv_at hl 0 rfl) ?_
  refine lv_iload_n hx hb dX9_node_16 rfl (lv_at hl 1 rfl) ?_
  refine lv_iload_n hx hb dX9_node_17 rfl (lv_at hl 2 rfl) ?_
  refine lv_iload_n hx hb dX9_node_18 rfl (lv_at hl 3 rfl) ?_
  refine lv_iload hx hb dX9_node_19 (lv_at hl 4 rfl) ?_
  refine rdV (As := [.int 19, .int x2, .int x3, .int x4]) (ci := 9) S (c_X9_canBe_37 l D cI cZ cJ o q x2 x3 x4) mi_X9_canBe kw_7_154 ⟨rfl, rfl⟩ ⟨Nat.le_of_ble_eq_true rfl, Nat.le_of_ble_eq_true rfl⟩ hP hK mW_0 rfl rfl hl.1 (Nat.le_of_ble_eq_true rfl) ⟨Nat.le_of_ble_eq_true rfl, Nat.le_of_ble_eq_true rfl⟩ dX9_node_21 ?_
  refine lv_if_ne (tgt := 33) hx hb dX9_node_24 (by decide) (fun c => absurd c (by decide)) (fun _ => ?_)
  refine lv_aload_n hx hb dX9_node_27 rfl (lv_at hl 0 rfl) ?_
  refine lv_iconst (v := 1) hx hb dX9_node_28 (by decide) ?_
  refine wrV (As := [.int 1]) (ci := 9) S (c_X9_no_0 l D cI cZ cJ o q H.size) mi_X9_no kw_7_103 rfl rfl ⟨Nat.le_of_ble_eq_true rfl, Nat.le_of_ble_eq_true rfl⟩ hP hD hK hS hA mW_0 rfl rfl hl.1 (Nat.le_of_ble_eq_true rfl) ⟨Nat.le_of_ble_eq_true rfl, Nat.le_of_ble_eq_true rfl⟩ dX9_node_29 (fun H locs hz hP hD hS => ?_)
  exact wEnd S hr hlocks hP hD hS (Nat.le_of_ble_eq_true rfl) (Nat.le_of_ble_eq_true rfl) dX9_node_32 rfl

set_option maxHeartbeats 8000000 in
set_option maxRecDepth 100000 in
theorem c_X9_isIn_61 (l : Launch) (D : va_G) (cI cZ cJ : ClassId) (o : Nat) (q : Nat → Nat) : Met l yX9_isIn (uW yX9_isIn cX9_isIn 3 (some .boolean)) ({ frames := 0, cells := 0, slots := 0, locals := 0 }) (va_Pc [.int 20, .int 0, .int 21] (pS D (tyL cI cZ cJ) (mW o 0 q cI cZ))) (QcRead (1)) 0 0 (fun _ => False) := by
  refine rdStart (lv := [(0, .int 20), (1, .int 0), (2, .int 21)]) (by decide) (Nat.le_of_ble_eq_true rfl) rfl ?_
  intro p e s m args below meth c ls S hr hlocks hl hP hK
  have hx := S.1
  have hb := S.2.1
  refine lv_iload_n hx hb dX9_isIn_0 rfl (lv_at hl 0 rfl) ?_
  refine lv_iload_n hx hb dX9_isIn_1 rfl (lv_at hl 1 rfl) ?_
  refine lv_icmp_lt (tgt := 14) hx hb dX9_isIn_2 (by decide) (fun c => absurd c (by decide)) (fun _ => ?_)
  refine lv_iload_n hx hb dX9_isIn_5 rfl (lv_at hl 0 rfl) ?_
  refine lv_iload_n hx hb dX9_isIn_6 rfl (lv_at hl 2 rfl) ?_
  refine lv_icmp_gt (tgt := 14) hx hb dX9_isIn_7 (by decide) (fun c => absurd c (by decide)) (fun _ => ?_)
  refine lv_iconst (v := 1) hx hb dX9_isIn_10 (by decide) ?_
  refine lv_goto (tgt := 15) hx hb dX9_isIn_11 (by decide) ?_
  exact rdEndZ S hr hlocks dX9_isIn_15 rfl rfl

set_option maxHeartbeats 8000000 in
set_option maxRecDepth 100000 in
theorem c_X9_canBe_38 (l : Launch) (D : va_G) (cI cZ cJ : ClassId) (o : Nat) (q : Nat → Nat) (x2 : Int32) (x3 : Int32) (x4 : Int32) : Met l yX9_canBe (uW yX9_canBe cX9_canBe 5 (some .boolean)) ({ frames := 3, cells := 0, slots := 0, locals := 64 }) (va_Pc [.ref o, .int 20, .int x2, .int x3, .int x4] (pS D (tyL cI cZ cJ) (mW o 0 q cI cZ))) (QcRead (0)) 0 0 (fun _ => False) := by
  refine rdStart (lv := [(0, .ref o), (1, .int 20), (2, .int x2), (3, .int x3), (4, .int x4)]) (by decide) (Nat.le_of_ble_eq_true rfl) rfl ?_
  intro p e s m args below meth c ls S hr hlocks hl hP hK
  have hx := S.1
  have hb := S.2.1
  refine lv_iload_n hx hb dX9_canBe_0 rfl (lv_at hl 1 rfl) ?_
  refine lv_tableIn (off := 491) (tgt := 492) hx hb dX9_canBe_1 (by decide) (by decide) (by decide) (by decide) ?_
  refine lv_iload_n hx hb dX9_canBe_492 rfl (lv_at hl 2 rfl) ?_
  refine lv_if_ne (tgt := 524) hx hb dX9_canBe_493 (by decide) (fun c_493 => ?_) (fun c_493 => ?_)
  · have ne_x2_0 : ¬ x2 = 0 := c_493
    refine lv_iconst (v := 0) hx hb dX9_canBe_524 (by decide) ?_
    exact rdEndZ S hr hlocks dX9_canBe_525 rfl rfl
  · have e_x2 : x2 = 0 := c_493
    subst e_x2
    refine lv_aload_n hx hb dX9_canBe_496 rfl (lv_at hl 0 rfl) ?_
    refine lv_iload_n hx hb dX9_canBe_497 rfl (lv_at hl 3 rfl) ?_
    refine rdV (As := [.int x3]) (ci := 9) S (c_X9_isFree_1 l D cI cZ cJ o q x3) mi_X9_isFree kw_7_162 ⟨rfl, rfl⟩ ⟨Nat.le_of_ble_eq_true rfl, Nat.le_of_ble_eq_true rfl⟩ hP hK mW_0 rfl rfl hl.1 (Nat.le_of_ble_eq_true rfl) ⟨Nat.le_of_ble_eq_true rfl, Nat.le_of_ble_eq_true rfl⟩ dX9_canBe_498 ?_
    refine lv_if_eq (tgt := 524) hx hb dX9_canBe_501 (by decide) (fun _ => ?_) (fun c => absurd c (by decide))
    refine lv_iconst (v := 0) hx hb dX9_canBe_524 (by decide) ?_
    exact rdEndZ S hr hlocks dX9_canBe_525 rfl rfl

set_option maxHeartbeats 8000000 in
set_option maxRecDepth 100000 in
theorem m_node_k20 (l : Launch) (D : va_G) (cI cZ cJ : ClassId) (o : Nat) (q : Nat → Nat) (sz : Nat) (x2 : Int32) (x3 : Int32) (x4 : Int32) : Met l yX9_node (uW yX9_node cX9_node 6 (some .int)) ({ frames := 4, cells := 0, slots := 0, locals := 88 }) (va_Pc [.ref o, .int 20, .int x2, .int x3, .int x4] (wS D (tyL cI cZ cJ) (mW o 0 q cI cZ) sz)) (wQi (0) D (mW o 1 q cI cZ) (va_A (mW o 0 q cI cZ) sz)) 0 0 (va_A (mW o 0 q cI cZ) sz) := by
  refine wStart (lv := [(0, .ref o), (1, .int 20), (2, .int x2), (3, .int x3), (4, .int x4)]) (Qc := fun A => wQi (0) D (mW o 1 q cI cZ) A) (by decide) (Nat.le_of_ble_eq_true rfl) rfl ?_
  intro p e s m args below meth c ls A H S hr hlocks hnm hl hK hP hD hS hA
  have hx := S.1
  have hb := S.2.1
  refine lv_aload_n hx hb dX9_node_0 rfl (lv_at hl 0 rfl) ?_
  refine lv_iconst (v := 0) hx hb dX9_node_1 (by decide) ?_
  refine xp (ci := 9) (v := .int 0) S inX9 tyX9 tyX9_ok nmX9 rfl hK hP hD hS mW_0 0 (by decide) kw_6_147 rfl rfl rfl rfl (Nat.le_of_ble_eq_true rfl) dX9_node_2 (fun H locs hP hD hS => ?_)
  have hP : va_P D vwCl (mW o 0 q cI cZ) H := hP
  have hD : va_D A (mW o 0 q cI cZ) := hD
  refine lv_iload_n hx hb dX9_node_5 rfl (lv_at hl 1 rfl) ?_
  refine lv_iconst (v := 0) hx hb dX9_node_6 (by decide) ?_
  refine lv_bipush (v := 21) hx hb dX9_node_7 (by decide) ?_
  refine rdS (As := [.int 20, .int 0, .int 21]) S (c_X9_isIn_61 l D cI cZ cJ o q) ms_X9_isIn kw_7_100 ⟨rfl, rfl⟩ ⟨Nat.le_of_ble_eq_true rfl, Nat.le_of_ble_eq_true rfl⟩ hP hK hl.1 (Nat.le_of_ble_eq_true rfl) ⟨Nat.le_of_ble_eq_true rfl, Nat.le_of_ble_eq_true rfl⟩ dX9_node_9 ?_
  refine lv_if_eq (tgt := 27) hx hb dX9_node_12 (by decide) (fun c => absurd c (by decide)) (fun _ => ?_)
  refine lv_aload_n hx hb dX9_node_15 rfl (lv_at hl 0 rfl) ?_
  refine lv_iload_n hx hb dX9_node_16 rfl (lv_at hl 1 rfl) ?_
  refine lv_iload_n hx hb dX9_node_17 rfl (lv_at hl 2 rfl) ?_
  refine lv_iload_n hx hb dX9_node_18 rfl (lv_at hl 3 rfl) ?_
  refine lv_iload hx hb dX9_node_19 (lv_at hl 4 rfl) ?_
  refine rdV (As := [.int 20, .int x2, .int x3, .int x4]) (ci := 9) S (c_X9_canBe_38 l D cI cZ cJ o q x2 x3 x4) mi_X9_canBe kw_7_154 ⟨rfl, rfl⟩ ⟨Nat.le_of_ble_eq_true rfl, Nat.le_of_ble_eq_true rfl⟩ hP hK mW_0 rfl rfl hl.1 (Nat.le_of_ble_eq_true rfl) ⟨Nat.le_of_ble_eq_true rfl, Nat.le_of_ble_eq_true rfl⟩ dX9_node_21 ?_
  refine lv_if_ne (tgt := 33) hx hb dX9_node_24 (by decide) (fun c => absurd c (by decide)) (fun _ => ?_)
  refine lv_aload_n hx hb dX9_node_27 rfl (lv_at hl 0 rfl) ?_
  refine lv_iconst (v := 1) hx hb dX9_node_28 (by decide) ?_
  refine wrV (As := [.int 1]) (ci := 9) S (c_X9_no_0 l D cI cZ cJ o q H.size) mi_X9_no kw_7_103 rfl rfl ⟨Nat.le_of_ble_eq_true rfl, Nat.le_of_ble_eq_true rfl⟩ hP hD hK hS hA mW_0 rfl rfl hl.1 (Nat.le_of_ble_eq_true rfl) ⟨Nat.le_of_ble_eq_true rfl, Nat.le_of_ble_eq_true rfl⟩ dX9_node_29 (fun H locs hz hP hD hS => ?_)
  exact wEnd S hr hlocks hP hD hS (Nat.le_of_ble_eq_true rfl) (Nat.le_of_ble_eq_true rfl) dX9_node_32 rfl

set_option maxHeartbeats 8000000 in
set_option maxRecDepth 100000 in
theorem c_X9_isIn_62 (l : Launch) (D : va_G) (cI cZ cJ : ClassId) (o : Nat) (q : Nat → Nat) : Met l yX9_isIn (uW yX9_isIn cX9_isIn 3 (some .boolean)) ({ frames := 0, cells := 0, slots := 0, locals := 0 }) (va_Pc [.int 21, .int 0, .int 21] (pS D (tyL cI cZ cJ) (mW o 0 q cI cZ))) (QcRead (1)) 0 0 (fun _ => False) := by
  refine rdStart (lv := [(0, .int 21), (1, .int 0), (2, .int 21)]) (by decide) (Nat.le_of_ble_eq_true rfl) rfl ?_
  intro p e s m args below meth c ls S hr hlocks hl hP hK
  have hx := S.1
  have hb := S.2.1
  refine lv_iload_n hx hb dX9_isIn_0 rfl (lv_at hl 0 rfl) ?_
  refine lv_iload_n hx hb dX9_isIn_1 rfl (lv_at hl 1 rfl) ?_
  refine lv_icmp_lt (tgt := 14) hx hb dX9_isIn_2 (by decide) (fun c => absurd c (by decide)) (fun _ => ?_)
  refine lv_iload_n hx hb dX9_isIn_5 rfl (lv_at hl 0 rfl) ?_
  refine lv_iload_n hx hb dX9_isIn_6 rfl (lv_at hl 2 rfl) ?_
  refine lv_icmp_gt (tgt := 14) hx hb dX9_isIn_7 (by decide) (fun c => absurd c (by decide)) (fun _ => ?_)
  refine lv_iconst (v := 1) hx hb dX9_isIn_10 (by decide) ?_
  refine lv_goto (tgt := 15) hx hb dX9_isIn_11 (by decide) ?_
  exact rdEndZ S hr hlocks dX9_isIn_15 rfl rfl

set_option maxHeartbeats 8000000 in
set_option maxRecDepth 100000 in
theorem c_X9_canBe_39 (l : Launch) (D : va_G) (cI cZ cJ : ClassId) (o : Nat) (q : Nat → Nat) (x2 : Int32) (x3 : Int32) (x4 : Int32) : Met l yX9_canBe (uW yX9_canBe cX9_canBe 5 (some .boolean)) ({ frames := 3, cells := 0, slots := 0, locals := 64 }) (va_Pc [.ref o, .int 21, .int x2, .int x3, .int x4] (pS D (tyL cI cZ cJ) (mW o 0 q cI cZ))) (QcRead (0)) 0 0 (fun _ => False) := by
  refine rdStart (lv := [(0, .ref o), (1, .int 21), (2, .int x2), (3, .int x3), (4, .int x4)]) (by decide) (Nat.le_of_ble_eq_true rfl) rfl ?_
  intro p e s m args below meth c ls S hr hlocks hl hP hK
  have hx := S.1
  have hb := S.2.1
  refine lv_iload_n hx hb dX9_canBe_0 rfl (lv_at hl 1 rfl) ?_
  refine lv_tableIn (off := 525) (tgt := 526) hx hb dX9_canBe_1 (by decide) (by decide) (by decide) (by decide) ?_
  refine lv_iload_n hx hb dX9_canBe_526 rfl (lv_at hl 2 rfl) ?_
  by_cases d_527 : x2 < 0
  · have hi_x2 : x2 ≤ (-1) := u_lt d_527 (by decide)
    refine rdS (As := [.int x2]) S (c_X9_isName_2 l D cI cZ cJ o q x2 hi_x2) ms_X9_isName kw_7_107 ⟨rfl, rfl⟩ ⟨Nat.le_of_ble_eq_true rfl, Nat.le_of_ble_eq_true rfl⟩ hP hK hl.1 (Nat.le_of_ble_eq_true rfl) ⟨Nat.le_of_ble_eq_true rfl, Nat.le_of_ble_eq_true rfl⟩ dX9_canBe_527 ?_
    refine lv_if_eq (tgt := 561) hx hb dX9_canBe_530 (by decide) (fun _ => ?_) (fun c => absurd c (by decide))
    refine lv_iconst (v := 0) hx hb dX9_canBe_561 (by decide) ?_
    exact rdEndZ S hr hlocks dX9_canBe_562 rfl rfl
  · have lo_x2 : 0 ≤ x2 := l_nlt d_527
    by_cases d_527 : 15 < x2
    · have lo_x2 : 16 ≤ x2 := l_gt d_527 (by decide)
      refine rdS (As := [.int x2]) S (c_X9_isName_3 l D cI cZ cJ o q x2 lo_x2) ms_X9_isName kw_7_107 ⟨rfl, rfl⟩ ⟨Nat.le_of_ble_eq_true rfl, Nat.le_of_ble_eq_true rfl⟩ hP hK hl.1 (Nat.le_of_ble_eq_true rfl) ⟨Nat.le_of_ble_eq_true rfl, Nat.le_of_ble_eq_true rfl⟩ dX9_canBe_527 ?_
      refine lv_if_eq (tgt := 561) hx hb dX9_canBe_530 (by decide) (fun _ => ?_) (fun c => absurd c (by decide))
      refine lv_iconst (v := 0) hx hb dX9_canBe_561 (by decide) ?_
      exact rdEndZ S hr hlocks dX9_canBe_562 rfl rfl
    · have hi_x2 : x2 ≤ 15 := u_ngt d_527
      refine rdS (As := [.int x2]) S (c_X9_isName_1 l D cI cZ cJ o q x2 lo_x2 hi_x2) ms_X9_isName kw_7_107 ⟨rfl, rfl⟩ ⟨Nat.le_of_ble_eq_true rfl, Nat.le_of_ble_eq_true rfl⟩ hP hK hl.1 (Nat.le_of_ble_eq_true rfl) ⟨Nat.le_of_ble_eq_true rfl, Nat.le_of_ble_eq_true rfl⟩ dX9_canBe_527 ?_
      refine lv_if_eq (tgt := 561) hx hb dX9_canBe_530 (by decide) (fun c => absurd c (by decide)) (fun _ => ?_)
      refine lv_aload_n hx hb dX9_canBe_533 rfl (lv_at hl 0 rfl) ?_
      refine lv_iload_n hx hb dX9_canBe_534 rfl (lv_at hl 3 rfl) ?_
      refine rdV (As := [.int x3]) (ci := 9) S (c_X9_isFree_1 l D cI cZ cJ o q x3) mi_X9_isFree kw_7_162 ⟨rfl, rfl⟩ ⟨Nat.le_of_ble_eq_true rfl, Nat.le_of_ble_eq_true rfl⟩ hP hK mW_0 rfl rfl hl.1 (Nat.le_of_ble_eq_true rfl) ⟨Nat.le_of_ble_eq_true rfl, Nat.le_of_ble_eq_true rfl⟩ dX9_canBe_535 ?_
      refine lv_if_eq (tgt := 561) hx hb dX9_canBe_538 (by decide) (fun _ => ?_) (fun c => absurd c (by decide))
      refine lv_iconst (v := 0) hx hb dX9_canBe_561 (by decide) ?_
      exact rdEndZ S hr hlocks dX9_canBe_562 rfl rfl

set_option maxHeartbeats 8000000 in
set_option maxRecDepth 100000 in
theorem m_node_k21 (l : Launch) (D : va_G) (cI cZ cJ : ClassId) (o : Nat) (q : Nat → Nat) (sz : Nat) (x2 : Int32) (x3 : Int32) (x4 : Int32) : Met l yX9_node (uW yX9_node cX9_node 6 (some .int)) ({ frames := 4, cells := 0, slots := 0, locals := 88 }) (va_Pc [.ref o, .int 21, .int x2, .int x3, .int x4] (wS D (tyL cI cZ cJ) (mW o 0 q cI cZ) sz)) (wQi (0) D (mW o 1 q cI cZ) (va_A (mW o 0 q cI cZ) sz)) 0 0 (va_A (mW o 0 q cI cZ) sz) := by
  refine wStart (lv := [(0, .ref o), (1, .int 21), (2, .int x2), (3, .int x3), (4, .int x4)]) (Qc := fun A => wQi (0) D (mW o 1 q cI cZ) A) (by decide) (Nat.le_of_ble_eq_true rfl) rfl ?_
  intro p e s m args below meth c ls A H S hr hlocks hnm hl hK hP hD hS hA
  have hx := S.1
  have hb := S.2.1
  refine lv_aload_n hx hb dX9_node_0 rfl (lv_at hl 0 rfl) ?_
  refine lv_iconst (v := 0) hx hb dX9_node_1 (by decide) ?_
  refine xp (ci := 9) (v := .int 0) S inX9 tyX9 tyX9_ok nmX9 rfl hK hP hD hS mW_0 0 (by decide) kw_6_147 rfl rfl rfl rfl (Nat.le_of_ble_eq_true rfl) dX9_node_2 (fun H locs hP hD hS => ?_)
  have hP : va_P D vwCl (mW o 0 q cI cZ) H := hP
  have hD : va_D A (mW o 0 q cI cZ) := hD
  refine lv_iload_n hx hb dX9_node_5 rfl (lv_at hl 1 rfl) ?_
  refine lv_iconst (v := 0) hx hb dX9_node_6 (by decide) ?_
  refine lv_bipush (v := 21) hx hb dX9_node_7 (by decide) ?_
  refine rdS (As := [.int 21, .int 0, .int 21]) S (c_X9_isIn_62 l D cI cZ cJ o q) ms_X9_isIn kw_7_100 ⟨rfl, rfl⟩ ⟨Nat.le_of_ble_eq_true rfl, Nat.le_of_ble_eq_true rfl⟩ hP hK hl.1 (Nat.le_of_ble_eq_true rfl) ⟨Nat.le_of_ble_eq_true rfl, Nat.le_of_ble_eq_true rfl⟩ dX9_node_9 ?_
  refine lv_if_eq (tgt := 27) hx hb dX9_node_12 (by decide) (fun c => absurd c (by decide)) (fun _ => ?_)
  refine lv_aload_n hx hb dX9_node_15 rfl (lv_at hl 0 rfl) ?_
  refine lv_iload_n hx hb dX9_node_16 rfl (lv_at hl 1 rfl) ?_
  refine lv_iload_n hx hb dX9_node_17 rfl (lv_at hl 2 rfl) ?_
  refine lv_iload_n hx hb dX9_node_18 rfl (lv_at hl 3 rfl) ?_
  refine lv_iload hx hb dX9_node_19 (lv_at hl 4 rfl) ?_
  refine rdV (As := [.int 21, .int x2, .int x3, .int x4]) (ci := 9) S (c_X9_canBe_39 l D cI cZ cJ o q x2 x3 x4) mi_X9_canBe kw_7_154 ⟨rfl, rfl⟩ ⟨Nat.le_of_ble_eq_true rfl, Nat.le_of_ble_eq_true rfl⟩ hP hK mW_0 rfl rfl hl.1 (Nat.le_of_ble_eq_true rfl) ⟨Nat.le_of_ble_eq_true rfl, Nat.le_of_ble_eq_true rfl⟩ dX9_node_21 ?_
  refine lv_if_ne (tgt := 33) hx hb dX9_node_24 (by decide) (fun c => absurd c (by decide)) (fun _ => ?_)
  refine lv_aload_n hx hb dX9_node_27 rfl (lv_at hl 0 rfl) ?_
  refine lv_iconst (v := 1) hx hb dX9_node_28 (by decide) ?_
  refine wrV (As := [.int 1]) (ci := 9) S (c_X9_no_0 l D cI cZ cJ o q H.size) mi_X9_no kw_7_103 rfl rfl ⟨Nat.le_of_ble_eq_true rfl, Nat.le_of_ble_eq_true rfl⟩ hP hD hK hS hA mW_0 rfl rfl hl.1 (Nat.le_of_ble_eq_true rfl) ⟨Nat.le_of_ble_eq_true rfl, Nat.le_of_ble_eq_true rfl⟩ dX9_node_29 (fun H locs hz hP hD hS => ?_)
  exact wEnd S hr hlocks hP hD hS (Nat.le_of_ble_eq_true rfl) (Nat.le_of_ble_eq_true rfl) dX9_node_32 rfl

set_option maxHeartbeats 8000000 in
set_option maxRecDepth 100000 in
theorem c_X9_isIn_63 (l : Launch) (D : va_G) (cI cZ cJ : ClassId) (o : Nat) (q : Nat → Nat) (x1 : Int32) (hi_x1 : x1 ≤ (-1)) : Met l yX9_isIn (uW yX9_isIn cX9_isIn 3 (some .boolean)) ({ frames := 0, cells := 0, slots := 0, locals := 0 }) (va_Pc [.int x1, .int 0, .int 0] (pS D (tyL cI cZ cJ) (mW o 0 q cI cZ))) (QcRead (0)) 0 0 (fun _ => False) := by
  refine rdStart (lv := [(0, .int x1), (1, .int 0), (2, .int 0)]) (by decide) (Nat.le_of_ble_eq_true rfl) rfl ?_
  intro p e s m args below meth c ls S hr hlocks hl hP hK
  have hx := S.1
  have hb := S.2.1
  refine lv_iload_n hx hb dX9_isIn_0 rfl (lv_at hl 0 rfl) ?_
  refine lv_iload_n hx hb dX9_isIn_1 rfl (lv_at hl 1 rfl) ?_
  refine lv_icmp_lt (tgt := 14) hx hb dX9_isIn_2 (by decide) (fun _ => ?_) (fun c => absurd (b_lt hi_x1 (by decide)) c)
  refine lv_iconst (v := 0) hx hb dX9_isIn_14 (by decide) ?_
  exact rdEndZ S hr hlocks dX9_isIn_15 rfl rfl

set_option maxHeartbeats 8000000 in
set_option maxRecDepth 100000 in
theorem c_X9_isIn_64 (l : Launch) (D : va_G) (cI cZ cJ : ClassId) (o : Nat) (q : Nat → Nat) (x1 : Int32) (lo_x1 : 1 ≤ x1) : Met l yX9_isIn (uW yX9_isIn cX9_isIn 3 (some .boolean)) ({ frames := 0, cells := 0, slots := 0, locals := 0 }) (va_Pc [.int x1, .int 0, .int 0] (pS D (tyL cI cZ cJ) (mW o 0 q cI cZ))) (QcRead (0)) 0 0 (fun _ => False) := by
  refine rdStart (lv := [(0, .int x1), (1, .int 0), (2, .int 0)]) (by decide) (Nat.le_of_ble_eq_true rfl) rfl ?_
  intro p e s m args below meth c ls S hr hlocks hl hP hK
  have hx := S.1
  have hb := S.2.1
  refine lv_iload_n hx hb dX9_isIn_0 rfl (lv_at hl 0 rfl) ?_
  refine lv_iload_n hx hb dX9_isIn_1 rfl (lv_at hl 1 rfl) ?_
  refine lv_icmp_lt (tgt := 14) hx hb dX9_isIn_2 (by decide) (fun c => absurd c (b_nlt lo_x1 (by decide))) (fun _ => ?_)
  refine lv_iload_n hx hb dX9_isIn_5 rfl (lv_at hl 0 rfl) ?_
  refine lv_iload_n hx hb dX9_isIn_6 rfl (lv_at hl 2 rfl) ?_
  refine lv_icmp_gt (tgt := 14) hx hb dX9_isIn_7 (by decide) (fun _ => ?_) (fun c => absurd (b_gt lo_x1 (by decide)) c)
  refine lv_iconst (v := 0) hx hb dX9_isIn_14 (by decide) ?_
  exact rdEndZ S hr hlocks dX9_isIn_15 rfl rfl

set_option maxHeartbeats 8000000 in
set_option maxRecDepth 100000 in
theorem c_X9_isIn_65 (l : Launch) (D : va_G) (cI cZ cJ : ClassId) (o : Nat) (q : Nat → Nat) (x1 : Int32) (lo_x1 : 0 ≤ x1) (hi_x1 : x1 ≤ 0) : Met l yX9_isIn (uW yX9_isIn cX9_isIn 3 (some .boolean)) ({ frames := 0, cells := 0, slots := 0, locals := 0 }) (va_Pc [.int x1, .int 0, .int 0] (pS D (tyL cI cZ cJ) (mW o 0 q cI cZ))) (QcRead (1)) 0 0 (fun _ => False) := by
  refine rdStart (lv := [(0, .int x1), (1, .int 0), (2, .int 0)]) (by decide) (Nat.le_of_ble_eq_true rfl) rfl ?_
  intro p e s m args below meth c ls S hr hlocks hl hP hK
  have hx := S.1
  have hb := S.2.1
  refine lv_iload_n hx hb dX9_isIn_0 rfl (lv_at hl 0 rfl) ?_
  refine lv_iload_n hx hb dX9_isIn_1 rfl (lv_at hl 1 rfl) ?_
  refine lv_icmp_lt (tgt := 14) hx hb dX9_isIn_2 (by decide) (fun c => absurd c (b_nlt lo_x1 (by decide))) (fun _ => ?_)
  refine lv_iload_n hx hb dX9_isIn_5 rfl (lv_at hl 0 rfl) ?_
  refine lv_iload_n hx hb dX9_isIn_6 rfl (lv_at hl 2 rfl) ?_
  refine lv_icmp_gt (tgt := 14) hx hb dX9_isIn_7 (by decide) (fun c => absurd c (b_ngt hi_x1 (by decide))) (fun _ => ?_)
  refine lv_iconst (v := 1) hx hb dX9_isIn_10 (by decide) ?_
  refine lv_goto (tgt := 15) hx hb dX9_isIn_11 (by decide) ?_
  exact rdEndZ S hr hlocks dX9_isIn_15 rfl rfl

set_option maxHeartbeats 8000000 in
set_option maxRecDepth 100000 in
theorem c_X9_isProcedure_2 (l : Launch) (D : va_G) (cI cZ cJ : ClassId) (o : Nat) (q : Nat → Nat) (x1 : Int32) (hi_x1 : x1 ≤ (-1)) : Met l yX9_isProcedure (uW yX9_isProcedure cX9_isProcedure 2 (some .boolean)) ({ frames := 1, cells := 0, slots := 0, locals := 22 }) (va_Pc [.ref o, .int x1] (pS D (tyL cI cZ cJ) (mW o 0 q cI cZ))) (QcRead (0)) 0 0 (fun _ => False) := by
  refine rdStart (lv := [(0, .ref o), (1, .int x1)]) (by decide) (Nat.le_of_ble_eq_true rfl) rfl ?_
  intro p e s m args below meth c ls S hr hlocks hl hP hK
  have hx := S.1
  have hb := S.2.1
  refine lv_iload_n hx hb dX9_isProcedure_0 rfl (lv_at hl 1 rfl) ?_
  refine lv_iconst (v := 0) hx hb dX9_isProcedure_1 (by decide) ?_
  refine lv_aload_n hx hb dX9_isProcedure_2 rfl (lv_at hl 0 rfl) ?_
  refine xg (ci := 9) S inX9 rfl hK hP mW_0 1 (by decide) mF_1 kw_6_148 rfl dX9_isProcedure_3 ?_
  refine lv_iconst (v := 1) hx hb dX9_isProcedure_6 (by decide) ?_
  refine xisub (v := 0) S dX9_isProcedure_7 (by decide) ?_
  refine rdS (As := [.int x1, .int 0, .int 0]) S (c_X9_isIn_63 l D cI cZ cJ o q x1 hi_x1) ms_X9_isIn kw_7_100 ⟨rfl, rfl⟩ ⟨Nat.le_of_ble_eq_true rfl, Nat.le_of_ble_eq_true rfl⟩ hP hK hl.1 (Nat.le_of_ble_eq_true rfl) ⟨Nat.le_of_ble_eq_true rfl, Nat.le_of_ble_eq_true rfl⟩ dX9_isProcedure_8 ?_
  exact rdEndZ S hr hlocks dX9_isProcedure_11 rfl rfl

set_option maxHeartbeats 8000000 in
set_option maxRecDepth 100000 in
theorem c_X9_isProcedure_3 (l : Launch) (D : va_G) (cI cZ cJ : ClassId) (o : Nat) (q : Nat → Nat) (x1 : Int32) (lo_x1 : 1 ≤ x1) : Met l yX9_isProcedure (uW yX9_isProcedure cX9_isProcedure 2 (some .boolean)) ({ frames := 1, cells := 0, slots := 0, locals := 22 }) (va_Pc [.ref o, .int x1] (pS D (tyL cI cZ cJ) (mW o 0 q cI cZ))) (QcRead (0)) 0 0 (fun _ => False) := by
  refine rdStart (lv := [(0, .ref o), (1, .int x1)]) (by decide) (Nat.le_of_ble_eq_true rfl) rfl ?_
  intro p e s m args below meth c ls S hr hlocks hl hP hK
  have hx := S.1
  have hb := S.2.1
  refine lv_iload_n hx hb dX9_isProcedure_0 rfl (lv_at hl 1 rfl) ?_
  refine lv_iconst (v := 0) hx hb dX9_isProcedure_1 (by decide) ?_
  refine lv_aload_n hx hb dX9_isProcedure_2 rfl (lv_at hl 0 rfl) ?_
  refine xg (ci := 9) S inX9 rfl hK hP mW_0 1 (by decide) mF_1 kw_6_148 rfl dX9_isProcedure_3 ?_
  refine lv_iconst (v := 1) hx hb dX9_isProcedure_6 (by decide) ?_
  refine xisub (v := 0) S dX9_isProcedure_7 (by decide) ?_
  refine rdS (As := [.int x1, .int 0, .int 0]) S (c_X9_isIn_64 l D cI cZ cJ o q x1 lo_x1) ms_X9_isIn kw_7_100 ⟨rfl, rfl⟩ ⟨Nat.le_of_ble_eq_true rfl, Nat.le_of_ble_eq_true rfl⟩ hP hK hl.1 (Nat.le_of_ble_eq_true rfl) ⟨Nat.le_of_ble_eq_true rfl, Nat.le_of_ble_eq_true rfl⟩ dX9_isProcedure_8 ?_
  exact rdEndZ S hr hlocks dX9_isProcedure_11 rfl rfl

set_option maxHeartbeats 8000000 in
set_option maxRecDepth 100000 in
theorem c_X9_isProcedure_4 (l : Launch) (D : va_G) (cI cZ cJ : ClassId) (o : Nat) (q : Nat → Nat) (x1 : Int32) (lo_x1 : 0 ≤ x1) (hi_x1 : x1 ≤ 0) : Met l yX9_isProcedure (uW yX9_isProcedure cX9_isProcedure 2 (some .boolean)) ({ frames := 1, cells := 0, slots := 0, locals := 22 }) (va_Pc [.ref o, .int x1] (pS D (tyL cI cZ cJ) (mW o 0 q cI cZ))) (QcRead (1)) 0 0 (fun _ => False) := by
  refine rdStart (lv := [(0, .ref o), (1, .int x1)]) (by decide) (Nat.le_of_ble_eq_true rfl) rfl ?_
  intro p e s m args below meth c ls S hr hlocks hl hP hK
  have hx := S.1
  have hb := S.2.1
  refine lv_iload_n hx hb dX9_isProcedure_0 rfl (lv_at hl 1 rfl) ?_
  refine lv_iconst (v := 0) hx hb dX9_isProcedure_1 (by decide) ?_
  refine lv_aload_n hx hb dX9_isProcedure_2 rfl (lv_at hl 0 rfl) ?_
  refine xg (ci := 9) S inX9 rfl hK hP mW_0 1 (by decide) mF_1 kw_6_148 rfl dX9_isProcedure_3 ?_
  refine lv_iconst (v := 1) hx hb dX9_isProcedure_6 (by decide) ?_
  refine xisub (v := 0) S dX9_isProcedure_7 (by decide) ?_
  refine rdS (As := [.int x1, .int 0, .int 0]) S (c_X9_isIn_65 l D cI cZ cJ o q x1 lo_x1 hi_x1) ms_X9_isIn kw_7_100 ⟨rfl, rfl⟩ ⟨Nat.le_of_ble_eq_true rfl, Nat.le_of_ble_eq_true rfl⟩ hP hK hl.1 (Nat.le_of_ble_eq_true rfl) ⟨Nat.le_of_ble_eq_true rfl, Nat.le_of_ble_eq_true rfl⟩ dX9_isProcedure_8 ?_
  exact rdEndZ S hr hlocks dX9_isProcedure_11 rfl rfl

set_option maxHeartbeats 8000000 in
set_option maxRecDepth 100000 in
theorem c_X9_isIn_66 (l : Launch) (D : va_G) (cI cZ cJ : ClassId) (o : Nat) (q : Nat → Nat) (x2 : Int32) : Met l yX9_isIn (uW yX9_isIn cX9_isIn 3 (some .boolean)) ({ frames := 0, cells := 0, slots := 0, locals := 0 }) (va_Pc [.int x2, .int 0, .int (-1)] (pS D (tyL cI cZ cJ) (mW o 0 q cI cZ))) (QcRead (0)) 0 0 (fun _ => False) := by
  refine rdStart (lv := [(0, .int x2), (1, .int 0), (2, .int (-1))]) (by decide) (Nat.le_of_ble_eq_true rfl) rfl ?_
  intro p e s m args below meth c ls S hr hlocks hl hP hK
  have hx := S.1
  have hb := S.2.1
  refine lv_iload_n hx hb dX9_isIn_0 rfl (lv_at hl 0 rfl) ?_
  refine lv_iload_n hx hb dX9_isIn_1 rfl (lv_at hl 1 rfl) ?_
  refine lv_icmp_lt (tgt := 14) hx hb dX9_isIn_2 (by decide) (fun c_2 => ?_) (fun c_2 => ?_)
  · have hi_x2 : x2 ≤ (-1) := u_lt c_2 (by decide)
    refine lv_iconst (v := 0) hx hb dX9_isIn_14 (by decide) ?_
    exact rdEndZ S hr hlocks dX9_isIn_15 rfl rfl
  · have lo_x2 : 0 ≤ x2 := l_nlt c_2
    refine lv_iload_n hx hb dX9_isIn_5 rfl (lv_at hl 0 rfl) ?_
    refine lv_iload_n hx hb dX9_isIn_6 rfl (lv_at hl 2 rfl) ?_
    refine lv_icmp_gt (tgt := 14) hx hb dX9_isIn_7 (by decide) (fun _ => ?_) (fun c => absurd (b_gt lo_x2 (by decide)) c)
    refine lv_iconst (v := 0) hx hb dX9_isIn_14 (by decide) ?_
    exact rdEndZ S hr hlocks dX9_isIn_15 rfl rfl

set_option maxHeartbeats 8000000 in
set_option maxRecDepth 100000 in
theorem c_X9_isNode_2 (l : Launch) (D : va_G) (cI cZ cJ : ClassId) (o : Nat) (q : Nat → Nat) (x2 : Int32) : Met l yX9_isNode (uW yX9_isNode cX9_isNode 2 (some .boolean)) ({ frames := 1, cells := 0, slots := 0, locals := 22 }) (va_Pc [.ref o, .int x2] (pS D (tyL cI cZ cJ) (mW o 0 q cI cZ))) (QcRead (0)) 0 0 (fun _ => False) := by
  refine rdStart (lv := [(0, .ref o), (1, .int x2)]) (by decide) (Nat.le_of_ble_eq_true rfl) rfl ?_
  intro p e s m args below meth c ls S hr hlocks hl hP hK
  have hx := S.1
  have hb := S.2.1
  refine lv_iload_n hx hb dX9_isNode_0 rfl (lv_at hl 1 rfl) ?_
  refine lv_iconst (v := 0) hx hb dX9_isNode_1 (by decide) ?_
  refine lv_aload_n hx hb dX9_isNode_2 rfl (lv_at hl 0 rfl) ?_
  refine xg (ci := 9) S inX9 rfl hK hP mW_0 13 (by decide) mF_13 kw_6_160 rfl dX9_isNode_3 ?_
  refine lv_iconst (v := 1) hx hb dX9_isNode_6 (by decide) ?_
  refine xisub (v := (-1)) S dX9_isNode_7 (by decide) ?_
  refine rdS (As := [.int x2, .int 0, .int (-1)]) S (c_X9_isIn_66 l D cI cZ cJ o q x2) ms_X9_isIn kw_7_100 ⟨rfl, rfl⟩ ⟨Nat.le_of_ble_eq_true rfl, Nat.le_of_ble_eq_true rfl⟩ hP hK hl.1 (Nat.le_of_ble_eq_true rfl) ⟨Nat.le_of_ble_eq_true rfl, Nat.le_of_ble_eq_true rfl⟩ dX9_isNode_8 ?_
  exact rdEndZ S hr hlocks dX9_isNode_11 rfl rfl

set_option maxHeartbeats 8000000 in
set_option maxRecDepth 100000 in
theorem m_body_p (l : Launch) (D : va_G) (cI cZ cJ : ClassId) (o : Nat) (q : Nat → Nat) (sz : Nat) (x1 : Int32) (x2 : Int32) : Met l yX9_body (uW yX9_body cX9_body 4 (some .int)) ({ frames := 2, cells := 0, slots := 0, locals := 43 }) (va_Pc [.ref o, .int x1, .int x2] (wS D (tyL cI cZ cJ) (mW o 0 q cI cZ) sz)) (wQi (0) D (mW o 1 q cI cZ) (va_A (mW o 0 q cI cZ) sz)) 0 0 (va_A (mW o 0 q cI cZ) sz) := by
  refine wStart (lv := [(0, .ref o), (1, .int x1), (2, .int x2)]) (Qc := fun A => wQi (0) D (mW o 1 q cI cZ) A) (by decide) (Nat.le_of_ble_eq_true rfl) rfl ?_
  intro p e s m args below meth c ls A H S hr hlocks hnm hl hK hP hD hS hA
  have hx := S.1
  have hb := S.2.1
  refine lv_aload_n hx hb dX9_body_0 rfl (lv_at hl 0 rfl) ?_
  refine lv_iconst (v := 0) hx hb dX9_body_1 (by decide) ?_
  refine xp (ci := 9) (v := .int 0) S inX9 tyX9 tyX9_ok nmX9 rfl hK hP hD hS mW_0 0 (by decide) kw_6_147 rfl rfl rfl rfl (Nat.le_of_ble_eq_true rfl) dX9_body_2 (fun H locs hP hD hS => ?_)
  have hP : va_P D vwCl (mW o 0 q cI cZ) H := hP
  have hD : va_D A (mW o 0 q cI cZ) := hD
  refine lv_aload_n hx hb dX9_body_5 rfl (lv_at hl 0 rfl) ?_
  refine lv_iload_n hx hb dX9_body_6 rfl (lv_at hl 1 rfl) ?_
  by_cases d_7 : x1 < 0
  · have hi_x1 : x1 ≤ (-1) := u_lt d_7 (by decide)
    refine rdV (As := [.int x1]) (ci := 9) S (c_X9_isProcedure_2 l D cI cZ cJ o q x1 hi_x1) mi_X9_isProcedure kw_7_96 ⟨rfl, rfl⟩ ⟨Nat.le_of_ble_eq_true rfl, Nat.le_of_ble_eq_true rfl⟩ hP hK mW_0 rfl rfl hl.1 (Nat.le_of_ble_eq_true rfl) ⟨Nat.le_of_ble_eq_true rfl, Nat.le_of_ble_eq_true rfl⟩ dX9_body_7 ?_
    refine lv_if_eq (tgt := 21) hx hb dX9_body_10 (by decide) (fun _ => ?_) (fun c => absurd c (by decide))
    refine lv_aload_n hx hb dX9_body_21 rfl (lv_at hl 0 rfl) ?_
    refine lv_iconst (v := 1) hx hb dX9_body_22 (by decide) ?_
    refine wrV (As := [.int 1]) (ci := 9) S (c_X9_no_0 l D cI cZ cJ o q H.size) mi_X9_no kw_7_103 rfl rfl ⟨Nat.le_of_ble_eq_true rfl, Nat.le_of_ble_eq_true rfl⟩ hP hD hK hS hA mW_0 rfl rfl hl.1 (Nat.le_of_ble_eq_true rfl) ⟨Nat.le_of_ble_eq_true rfl, Nat.le_of_ble_eq_true rfl⟩ dX9_body_23 (fun H locs hz hP hD hS => ?_)
    exact wEnd S hr hlocks hP hD hS (Nat.le_of_ble_eq_true rfl) (Nat.le_of_ble_eq_true rfl) dX9_body_26 rfl
  · have lo_x1 : 0 ≤ x1 := l_nlt d_7
    by_cases d_7 : 0 < x1
    · have lo_x1 : 1 ≤ x1 := l_gt d_7 (by decide)
      refine rdV (As := [.int x1]) (ci := 9) S (c_X9_isProcedure_3 l D cI cZ cJ o q x1 lo_x1) mi_X9_isProcedure kw_7_96 ⟨rfl, rfl⟩ ⟨Nat.le_of_ble_eq_true rfl, Nat.le_of_ble_eq_true rfl⟩ hP hK mW_0 rfl rfl hl.1 (Nat.le_of_ble_eq_true rfl) ⟨Nat.le_of_ble_eq_true rfl, Nat.le_of_ble_eq_true rfl⟩ dX9_body_7 ?_
      refine lv_if_eq (tgt := 21) hx hb dX9_body_10 (by decide) (fun _ => ?_) (fun c => absurd c (by decide))
      refine lv_aload_n hx hb dX9_body_21 rfl (lv_at hl 0 rfl) ?_
      refine lv_iconst (v := 1) hx hb dX9_body_22 (by decide) ?_
      refine wrV (As := [.int 1]) (ci := 9) S (c_X9_no_0 l D cI cZ cJ o q H.size) mi_X9_no kw_7_103 rfl rfl ⟨Nat.le_of_ble_eq_true rfl, Nat.le_of_ble_eq_true rfl⟩ hP hD hK hS hA mW_0 rfl rfl hl.1 (Nat.le_of_ble_eq_true rfl) ⟨Nat.le_of_ble_eq_true rfl, Nat.le_of_ble_eq_true rfl⟩ dX9_body_23 (fun H locs hz hP hD hS => ?_)
      exact wEnd S hr hlocks hP hD hS (Nat.le_of_ble_eq_true rfl) (Nat.le_of_ble_eq_true rfl) dX9_body_26 rfl
    · have hi_x1 : x1 ≤ 0 := u_ngt d_7
      refine rdV (As := [.int x1]) (ci := 9) S (c_X9_isProcedure_4 l D cI cZ cJ o q x1 lo_x1 hi_x1) mi_X9_isProcedure kw_7_96 ⟨rfl, rfl⟩ ⟨Nat.le_of_ble_eq_true rfl, Nat.le_of_ble_eq_true rfl⟩ hP hK mW_0 rfl rfl hl.1 (Nat.le_of_ble_eq_true rfl) ⟨Nat.le_of_ble_eq_true rfl, Nat.le_of_ble_eq_true rfl⟩ dX9_body_7 ?_
      refine lv_if_eq (tgt := 21) hx hb dX9_body_10 (by decide) (fun c => absurd c (by decide)) (fun _ => ?_)
      refine lv_aload_n hx hb dX9_body_13 rfl (lv_at hl 0 rfl) ?_
      refine lv_iload_n hx hb dX9_body_14 rfl (lv_at hl 2 rfl) ?_
      refine rdV (As := [.int x2]) (ci := 9) S (c_X9_isNode_2 l D cI cZ cJ o q x2) mi_X9_isNode kw_7_166 ⟨rfl, rfl⟩ ⟨Nat.le_of_ble_eq_true rfl, Nat.le_of_ble_eq_true rfl⟩ hP hK mW_0 rfl rfl hl.1 (Nat.le_of_ble_eq_true rfl) ⟨Nat.le_of_ble_eq_true rfl, Nat.le_of_ble_eq_true rfl⟩ dX9_body_15 ?_
      refine lv_if_ne (tgt := 27) hx hb dX9_body_18 (by decide) (fun c => absurd c (by decide)) (fun _ => ?_)
      refine lv_aload_n hx hb dX9_body_21 rfl (lv_at hl 0 rfl) ?_
      refine lv_iconst (v := 1) hx hb dX9_body_22 (by decide) ?_
      refine wrV (As := [.int 1]) (ci := 9) S (c_X9_no_0 l D cI cZ cJ o q H.size) mi_X9_no kw_7_103 rfl rfl ⟨Nat.le_of_ble_eq_true rfl, Nat.le_of_ble_eq_true rfl⟩ hP hD hK hS hA mW_0 rfl rfl hl.1 (Nat.le_of_ble_eq_true rfl) ⟨Nat.le_of_ble_eq_true rfl, Nat.le_of_ble_eq_true rfl⟩ dX9_body_23 (fun H locs hz hP hD hS => ?_)
      exact wEnd S hr hlocks hP hD hS (Nat.le_of_ble_eq_true rfl) (Nat.le_of_ble_eq_true rfl) dX9_body_26 rfl

set_option maxHeartbeats 8000000 in
set_option maxRecDepth 100000 in
theorem c_X9_isIn_67 (l : Launch) (D : va_G) (cI cZ cJ : ClassId) (o : Nat) (q : Nat → Nat) (x1 : Int32) : Met l yX9_isIn (uW yX9_isIn cX9_isIn 3 (some .boolean)) ({ frames := 0, cells := 0, slots := 0, locals := 0 }) (va_Pc [.int x1, .int 0, .int (-1)] (pS D (tyL cI cZ cJ) (mW o 0 q cI cZ))) (QcRead (0)) 0 0 (fun _ => False) := by
  refine rdStart (lv := [(0, .int x1), (1, .int 0), (2, .int (-1))]) (by decide) (Nat.le_of_ble_eq_true rfl) rfl ?_
  intro p e s m args below meth c ls S hr hlocks hl hP hK
  have hx := S.1
  have hb := S.2.1
  refine lv_iload_n hx hb dX9_isIn_0 rfl (lv_at hl 0 rfl) ?_
  refine lv_iload_n hx hb dX9_isIn_1 rfl (lv_at hl 1 rfl) ?_
  refine lv_icmp_lt (tgt := 14) hx hb dX9_isIn_2 (by decide) (fun c_2 => ?_) (fun c_2 => ?_)
  · have hi_x1 : x1 ≤ (-1) := u_lt c_2 (by decide)
    refine lv_iconst (v := 0) hx hb dX9_isIn_14 (by decide) ?_
    exact rdEndZ S hr hlocks dX9_isIn_15 rfl rfl
  · have lo_x1 : 0 ≤ x1 := l_nlt c_2
    refine lv_iload_n hx hb dX9_isIn_5 rfl (lv_at hl 0 rfl) ?_
    refine lv_iload_n hx hb dX9_isIn_6 rfl (lv_at hl 2 rfl) ?_
    refine lv_icmp_gt (tgt := 14) hx hb dX9_isIn_7 (by decide) (fun _ => ?_) (fun c => absurd (b_gt lo_x1 (by decide)) c)
    refine lv_iconst (v := 0) hx hb dX9_isIn_14 (by decide) ?_
    exact rdEndZ S hr hlocks dX9_isIn_15 rfl rfl

set_option maxHeartbeats 8000000 in
set_option maxRecDepth 100000 in
theorem c_X9_isNode_3 (l : Launch) (D : va_G) (cI cZ cJ : ClassId) (o : Nat) (q : Nat → Nat) (x1 : Int32) : Met l yX9_isNode (uW yX9_isNode cX9_isNode 2 (some .boolean)) ({ frames := 1, cells := 0, slots := 0, locals := 22 }) (va_Pc [.ref o, .int x1] (pS D (tyL cI cZ cJ) (mW o 0 q cI cZ))) (QcRead (0)) 0 0 (fun _ => False) := by
  refine rdStart (lv := [(0, .ref o), (1, .int x1)]) (by decide) (Nat.le_of_ble_eq_true rfl) rfl ?_
  intro p e s m args below meth c ls S hr hlocks hl hP hK
  have hx := S.1
  have hb := S.2.1
  refine lv_iload_n hx hb dX9_isNode_0 rfl (lv_at hl 1 rfl) ?_
  refine lv_iconst (v := 0) hx hb dX9_isNode_1 (by decide) ?_
  refine lv_aload_n hx hb dX9_isNode_2 rfl (lv_at hl 0 rfl) ?_
  refine xg (ci := 9) S inX9 rfl hK hP mW_0 13 (by decide) mF_13 kw_6_160 rfl dX9_isNode_3 ?_
  refine lv_iconst (v := 1) hx hb dX9_isNode_6 (by decide) ?_
  refine xisub (v := (-1)) S dX9_isNode_7 (by decide) ?_
  refine rdS (As := [.int x1, .int 0, .int (-1)]) S (c_X9_isIn_67 l D cI cZ cJ o q x1) ms_X9_isIn kw_7_100 ⟨rfl, rfl⟩ ⟨Nat.le_of_ble_eq_true rfl, Nat.le_of_ble_eq_true rfl⟩ hP hK hl.1 (Nat.le_of_ble_eq_true rfl) ⟨Nat.le_of_ble_eq_true rfl, Nat.le_of_ble_eq_true rfl⟩ dX9_isNode_8 ?_
  exact rdEndZ S hr hlocks dX9_isNode_11 rfl rfl

set_option maxHeartbeats 8000000 in
set_option maxRecDepth 100000 in
theorem m_ofNode_p (l : Launch) (D : va_G) (cI cZ cJ : ClassId) (o : Nat) (q : Nat → Nat) (sz : Nat) (x1 : Int32) (x2 : Int32) : Met l yX9_ofNode (uW yX9_ofNode cX9_ofNode 3 (some .int)) ({ frames := 2, cells := 0, slots := 0, locals := 43 }) (va_Pc [.ref o, .int x1, .int x2] (wS D (tyL cI cZ cJ) (mW o 0 q cI cZ) sz)) (wQi (0) D (mW o 1 q cI cZ) (va_A (mW o 0 q cI cZ) sz)) 0 0 (va_A (mW o 0 q cI cZ) sz) := by
  refine wStart (lv := [(0, .ref o), (1, .int x1), (2, .int x2)]) (Qc := fun A => wQi (0) D (mW o 1 q cI cZ) A) (by decide) (Nat.le_of_ble_eq_true rfl) rfl ?_
  intro p e s m args below meth c ls A H S hr hlocks hnm hl hK hP hD hS hA
  have hx := S.1
  have hb := S.2.1
  refine lv_aload_n hx hb dX9_ofNode_0 rfl (lv_at hl 0 rfl) ?_
  refine lv_iconst (v := 0) hx hb dX9_ofNode_1 (by decide) ?_
  refine xp (ci := 9) (v := .int 0) S inX9 tyX9 tyX9_ok nmX9 rfl hK hP hD hS mW_0 0 (by decide) kw_6_147 rfl rfl rfl rfl (Nat.le_of_ble_eq_true rfl) dX9_ofNode_2 (fun H locs hP hD hS => ?_)
  have hP : va_P D vwCl (mW o 0 q cI cZ) H := hP
  have hD : va_D A (mW o 0 q cI cZ) := hD
  refine lv_aload_n hx hb dX9_ofNode_5 rfl (lv_at hl 0 rfl) ?_
  refine lv_iload_n hx hb dX9_ofNode_6 rfl (lv_at hl 1 rfl) ?_
  refine rdV (As := [.int x1]) (ci := 9) S (c_X9_isNode_3 l D cI cZ cJ o q x1) mi_X9_isNode kw_7_166 ⟨rfl, rfl⟩ ⟨Nat.le_of_ble_eq_true rfl, Nat.le_of_ble_eq_true rfl⟩ hP hK mW_0 rfl rfl hl.1 (Nat.le_of_ble_eq_true rfl) ⟨Nat.le_of_ble_eq_true rfl, Nat.le_of_ble_eq_true rfl⟩ dX9_ofNode_7 ?_
  refine lv_if_ne (tgt := 19) hx hb dX9_ofNode_10 (by decide) (fun c => absurd c (by decide)) (fun _ => ?_)
  refine lv_aload_n hx hb dX9_ofNode_13 rfl (lv_at hl 0 rfl) ?_
  refine lv_iconst (v := 1) hx hb dX9_ofNode_14 (by decide) ?_
  refine wrV (As := [.int 1]) (ci := 9) S (c_X9_no_0 l D cI cZ cJ o q H.size) mi_X9_no kw_7_103 rfl rfl ⟨Nat.le_of_ble_eq_true rfl, Nat.le_of_ble_eq_true rfl⟩ hP hD hK hS hA mW_0 rfl rfl hl.1 (Nat.le_of_ble_eq_true rfl) ⟨Nat.le_of_ble_eq_true rfl, Nat.le_of_ble_eq_true rfl⟩ dX9_ofNode_15 (fun H locs hz hP hD hS => ?_)
  exact wEnd S hr hlocks hP hD hS (Nat.le_of_ble_eq_true rfl) (Nat.le_of_ble_eq_true rfl) dX9_ofNode_18 rfl

set_option maxHeartbeats 8000000 in
set_option maxRecDepth 100000 in
theorem m_fault_k (l : Launch) (D : va_G) (cI cZ cJ : ClassId) (o : Nat) (q : Nat → Nat) (sz : Nat) (x1 : Int32) (x2 : Int32) (ne_x1_0 : ¬ x1 = 0) : Met l yX9_fault (uW yX9_fault cX9_fault 3 (some .int)) ({ frames := 2, cells := 1, slots := 111, locals := 49 }) (va_Pc [.ref o, .int x1, .int x2] (wS D (tyL cI cZ cJ) (mW o 0 q cI cZ) sz)) (wQi (0) D (mW o 1 q cI cZ) (va_A (mW o 0 q cI cZ) sz)) 1 111 (va_A (mW o 0 q cI cZ) sz) := by
  refine wStart (lv := [(0, .ref o), (1, .int x1), (2, .int x2)]) (Qc := fun A => wQi (0) D (mW o 1 q cI cZ) A) (by decide) (Nat.le_of_ble_eq_true rfl) rfl ?_
  intro p e s m args below meth c ls A H S hr hlocks hnm hl hK hP hD hS hA
  have hx := S.1
  have hb := S.2.1
  refine lv_aload_n hx hb dX9_fault_0 rfl (lv_at hl 0 rfl) ?_
  refine lv_iconst (v := 0) hx hb dX9_fault_1 (by decide) ?_
  refine xp (ci := 9) (v := .int 0) S inX9 tyX9 tyX9_ok nmX9 rfl hK hP hD hS mW_0 0 (by decide) kw_6_147 rfl rfl rfl rfl (Nat.le_of_ble_eq_true rfl) dX9_fault_2 (fun H locs hP hD hS => ?_)
  have hP : va_P D vwCl (mW o 0 q cI cZ) H := hP
  have hD : va_D A (mW o 0 q cI cZ) := hD
  refine lv_iload_n hx hb dX9_fault_5 rfl (lv_at hl 1 rfl) ?_
  refine lv_iconst (v := 0) hx hb dX9_fault_6 (by decide) ?_
  refine lv_aload_n hx hb dX9_fault_7 rfl (lv_at hl 0 rfl) ?_
  refine wrV (As := []) (ci := 9) S (c_X9_faults_0 l D cI cZ cJ o q H.size) mi_X9_faults kw_7_229 rfl rfl ⟨Nat.le_of_ble_eq_true rfl, Nat.le_of_ble_eq_true rfl⟩ hP hD hK hS hA mW_0 rfl rfl hl.1 (Nat.le_of_ble_eq_true rfl) ⟨Nat.le_of_ble_eq_true rfl, Nat.le_of_ble_eq_true rfl⟩ dX9_fault_8 (fun H locs hz hP hD hS => ?_)
  refine lv_iconst (v := 1) hx hb dX9_fault_11 (by decide) ?_
  refine xisub (v := 0) S dX9_fault_12 (by decide) ?_
  refine rdS (As := [.int x1, .int 0, .int 0]) S (c_X9_isIn_0 l D cI cZ cJ o q x1 ne_x1_0) ms_X9_isIn kw_7_100 ⟨rfl, rfl⟩ ⟨Nat.le_of_ble_eq_true rfl, Nat.le_of_ble_eq_true rfl⟩ hP hK hl.1 (Nat.le_of_ble_eq_true rfl) ⟨Nat.le_of_ble_eq_true rfl, Nat.le_of_ble_eq_true rfl⟩ dX9_fault_13 ?_
  refine lv_if_ne (tgt := 25) hx hb dX9_fault_16 (by decide) (fun c => absurd c (by decide)) (fun _ => ?_)
  refine lv_aload_n hx hb dX9_fault_19 rfl (lv_at hl 0 rfl) ?_
  refine lv_iconst (v := 1) hx hb dX9_fault_20 (by decide) ?_
  refine wrV (As := [.int 1]) (ci := 9) S (c_X9_no_0 l D cI cZ cJ o q H.size) mi_X9_no kw_7_103 rfl rfl ⟨Nat.le_of_ble_eq_true rfl, Nat.le_of_ble_eq_true rfl⟩ hP hD hK hS hA mW_0 rfl rfl hl.1 (Nat.le_of_ble_eq_true rfl) ⟨Nat.le_of_ble_eq_true rfl, Nat.le_of_ble_eq_true rfl⟩ dX9_fault_21 (fun H locs hz hP hD hS => ?_)
  exact wEnd S hr hlocks hP hD hS (Nat.le_of_ble_eq_true rfl) (Nat.le_of_ble_eq_true rfl) dX9_fault_24 rfl

set_option maxHeartbeats 8000000 in
set_option maxRecDepth 100000 in
theorem c_X9_isIn_68 (l : Launch) (D : va_G) (cI cZ cJ : ClassId) (o : Nat) (q : Nat → Nat) (x2 : Int32) (ou_x2_0_2 : ¬ (0 ≤ x2 ∧ x2 ≤ 2)) : Met l yX9_isIn (uW yX9_isIn cX9_isIn 3 (some .boolean)) ({ frames := 0, cells := 0, slots := 0, locals := 0 }) (va_Pc [.int x2, .int 0, .int 2] (pS D (tyL cI cZ cJ) (mW o 0 q cI cZ))) (QcRead (0)) 0 0 (fun _ => False) := by
  refine rdStart (lv := [(0, .int x2), (1, .int 0), (2, .int 2)]) (by decide) (Nat.le_of_ble_eq_true rfl) rfl ?_
  intro p e s m args below meth c ls S hr hlocks hl hP hK
  have hx := S.1
  have hb := S.2.1
  refine lv_iload_n hx hb dX9_isIn_0 rfl (lv_at hl 0 rfl) ?_
  refine lv_iload_n hx hb dX9_isIn_1 rfl (lv_at hl 1 rfl) ?_
  refine lv_icmp_lt (tgt := 14) hx hb dX9_isIn_2 (by decide) (fun c_2 => ?_) (fun c_2 => ?_)
  · have hi_x2 : x2 ≤ (-1) := u_lt c_2 (by decide)
    refine lv_iconst (v := 0) hx hb dX9_isIn_14 (by decide) ?_
    exact rdEndZ S hr hlocks dX9_isIn_15 rfl rfl
  · have lo_x2 : 0 ≤ x2 := l_nlt c_2
    have lo_x2 : 3 ≤ x2 := o_l ou_x2_0_2 (b_ge lo_x2 (by decide)) (by decide)
    refine lv_iload_n hx hb dX9_isIn_5 rfl (lv_at hl 0 rfl) ?_
    refine lv_iload_n hx hb dX9_isIn_6 rfl (lv_at hl 2 rfl) ?_
    refine lv_icmp_gt (tgt := 14) hx hb dX9_isIn_7 (by decide) (fun _ => ?_) (fun c => absurd (b_gt lo_x2 (by decide)) c)
    refine lv_iconst (v := 0) hx hb dX9_isIn_14 (by decide) ?_
    exact rdEndZ S hr hlocks dX9_isIn_15 rfl rfl

set_option maxHeartbeats 8000000 in
set_option maxRecDepth 100000 in
theorem m_fault_a (l : Launch) (D : va_G) (cI cZ cJ : ClassId) (o : Nat) (q : Nat → Nat) (sz : Nat) (x2 : Int32) (ou_x2_0_2 : ¬ (0 ≤ x2 ∧ x2 ≤ 2)) : Met l yX9_fault (uW yX9_fault cX9_fault 3 (some .int)) ({ frames := 2, cells := 1, slots := 111, locals := 49 }) (va_Pc [.ref o, .int 0, .int x2] (wS D (tyL cI cZ cJ) (mW o 0 q cI cZ) sz)) (wQi (0) D (mW o 2 q cI cZ) (va_A (mW o 0 q cI cZ) sz)) 1 111 (va_A (mW o 0 q cI cZ) sz) := by
  refine wStart (lv := [(0, .ref o), (1, .int 0), (2, .int x2)]) (Qc := fun A => wQi (0) D (mW o 2 q cI cZ) A) (by decide) (Nat.le_of_ble_eq_true rfl) rfl ?_
  intro p e s m args below meth c ls A H S hr hlocks hnm hl hK hP hD hS hA
  have hx := S.1
  have hb := S.2.1
  refine lv_aload_n hx hb dX9_fault_0 rfl (lv_at hl 0 rfl) ?_
  refine lv_iconst (v := 0) hx hb dX9_fault_1 (by decide) ?_
  refine xp (ci := 9) (v := .int 0) S inX9 tyX9 tyX9_ok nmX9 rfl hK hP hD hS mW_0 0 (by decide) kw_6_147 rfl rfl rfl rfl (Nat.le_of_ble_eq_true rfl) dX9_fault_2 (fun H locs hP hD hS => ?_)
  have hP : va_P D vwCl (mW o 0 q cI cZ) H := hP
  have hD : va_D A (mW o 0 q cI cZ) := hD
  refine lv_iload_n hx hb dX9_fault_5 rfl (lv_at hl 1 rfl) ?_
  refine lv_iconst (v := 0) hx hb dX9_fault_6 (by decide) ?_
  refine lv_aload_n hx hb dX9_fault_7 rfl (lv_at hl 0 rfl) ?_
  refine wrV (As := []) (ci := 9) S (c_X9_faults_0 l D cI cZ cJ o q H.size) mi_X9_faults kw_7_229 rfl rfl ⟨Nat.le_of_ble_eq_true rfl, Nat.le_of_ble_eq_true rfl⟩ hP hD hK hS hA mW_0 rfl rfl hl.1 (Nat.le_of_ble_eq_true rfl) ⟨Nat.le_of_ble_eq_true rfl, Nat.le_of_ble_eq_true rfl⟩ dX9_fault_8 (fun H locs hz hP hD hS => ?_)
  refine lv_iconst (v := 1) hx hb dX9_fault_11 (by decide) ?_
  refine xisub (v := 0) S dX9_fault_12 (by decide) ?_
  refine rdS (As := [.int 0, .int 0, .int 0]) S (c_X9_isIn_1 l D cI cZ cJ o q) ms_X9_isIn kw_7_100 ⟨rfl, rfl⟩ ⟨Nat.le_of_ble_eq_true rfl, Nat.le_of_ble_eq_true rfl⟩ hP hK hl.1 (Nat.le_of_ble_eq_true rfl) ⟨Nat.le_of_ble_eq_true rfl, Nat.le_of_ble_eq_true rfl⟩ dX9_fault_13 ?_
  refine lv_if_ne (tgt := 25) hx hb dX9_fault_16 (by decide) (fun _ => ?_) (fun c => absurd c (by decide))
  refine lv_iload_n hx hb dX9_fault_25 rfl (lv_at hl 2 rfl) ?_
  refine lv_iconst (v := 0) hx hb dX9_fault_26 (by decide) ?_
  refine lv_iconst (v := 2) hx hb dX9_fault_27 (by decide) ?_
  refine rdS (As := [.int x2, .int 0, .int 2]) S (c_X9_isIn_68 l D cI cZ cJ o q x2 ou_x2_0_2) ms_X9_isIn kw_7_100 ⟨rfl, rfl⟩ ⟨Nat.le_of_ble_eq_true rfl, Nat.le_of_ble_eq_true rfl⟩ hP hK hl.1 (Nat.le_of_ble_eq_true rfl) ⟨Nat.le_of_ble_eq_true rfl, Nat.le_of_ble_eq_true rfl⟩ dX9_fault_28 ?_
  refine lv_if_eq (tgt := 43) hx hb dX9_fault_31 (by decide) (fun _ => ?_) (fun c => absurd c (by decide))
  refine lv_aload_n hx hb dX9_fault_43 rfl (lv_at hl 0 rfl) ?_
  refine lv_iconst (v := 2) hx hb dX9_fault_44 (by decide) ?_
  refine wrV (As := [.int 2]) (ci := 9) S (c_X9_no_1 l D cI cZ cJ o q H.size) mi_X9_no kw_7_103 rfl rfl ⟨Nat.le_of_ble_eq_true rfl, Nat.le_of_ble_eq_true rfl⟩ hP hD hK hS hA mW_0 rfl rfl hl.1 (Nat.le_of_ble_eq_true rfl) ⟨Nat.le_of_ble_eq_true rfl, Nat.le_of_ble_eq_true rfl⟩ dX9_fault_45 (fun H locs hz hP hD hS => ?_)
  exact wEnd S hr hlocks hP hD hS (Nat.le_of_ble_eq_true rfl) (Nat.le_of_ble_eq_true rfl) dX9_fault_48 rfl

set_option maxHeartbeats 8000000 in
set_option maxRecDepth 100000 in
theorem c_X9_isIn_69 (l : Launch) (D : va_G) (cI cZ cJ : ClassId) (o : Nat) (q : Nat → Nat) : Met l yX9_isIn (uW yX9_isIn cX9_isIn 3 (some .boolean)) ({ frames := 0, cells := 0, slots := 0, locals := 0 }) (va_Pc [.int 0, .int 0, .int 2] (pS D (tyL cI cZ cJ) (mW o 0 q cI cZ))) (QcRead (1)) 0 0 (fun _ => False) := by
  refine rdStart (lv := [(0, .int 0), (1, .int 0), (2, .int 2)]) (by decide) (Nat.le_of_ble_eq_true rfl) rfl ?_
  intro p e s m args below meth c ls S hr hlocks hl hP hK
  have hx := S.1
  have hb := S.2.1
  refine lv_iload_n hx hb dX9_isIn_0 rfl (lv_at hl 0 rfl) ?_
  refine lv_iload_n hx hb dX9_isIn_1 rfl (lv_at hl 1 rfl) ?_
  refine lv_icmp_lt (tgt := 14) hx hb dX9_isIn_2 (by decide) (fun c => absurd c (by decide)) (fun _ => ?_)
  refine lv_iload_n hx hb dX9_isIn_5 rfl (lv_at hl 0 rfl) ?_
  refine lv_iload_n hx hb dX9_isIn_6 rfl (lv_at hl 2 rfl) ?_
  refine lv_icmp_gt (tgt := 14) hx hb dX9_isIn_7 (by decide) (fun c => absurd c (by decide)) (fun _ => ?_)
  refine lv_iconst (v := 1) hx hb dX9_isIn_10 (by decide) ?_
  refine lv_goto (tgt := 15) hx hb dX9_isIn_11 (by decide) ?_
  exact rdEndZ S hr hlocks dX9_isIn_15 rfl rfl

set_option maxHeartbeats 8000000 in
set_option maxRecDepth 100000 in
theorem c_X9_lookFor_1 (l : Launch) (D : va_G) (cI cZ cJ : ClassId) (o : Nat) (q : Nat → Nat) (sz : Nat) : Met l yX9_lookFor (uW yX9_lookFor cX9_lookFor 10 (some .int)) ({ frames := 0, cells := 1, slots := 111, locals := 0 }) (va_Pc [.ref o, .int 0, .int 0] (wS D (tyL cI cZ cJ) (mW o 0 q cI cZ) sz)) (wQi (10) D (mW o 0 q cI cZ) (va_A (mW o 0 q cI cZ) sz)) 1 111 (va_A (mW o 0 q cI cZ) sz) := by
  refine wStart (lv := [(0, .ref o), (1, .int 0), (2, .int 0)]) (Qc := fun A => wQi (10) D (mW o 0 q cI cZ) A) (by decide) (Nat.le_of_ble_eq_true rfl) rfl ?_
  intro p e s m args below meth c ls A H S hr hlocks hnm hl hK hP hD hS hA
  have hx := S.1
  have hb := S.2.1
  refine lv_iconst (v := 0) hx hb dX9_lookFor_0 (by decide) ?_
  refine lv_istore_n (lv' := [(3, .int 0), (0, .ref o), (1, .int 0), (2, .int 0)]) hx hb dX9_lookFor_1 rfl hl (by decide) rfl (fun ls hl => ?_)
  refine lv_bipush (v := 111) hx hb dX9_lookFor_2 (by decide) ?_
  refine xnewa (ty := .int) (t0 := 0) (N := 111) (a0 := (111, .inl (fun _ => 0))) S kw_1_100 rfl (Or.inl rfl) hK hP hD hS hA rfl (fun _ => rfl) (by decide) (by decide) (by decide) (Nat.le_of_ble_eq_true rfl) (Nat.le_of_ble_eq_true rfl) dX9_lookFor_4 (fun n1 H hP hD hS => ?_)
  refine lv_astore (lv' := [(4, .ref n1), (3, .int 0), (0, .ref o), (1, .int 0), (2, .int 0)]) hx hb dX9_lookFor_6 hl (by decide) rfl (fun ls hl => ?_)
  refine lv_iconst (v := 0) hx hb dX9_lookFor_8 (by decide) ?_
  refine lv_istore (lv' := [(5, .int 0), (4, .ref n1), (3, .int 0), (0, .ref o), (1, .int 0), (2, .int 0)]) hx hb dX9_lookFor_9 hl (by decide) rfl (fun ls hl => ?_)
  refine lv_iload hx hb dX9_lookFor_11 (lv_at hl 0 rfl) ?_
  refine lv_aload_n hx hb dX9_lookFor_13 rfl (lv_at hl 3 rfl) ?_
  refine xg (ci := 9) S inX9 rfl hK hP (q0 := 0) rfl 1 (by decide) mF_1 kw_6_148 rfl dX9_lookFor_14 ?_
  refine lv_icmp_ge (tgt := 200) hx hb dX9_lookFor_17 (by decide) (fun c => absurd c (by decide)) (fun _ => ?_)
  refine lv_aload_n hx hb dX9_lookFor_20 rfl (lv_at hl 3 rfl) ?_
  refine xg (ci := 9) S inX9 rfl hK hP (q0 := 0) rfl 7 (by decide) mF_7 kw_6_154 rfl dX9_lookFor_21 ?_
  refine lv_iload hx hb dX9_lookFor_24 (lv_at hl 0 rfl) ?_
  refine xiald (t0 := 0) (v := (-1)) S hK hP (q0 := 6) rfl rfl (vin rfl) rfl dX9_lookFor_26 ?_
  refine lv_iconst (v := (-1)) hx hb dX9_lookFor_27 (by decide) ?_
  refine lv_icmp_ne (tgt := 63) hx hb dX9_lookFor_28 (by decide) (fun c => absurd c (by decide)) (fun _ => ?_)
  refine lv_iload_n hx hb dX9_lookFor_31 rfl (lv_at hl 2 rfl) ?_
  refine lv_iload_n hx hb dX9_lookFor_32 rfl (lv_at hl 4 rfl) ?_
  refine lv_icmp_ne (tgt := 57) hx hb dX9_lookFor_33 (by decide) (fun c => absurd c (by decide)) (fun _ => ?_)
  refine lv_iload_n hx hb dX9_lookFor_36 rfl (lv_at hl 5 rfl) ?_
  refine lv_if_ne (tgt := 45) hx hb dX9_lookFor_37 (by decide) (fun c => absurd c (by decide)) (fun _ => ?_)
  refine lv_bipush (v := 10) hx hb dX9_lookFor_40 (by decide) ?_
  refine lv_goto (tgt := 56) hx hb dX9_lookFor_42 (by decide) ?_
  have hP := va_Pl (ws := (mW o 0 q cI cZ)) (x := [(n1, .inl (cI, 111, .inl (fun _ => 0)))]) hP
  have hD := va_Dl (ws := (mW o 0 q cI cZ)) (x := [(n1, .inl (cI, 111, .inl (fun _ => 0)))]) hD
  exact wEnd S hr hlocks hP hD hS (Nat.le_of_ble_eq_true rfl) (Nat.le_of_ble_eq_true rfl) dX9_lookFor_56 rfl

set_option maxHeartbeats 8000000 in
set_option maxRecDepth 100000 in
theorem m_fault_ok0 (l : Launch) (D : va_G) (cI cZ cJ : ClassId) (o : Nat) (q : Nat → Nat) (sz : Nat) : Met l yX9_fault (uW yX9_fault cX9_fault 3 (some .int)) ({ frames := 2, cells := 2, slots := 222, locals := 49 }) (va_Pc [.ref o, .int 0, .int 0] (wS D (tyL cI cZ cJ) (mW o 0 q cI cZ) sz)) (wQi (10) D (mW o 0 q cI cZ) (va_A (mW o 0 q cI cZ) sz)) 2 222 (va_A (mW o 0 q cI cZ) sz) := by
  refine wStart (lv := [(0, .ref o), (1, .int 0), (2, .int 0)]) (Qc := fun A => wQi (10) D (mW o 0 q cI cZ) A) (by decide) (Nat.le_of_ble_eq_true rfl) rfl ?_
  intro p e s m args below meth c ls A H S hr hlocks hnm hl hK hP hD hS hA
  have hx := S.1
  have hb := S.2.1
  refine lv_aload_n hx hb dX9_fault_0 rfl (lv_at hl 0 rfl) ?_
  refine lv_iconst (v := 0) hx hb dX9_fault_1 (by decide) ?_
  refine xp (ci := 9) (v := .int 0) S inX9 tyX9 tyX9_ok nmX9 rfl hK hP hD hS mW_0 0 (by decide) kw_6_147 rfl rfl rfl rfl (Nat.le_of_ble_eq_true rfl) dX9_fault_2 (fun H locs hP hD hS => ?_)
  have hP : va_P D vwCl (mW o 0 q cI cZ) H := hP
  have hD : va_D A (mW o 0 q cI cZ) := hD
  refine lv_iload_n hx hb dX9_fault_5 rfl (lv_at hl 1 rfl) ?_
  refine lv_iconst (v := 0) hx hb dX9_fault_6 (by decide) ?_
  refine lv_aload_n hx hb dX9_fault_7 rfl (lv_at hl 0 rfl) ?_
  refine wrV (As := []) (ci := 9) S (c_X9_faults_0 l D cI cZ cJ o q H.size) mi_X9_faults kw_7_229 rfl rfl ⟨Nat.le_of_ble_eq_true rfl, Nat.le_of_ble_eq_true rfl⟩ hP hD hK hS hA mW_0 rfl rfl hl.1 (Nat.le_of_ble_eq_true rfl) ⟨Nat.le_of_ble_eq_true rfl, Nat.le_of_ble_eq_true rfl⟩ dX9_fault_8 (fun H locs hz hP hD hS => ?_)
  refine lv_iconst (v := 1) hx hb dX9_fault_11 (by decide) ?_
  refine xisub (v := 0) S dX9_fault_12 (by decide) ?_
  refine rdS (As := [.int 0, .int 0, .int 0]) S (c_X9_isIn_1 l D cI cZ cJ o q) ms_X9_isIn kw_7_100 ⟨rfl, rfl⟩ ⟨Nat.le_of_ble_eq_true rfl, Nat.le_of_ble_eq_true rfl⟩ hP hK hl.1 (Nat.le_of_ble_eq_true rfl) ⟨Nat.le_of_ble_eq_true rfl, Nat.le_of_ble_eq_true rfl⟩ dX9_fault_13 ?_
  refine lv_if_ne (tgt := 25) hx hb dX9_fault_16 (by decide) (fun _ => ?_) (fun c => absurd c (by decide))
  refine lv_iload_n hx hb dX9_fault_25 rfl (lv_at hl 2 rfl) ?_
  refine lv_iconst (v := 0) hx hb dX9_fault_26 (by decide) ?_
  refine lv_iconst (v := 2) hx hb dX9_fault_27 (by decide) ?_
  refine rdS (As := [.int 0, .int 0, .int 2]) S (c_X9_isIn_69 l D cI cZ cJ o q) ms_X9_isIn kw_7_100 ⟨rfl, rfl⟩ ⟨Nat.le_of_ble_eq_true rfl, Nat.le_of_ble_eq_true rfl⟩ hP hK hl.1 (Nat.le_of_ble_eq_true rfl) ⟨Nat.le_of_ble_eq_true rfl, Nat.le_of_ble_eq_true rfl⟩ dX9_fault_28 ?_
  refine lv_if_eq (tgt := 43) hx hb dX9_fault_31 (by decide) (fun c => absurd c (by decide)) (fun _ => ?_)
  refine lv_aload_n hx hb dX9_fault_34 rfl (lv_at hl 0 rfl) ?_
  refine lv_iload_n hx hb dX9_fault_35 rfl (lv_at hl 1 rfl) ?_
  refine lv_iload_n hx hb dX9_fault_36 rfl (lv_at hl 2 rfl) ?_
  refine wrV (As := [.int 0, .int 0]) (ci := 9) S (c_X9_lookFor_1 l D cI cZ cJ o q H.size) mi_X9_lookFor kw_7_233 rfl rfl ⟨Nat.le_of_ble_eq_true rfl, Nat.le_of_ble_eq_true rfl⟩ hP hD hK hS hA mW_0 rfl rfl hl.1 (Nat.le_of_ble_eq_true rfl) ⟨Nat.le_of_ble_eq_true rfl, Nat.le_of_ble_eq_true rfl⟩ dX9_fault_37 (fun H locs hz hP hD hS => ?_)
  refine lv_goto (tgt := 48) hx hb dX9_fault_40 (by decide) ?_
  exact wEnd S hr hlocks hP hD hS (Nat.le_of_ble_eq_true rfl) (Nat.le_of_ble_eq_true rfl) dX9_fault_48 rfl

set_option maxHeartbeats 8000000 in
set_option maxRecDepth 100000 in
theorem c_X9_isIn_70 (l : Launch) (D : va_G) (cI cZ cJ : ClassId) (o : Nat) (q : Nat → Nat) : Met l yX9_isIn (uW yX9_isIn cX9_isIn 3 (some .boolean)) ({ frames := 0, cells := 0, slots := 0, locals := 0 }) (va_Pc [.int 1, .int 0, .int 2] (pS D (tyL cI cZ cJ) (mW o 0 q cI cZ))) (QcRead (1)) 0 0 (fun _ => False) := by
  refine rdStart (lv := [(0, .int 1), (1, .int 0), (2, .int 2)]) (by decide) (Nat.le_of_ble_eq_true rfl) rfl ?_
  intro p e s m args below meth c ls S hr hlocks hl hP hK
  have hx := S.1
  have hb := S.2.1
  refine lv_iload_n hx hb dX9_isIn_0 rfl (lv_at hl 0 rfl) ?_
  refine lv_iload_n hx hb dX9_isIn_1 rfl (lv_at hl 1 rfl) ?_
  refine lv_icmp_lt (tgt := 14) hx hb dX9_isIn_2 (by decide) (fun c => absurd c (by decide)) (fun _ => ?_)
  refine lv_iload_n hx hb dX9_isIn_5 rfl (lv_at hl 0 rfl) ?_
  refine lv_iload_n hx hb dX9_isIn_6 rfl (lv_at hl 2 rfl) ?_
  refine lv_icmp_gt (tgt := 14) hx hb dX9_isIn_7 (by decide) (fun c => absurd c (by decide)) (fun _ => ?_)
  refine lv_iconst (v := 1) hx hb dX9_isIn_10 (by decide) ?_
  refine lv_goto (tgt := 15) hx hb dX9_isIn_11 (by decide) ?_
  exact rdEndZ S hr hlocks dX9_isIn_15 rfl rfl

set_option maxHeartbeats 8000000 in
set_option maxRecDepth 100000 in
theorem c_X9_lookFor_2 (l : Launch) (D : va_G) (cI cZ cJ : ClassId) (o : Nat) (q : Nat → Nat) (sz : Nat) : Met l yX9_lookFor (uW yX9_lookFor cX9_lookFor 10 (some .int)) ({ frames := 0, cells := 1, slots := 111, locals := 0 }) (va_Pc [.ref o, .int 0, .int 1] (wS D (tyL cI cZ cJ) (mW o 0 q cI cZ) sz)) (wQi (0) D (mW o 0 q cI cZ) (va_A (mW o 0 q cI cZ) sz)) 1 111 (va_A (mW o 0 q cI cZ) sz) := by
  refine wStart (lv := [(0, .ref o), (1, .int 0), (2, .int 1)]) (Qc := fun A => wQi (0) D (mW o 0 q cI cZ) A) (by decide) (Nat.le_of_ble_eq_true rfl) rfl ?_
  intro p e s m args below meth c ls A H S hr hlocks hnm hl hK hP hD hS hA
  have hx := S.1
  have hb := S.2.1
  refine lv_iconst (v := 0) hx hb dX9_lookFor_0 (by decide) ?_
  refine lv_istore_n (lv' := [(3, .int 0), (0, .ref o), (1, .int 0), (2, .int 1)]) hx hb dX9_lookFor_1 rfl hl (by decide) rfl (fun ls hl => ?_)
  refine lv_bipush (v := 111) hx hb dX9_lookFor_2 (by decide) ?_
  refine xnewa (ty := .int) (t0 := 0) (N := 111) (a0 := (111, .inl (fun _ => 0))) S kw_1_100 rfl (Or.inl rfl) hK hP hD hS hA rfl (fun _ => rfl) (by decide) (by decide) (by decide) (Nat.le_of_ble_eq_true rfl) (Nat.le_of_ble_eq_true rfl) dX9_lookFor_4 (fun n1 H hP hD hS => ?_)
  refine lv_astore (lv' := [(4, .ref n1), (3, .int 0), (0, .ref o), (1, .int 0), (2, .int 1)]) hx hb dX9_lookFor_6 hl (by decide) rfl (fun ls hl => ?_)
  refine lv_iconst (v := 0) hx hb dX9_lookFor_8 (by decide) ?_
  refine lv_istore (lv' := [(5, .int 0), (4, .ref n1), (3, .int 0), (0, .ref o), (1, .int 0), (2, .int 1)]) hx hb dX9_lookFor_9 hl (by decide) rfl (fun ls hl => ?_)
  refine lv_iload hx hb dX9_lookFor_11 (lv_at hl 0 rfl) ?_
  refine lv_aload_n hx hb dX9_lookFor_13 rfl (lv_at hl 3 rfl) ?_
  refine xg (ci := 9) S inX9 rfl hK hP (q0 := 0) rfl 1 (by decide) mF_1 kw_6_148 rfl dX9_lookFor_14 ?_
  refine lv_icmp_ge (tgt := 200) hx hb dX9_lookFor_17 (by decide) (fun c => absurd c (by decide)) (fun _ => ?_)
  refine lv_aload_n hx hb dX9_lookFor_20 rfl (lv_at hl 3 rfl) ?_
  refine xg (ci := 9) S inX9 rfl hK hP (q0 := 0) rfl 7 (by decide) mF_7 kw_6_154 rfl dX9_lookFor_21 ?_
  refine lv_iload hx hb dX9_lookFor_24 (lv_at hl 0 rfl) ?_
  refine xiald (t0 := 0) (v := (-1)) S hK hP (q0 := 6) rfl rfl (vin rfl) rfl dX9_lookFor_26 ?_
  refine lv_iconst (v := (-1)) hx hb dX9_lookFor_27 (by decide) ?_
  refine lv_icmp_ne (tgt := 63) hx hb dX9_lookFor_28 (by decide) (fun c => absurd c (by decide)) (fun _ => ?_)
  refine lv_iload_n hx hb dX9_lookFor_31 rfl (lv_at hl 2 rfl) ?_
  refine lv_iload_n hx hb dX9_lookFor_32 rfl (lv_at hl 4 rfl) ?_
  refine lv_icmp_ne (tgt := 57) hx hb dX9_lookFor_33 (by decide) (fun c => absurd c (by decide)) (fun _ => ?_)
  refine lv_iload_n hx hb dX9_lookFor_36 rfl (lv_at hl 5 rfl) ?_
  refine lv_if_ne (tgt := 45) hx hb dX9_lookFor_37 (by decide) (fun _ => ?_) (fun c => absurd c (by decide))
  refine lv_iload_n hx hb dX9_lookFor_45 rfl (lv_at hl 5 rfl) ?_
  refine lv_iconst (v := 1) hx hb dX9_lookFor_46 (by decide) ?_
  refine lv_icmp_ne (tgt := 55) hx hb dX9_lookFor_47 (by decide) (fun c => absurd c (by decide)) (fun _ => ?_)
  refine lv_iload hx hb dX9_lookFor_50 (lv_at hl 0 rfl) ?_
  refine lv_goto (tgt := 56) hx hb dX9_lookFor_52 (by decide) ?_
  have hP := va_Pl (ws := (mW o 0 q cI cZ)) (x := [(n1, .inl (cI, 111, .inl (fun _ => 0)))]) hP
  have hD := va_Dl (ws := (mW o 0 q cI cZ)) (x := [(n1, .inl (cI, 111, .inl (fun _ => 0)))]) hD
  exact wEnd S hr hlocks hP hD hS (Nat.le_of_ble_eq_true rfl) (Nat.le_of_ble_eq_true rfl) dX9_lookFor_56 rfl

set_option maxHeartbeats 8000000 in
set_option maxRecDepth 100000 in
theorem m_fault_ok1 (l : Launch) (D : va_G) (cI cZ cJ : ClassId) (o : Nat) (q : Nat → Nat) (sz : Nat) : Met l yX9_fault (uW yX9_fault cX9_fault 3 (some .int)) ({ frames := 2, cells := 2, slots := 222, locals := 49 }) (va_Pc [.ref o, .int 0, .int 1] (wS D (tyL cI cZ cJ) (mW o 0 q cI cZ) sz)) (wQi (0) D (mW o 0 q cI cZ) (va_A (mW o 0 q cI cZ) sz)) 2 222 (va_A (mW o 0 q cI cZ) sz) := by
  refine wStart (lv := [(0, .ref o), (1, .int 0), (2, .int 1)]) (Qc := fun A => wQi (0) D (mW o 0 q cI cZ) A) (by decide) (Nat.le_of_ble_eq_true rfl) rfl ?_
  intro p e s m args below meth c ls A H S hr hlocks hnm hl hK hP hD hS hA
  have hx := S.1
  have hb := S.2.1
  refine lv_aload_n hx hb dX9_fault_0 rfl (lv_at hl 0 rfl) ?_
  refine lv_iconst (v := 0) hx hb dX9_fault_1 (by decide) ?_
  refine xp (ci := 9) (v := .int 0) S inX9 tyX9 tyX9_ok nmX9 rfl hK hP hD hS mW_0 0 (by decide) kw_6_147 rfl rfl rfl rfl (Nat.le_of_ble_eq_true rfl) dX9_fault_2 (fun H locs hP hD hS => ?_)
  have hP : va_P D vwCl (mW o 0 q cI cZ) H := hP
  have hD : va_D A (mW o 0 q cI cZ) := hD
  refine lv_iload_n hx hb dX9_fault_5 rfl (lv_at hl 1 rfl) ?_
  refine lv_iconst (v := 0) hx hb dX9_fault_6 (by decide) ?_
  refine lv_aload_n hx hb dX9_fault_7 rfl (lv_at hl 0 rfl) ?_
  refine wrV (As := []) (ci := 9) S (c_X9_faults_0 l D cI cZ cJ o q H.size) mi_X9_faults kw_7_229 rfl rfl ⟨Nat.le_of_ble_eq_true rfl, Nat.le_of_ble_eq_true rfl⟩ hP hD hK hS hA mW_0 rfl rfl hl.1 (Nat.le_of_ble_eq_true rfl) ⟨Nat.le_of_ble_eq_true rfl, Nat.le_of_ble_eq_true rfl⟩ dX9_fault_8 (fun H locs hz hP hD hS => ?_)
  refine lv_iconst (v := 1) hx hb dX9_fault_11 (by decide) ?_
  refine xisub (v := 0) S dX9_fault_12 (by decide) ?_
  refine rdS (As := [.int 0, .int 0, .int 0]) S (c_X9_isIn_1 l D cI cZ cJ o q) ms_X9_isIn kw_7_100 ⟨rfl, rfl⟩ ⟨Nat.le_of_ble_eq_true rfl, Nat.le_of_ble_eq_true rfl⟩ hP hK hl.1 (Nat.le_of_ble_eq_true rfl) ⟨Nat.le_of_ble_eq_true rfl, Nat.le_of_ble_eq_true rfl⟩ dX9_fault_13 ?_
  refine lv_if_ne (tgt := 25) hx hb dX9_fault_16 (by decide) (fun _ => ?_) (fun c => absurd c (by decide))
  refine lv_iload_n hx hb dX9_fault_25 rfl (lv_at hl 2 rfl) ?_
  refine lv_iconst (v := 0) hx hb dX9_fault_26 (by decide) ?_
  refine lv_iconst (v := 2) hx hb dX9_fault_27 (by decide) ?_
  refine rdS (As := [.int 1, .int 0, .int 2]) S (c_X9_isIn_70 l D cI cZ cJ o q) ms_X9_isIn kw_7_100 ⟨rfl, rfl⟩ ⟨Nat.le_of_ble_eq_true rfl, Nat.le_of_ble_eq_true rfl⟩ hP hK hl.1 (Nat.le_of_ble_eq_true rfl) ⟨Nat.le_of_ble_eq_true rfl, Nat.le_of_ble_eq_true rfl⟩ dX9_fault_28 ?_
  refine lv_if_eq (tgt := 43) hx hb dX9_fault_31 (by decide) (fun c => absurd c (by decide)) (fun _ => ?_)
  refine lv_aload_n hx hb dX9_fault_34 rfl (lv_at hl 0 rfl) ?_
  refine lv_iload_n hx hb dX9_fault_35 rfl (lv_at hl 1 rfl) ?_
  refine lv_iload_n hx hb dX9_fault_36 rfl (lv_at hl 2 rfl) ?_
  refine wrV (As := [.int 0, .int 1]) (ci := 9) S (c_X9_lookFor_2 l D cI cZ cJ o q H.size) mi_X9_lookFor kw_7_233 rfl rfl ⟨Nat.le_of_ble_eq_true rfl, Nat.le_of_ble_eq_true rfl⟩ hP hD hK hS hA mW_0 rfl rfl hl.1 (Nat.le_of_ble_eq_true rfl) ⟨Nat.le_of_ble_eq_true rfl, Nat.le_of_ble_eq_true rfl⟩ dX9_fault_37 (fun H locs hz hP hD hS => ?_)
  refine lv_goto (tgt := 48) hx hb dX9_fault_40 (by decide) ?_
  exact wEnd S hr hlocks hP hD hS (Nat.le_of_ble_eq_true rfl) (Nat.le_of_ble_eq_true rfl) dX9_fault_48 rfl

set_option maxHeartbeats 8000000 in
set_option maxRecDepth 100000 in
theorem c_X9_isIn_71 (l : Launch) (D : va_G) (cI cZ cJ : ClassId) (o : Nat) (q : Nat → Nat) : Met l yX9_isIn (uW yX9_isIn cX9_isIn 3 (some .boolean)) ({ frames := 0, cells := 0, slots := 0, locals := 0 }) (va_Pc [.int 2, .int 0, .int 2] (pS D (tyL cI cZ cJ) (mW o 0 q cI cZ))) (QcRead (1)) 0 0 (fun _ => False) := by
  refine rdStart (lv := [(0, .int 2), (1, .int 0), (2, .int 2)]) (by decide) (Nat.le_of_ble_eq_true rfl) rfl ?_
  intro p e s m args below meth c ls S hr hlocks hl hP hK
  have hx := S.1
  have hb := S.2.1
  refine lv_iload_n hx hb dX9_isIn_0 rfl (lv_at hl 0 rfl) ?_
  refine lv_iload_n hx hb dX9_isIn_1 rfl (lv_at hl 1 rfl) ?_
  refine lv_icmp_lt (tgt := 14) hx hb dX9_isIn_2 (by decide) (fun c => absurd c (by decide)) (fun _ => ?_)
  refine lv_iload_n hx hb dX9_isIn_5 rfl (lv_at hl 0 rfl) ?_
  refine lv_iload_n hx hb dX9_isIn_6 rfl (lv_at hl 2 rfl) ?_
  refine lv_icmp_gt (tgt := 14) hx hb dX9_isIn_7 (by decide) (fun c => absurd c (by decide)) (fun _ => ?_)
  refine lv_iconst (v := 1) hx hb dX9_isIn_10 (by decide) ?_
  refine lv_goto (tgt := 15) hx hb dX9_isIn_11 (by decide) ?_
  exact rdEndZ S hr hlocks dX9_isIn_15 rfl rfl

set_option maxHeartbeats 8000000 in
set_option maxRecDepth 100000 in
theorem c_X9_lookFor_3 (l : Launch) (D : va_G) (cI cZ cJ : ClassId) (o : Nat) (q : Nat → Nat) (sz : Nat) : Met l yX9_lookFor (uW yX9_lookFor cX9_lookFor 10 (some .int)) ({ frames := 0, cells := 1, slots := 111, locals := 0 }) (va_Pc [.ref o, .int 0, .int 2] (wS D (tyL cI cZ cJ) (mW o 0 q cI cZ) sz)) (wQi ((-1)) D (mW o 0 q cI cZ) (va_A (mW o 0 q cI cZ) sz)) 1 111 (va_A (mW o 0 q cI cZ) sz) := by
  refine wStart (lv := [(0, .ref o), (1, .int 0), (2, .int 2)]) (Qc := fun A => wQi ((-1)) D (mW o 0 q cI cZ) A) (by decide) (Nat.le_of_ble_eq_true rfl) rfl ?_
  intro p e s m args below meth c ls A H S hr hlocks hnm hl hK hP hD hS hA
  have hx := S.1
  have hb := S.2.1
  refine lv_iconst (v := 0) hx hb dX9_lookFor_0 (by decide) ?_
  refine lv_istore_n (lv' := [(3, .int 0), (0, .ref o), (1, .int 0), (2, .int 2)]) hx hb dX9_lookFor_1 rfl hl (by decide) rfl (fun ls hl => ?_)
  refine lv_bipush (v := 111) hx hb dX9_lookFor_2 (by decide) ?_
  refine xnewa (ty := .int) (t0 := 0) (N := 111) (a0 := (111, .inl (fun _ => 0))) S kw_1_100 rfl (Or.inl rfl) hK hP hD hS hA rfl (fun _ => rfl) (by decide) (by decide) (by decide) (Nat.le_of_ble_eq_true rfl) (Nat.le_of_ble_eq_true rfl) dX9_lookFor_4 (fun n1 H hP hD hS => ?_)
  refine lv_astore (lv' := [(4, .ref n1), (3, .int 0), (0, .ref o), (1, .int 0), (2, .int 2)]) hx hb dX9_lookFor_6 hl (by decide) rfl (fun ls hl => ?_)
  refine lv_iconst (v := 0) hx hb dX9_lookFor_8 (by decide) ?_
  refine lv_istore (lv' := [(5, .int 0), (4, .ref n1), (3, .int 0), (0, .ref o), (1, .int 0), (2, .int 2)]) hx hb dX9_lookFor_9 hl (by decide) rfl (fun ls hl => ?_)
  refine lv_iload hx hb dX9_lookFor_11 (lv_at hl 0 rfl) ?_
  refine lv_aload_n hx hb dX9_lookFor_13 rfl (lv_at hl 3 rfl) ?_
  refine xg (ci := 9) S inX9 rfl hK hP (q0 := 0) rfl 1 (by decide) mF_1 kw_6_148 rfl dX9_lookFor_14 ?_
  refine lv_icmp_ge (tgt := 200) hx hb dX9_lookFor_17 (by decide) (fun c => absurd c (by decide)) (fun _ => ?_)
  refine lv_aload_n hx hb dX9_lookFor_20 rfl (lv_at hl 3 rfl) ?_
  refine xg (ci := 9) S inX9 rfl hK hP (q0 := 0) rfl 7 (by decide) mF_7 kw_6_154 rfl dX9_lookFor_21 ?_
  refine lv_iload hx hb dX9_lookFor_24 (lv_at hl 0 rfl) ?_
  refine xiald (t0 := 0) (v := (-1)) S hK hP (q0 := 6) rfl rfl (vin rfl) rfl dX9_lookFor_26 ?_
  refine lv_iconst (v := (-1)) hx hb dX9_lookFor_27 (by decide) ?_
  refine lv_icmp_ne (tgt := 63) hx hb dX9_lookFor_28 (by decide) (fun c => absurd c (by decide)) (fun _ => ?_)
  refine lv_iload_n hx hb dX9_lookFor_31 rfl (lv_at hl 2 rfl) ?_
  refine lv_iload_n hx hb dX9_lookFor_32 rfl (lv_at hl 4 rfl) ?_
  refine lv_icmp_ne (tgt := 57) hx hb dX9_lookFor_33 (by decide) (fun c => absurd c (by decide)) (fun _ => ?_)
  refine lv_iload_n hx hb dX9_lookFor_36 rfl (lv_at hl 5 rfl) ?_
  refine lv_if_ne (tgt := 45) hx hb dX9_lookFor_37 (by decide) (fun _ => ?_) (fun c => absurd c (by decide))
  refine lv_iload_n hx hb dX9_lookFor_45 rfl (lv_at hl 5 rfl) ?_
  refine lv_iconst (v := 1) hx hb dX9_lookFor_46 (by decide) ?_
  refine lv_icmp_ne (tgt := 55) hx hb dX9_lookFor_47 (by decide) (fun _ => ?_) (fun c => absurd c (by decide))
  refine lv_iconst (v := (-1)) hx hb dX9_lookFor_55 (by decide) ?_
  have hP := va_Pl (ws := (mW o 0 q cI cZ)) (x := [(n1, .inl (cI, 111, .inl (fun _ => 0)))]) hP
  have hD := va_Dl (ws := (mW o 0 q cI cZ)) (x := [(n1, .inl (cI, 111, .inl (fun _ => 0)))]) hD
  exact wEnd S hr hlocks hP hD hS (Nat.le_of_ble_eq_true rfl) (Nat.le_of_ble_eq_true rfl) dX9_lookFor_56 rfl

set_option maxHeartbeats 8000000 in
set_option maxRecDepth 100000 in
theorem m_fault_ok2 (l : Launch) (D : va_G) (cI cZ cJ : ClassId) (o : Nat) (q : Nat → Nat) (sz : Nat) : Met l yX9_fault (uW yX9_fault cX9_fault 3 (some .int)) ({ frames := 2, cells := 2, slots := 222, locals := 49 }) (va_Pc [.ref o, .int 0, .int 2] (wS D (tyL cI cZ cJ) (mW o 0 q cI cZ) sz)) (wQi ((-1)) D (mW o 0 q cI cZ) (va_A (mW o 0 q cI cZ) sz)) 2 222 (va_A (mW o 0 q cI cZ) sz) := by
  refine wStart (lv := [(0, .ref o), (1, .int 0), (2, .int 2)]) (Qc := fun A => wQi ((-1)) D (mW o 0 q cI cZ) A) (by decide) (Nat.le_of_ble_eq_true rfl) rfl ?_
  intro p e s m args below meth c ls A H S hr hlocks hnm hl hK hP hD hS hA
  have hx := S.1
  have hb := S.2.1
  refine lv_aload_n hx hb dX9_fault_0 rfl (lv_at hl 0 rfl) ?_
  refine lv_iconst (v := 0) hx hb dX9_fault_1 (by decide) ?_
  refine xp (ci := 9) (v := .int 0) S inX9 tyX9 tyX9_ok nmX9 rfl hK hP hD hS mW_0 0 (by decide) kw_6_147 rfl rfl rfl rfl (Nat.le_of_ble_eq_true rfl) dX9_fault_2 (fun H locs hP hD hS => ?_)
  have hP : va_P D vwCl (mW o 0 q cI cZ) H := hP
  have hD : va_D A (mW o 0 q cI cZ) := hD
  refine lv_iload_n hx hb dX9_fault_5 rfl (lv_at hl 1 rfl) ?_
  refine lv_iconst (v := 0) hx hb dX9_fault_6 (by decide) ?_
  refine lv_aload_n hx hb dX9_fault_7 rfl (lv_at hl 0 rfl) ?_
  refine wrV (As := []) (ci := 9) S (c_X9_faults_0 l D cI cZ cJ o q H.size) mi_X9_faults kw_7_229 rfl rfl ⟨Nat.le_of_ble_eq_true rfl, Nat.le_of_ble_eq_true rfl⟩ hP hD hK hS hA mW_0 rfl rfl hl.1 (Nat.le_of_ble_eq_true rfl) ⟨Nat.le_of_ble_eq_true rfl, Nat.le_of_ble_eq_true rfl⟩ dX9_fault_8 (fun H locs hz hP hD hS => ?_)
  refine lv_iconst (v := 1) hx hb dX9_fault_11 (by decide) ?_
  refine xisub (v := 0) S dX9_fault_12 (by decide) ?_
  refine rdS (As := [.int 0, .int 0, .int 0]) S (c_X9_isIn_1 l D cI cZ cJ o q) ms_X9_isIn kw_7_100 ⟨rfl, rfl⟩ ⟨Nat.le_of_ble_eq_true rfl, Nat.le_of_ble_eq_true rfl⟩ hP hK hl.1 (Nat.le_of_ble_eq_true rfl) ⟨Nat.le_of_ble_eq_true rfl, Nat.le_of_ble_eq_true rfl⟩ dX9_fault_13 ?_
  refine lv_if_ne (tgt := 25) hx hb dX9_fault_16 (by decide) (fun _ => ?_) (fun c => absurd c (by decide))
  refine lv_iload_n hx hb dX9_fault_25 rfl (lv_at hl 2 rfl) ?_
  refine lv_iconst (v := 0) hx hb dX9_fault_26 (by decide) ?_
  refine lv_iconst (v := 2) hx hb dX9_fault_27 (by decide) ?_
  refine rdS (As := [.int 2, .int 0, .int 2]) S (c_X9_isIn_71 l D cI cZ cJ o q) ms_X9_isIn kw_7_100 ⟨rfl, rfl⟩ ⟨Nat.le_of_ble_eq_true rfl, Nat.le_of_ble_eq_true rfl⟩ hP hK hl.1 (Nat.le_of_ble_eq_true rfl) ⟨Nat.le_of_ble_eq_true rfl, Nat.le_of_ble_eq_true rfl⟩ dX9_fault_28 ?_
  refine lv_if_eq (tgt := 43) hx hb dX9_fault_31 (by decide) (fun c => absurd c (by decide)) (fun _ => ?_)
  refine lv_aload_n hx hb dX9_fault_34 rfl (lv_at hl 0 rfl) ?_
  refine lv_iload_n hx hb dX9_fault_35 rfl (lv_at hl 1 rfl) ?_
  refine lv_iload_n hx hb dX9_fault_36 rfl (lv_at hl 2 rfl) ?_
  refine wrV (As := [.int 0, .int 2]) (ci := 9) S (c_X9_lookFor_3 l D cI cZ cJ o q H.size) mi_X9_lookFor kw_7_233 rfl rfl ⟨Nat.le_of_ble_eq_true rfl, Nat.le_of_ble_eq_true rfl⟩ hP hD hK hS hA mW_0 rfl rfl hl.1 (Nat.le_of_ble_eq_true rfl) ⟨Nat.le_of_ble_eq_true rfl, Nat.le_of_ble_eq_true rfl⟩ dX9_fault_37 (fun H locs hz hP hD hS => ?_)
  refine lv_goto (tgt := 48) hx hb dX9_fault_40 (by decide) ?_
  exact wEnd S hr hlocks hP hD hS (Nat.le_of_ble_eq_true rfl) (Nat.le_of_ble_eq_true rfl) dX9_fault_48 rfl

set_option maxHeartbeats 8000000 in
set_option maxRecDepth 100000 in
theorem c_X9_isIn_72 (l : Launch) (D : va_G) (cI cZ cJ : ClassId) (o : Nat) (q : Nat → Nat) (x1 : Int32) (ou_x1_0_7 : ¬ (0 ≤ x1 ∧ x1 ≤ 7)) : Met l yX9_isIn (uW yX9_isIn cX9_isIn 3 (some .boolean)) ({ frames := 0, cells := 0, slots := 0, locals := 0 }) (va_Pc [.int x1, .int 0, .int 7] (pS D (tyL cI cZ cJ) (mW o 0 q cI cZ))) (QcRead (0)) 0 0 (fun _ => False) := by
  refine rdStart (lv := [(0, .int x1), (1, .int 0), (2, .int 7)]) (by decide) (Nat.le_of_ble_eq_true rfl) rfl ?_
  intro p e s m args below meth c ls S hr hlocks hl hP hK
  have hx := S.1
  have hb := S.2.1
  refine lv_iload_n hx hb dX9_isIn_0 rfl (lv_at hl 0 rfl) ?_
  refine lv_iload_n hx hb dX9_isIn_1 rfl (lv_at hl 1 rfl) ?_
  refine lv_icmp_lt (tgt := 14) hx hb dX9_isIn_2 (by decide) (fun c_2 => ?_) (fun c_2 => ?_)
  · have hi_x1 : x1 ≤ (-1) := u_lt c_2 (by decide)
    refine lv_iconst (v := 0) hx hb dX9_isIn_14 (by decide) ?_
    exact rdEndZ S hr hlocks dX9_isIn_15 rfl rfl
  · have lo_x1 : 0 ≤ x1 := l_nlt c_2
    have lo_x1 : 8 ≤ x1 := o_l ou_x1_0_7 (b_ge lo_x1 (by decide)) (by decide)
    refine lv_iload_n hx hb dX9_isIn_5 rfl (lv_at hl 0 rfl) ?_
    refine lv_iload_n hx hb dX9_isIn_6 rfl (lv_at hl 2 rfl) ?_
    refine lv_icmp_gt (tgt := 14) hx hb dX9_isIn_7 (by decide) (fun _ => ?_) (fun c => absurd (b_gt lo_x1 (by decide)) c)
    refine lv_iconst (v := 0) hx hb dX9_isIn_14 (by decide) ?_
    exact rdEndZ S hr hlocks dX9_isIn_15 rfl rfl

set_option maxHeartbeats 8000000 in
set_option maxRecDepth 100000 in
theorem m_passes_k (l : Launch) (D : va_G) (cI cZ cJ : ClassId) (o : Nat) (q : Nat → Nat) (sz : Nat) (x1 : Int32) (ou_x1_0_7 : ¬ (0 ≤ x1 ∧ x1 ≤ 7)) : Met l yX9_passes (uW yX9_passes cX9_passes 3 (some .int)) ({ frames := 1, cells := 0, slots := 0, locals := 22 }) (va_Pc [.ref o, .int x1] (wS D (tyL cI cZ cJ) (mW o 0 q cI cZ) sz)) (wQi (0) D (mW o 1 q cI cZ) (va_A (mW o 0 q cI cZ) sz)) 0 0 (va_A (mW o 0 q cI cZ) sz) := by
  refine wStart (lv := [(0, .ref o), (1, .int x1)]) (Qc := fun A => wQi (0) D (mW o 1 q cI cZ) A) (by decide) (Nat.le_of_ble_eq_true rfl) rfl ?_
  intro p e s m args below meth c ls A H S hr hlocks hnm hl hK hP hD hS hA
  have hx := S.1
  have hb := S.2.1
  refine lv_aload_n hx hb dX9_passes_0 rfl (lv_at hl 0 rfl) ?_
  refine lv_iconst (v := 0) hx hb dX9_passes_1 (by decide) ?_
  refine xp (ci := 9) (v := .int 0) S inX9 tyX9 tyX9_ok nmX9 rfl hK hP hD hS mW_0 0 (by decide) kw_6_147 rfl rfl rfl rfl (Nat.le_of_ble_eq_true rfl) dX9_passes_2 (fun H locs hP hD hS => ?_)
  have hP : va_P D vwCl (mW o 0 q cI cZ) H := hP
  have hD : va_D A (mW o 0 q cI cZ) := hD
  refine lv_iload_n hx hb dX9_passes_5 rfl (lv_at hl 1 rfl) ?_
  refine lv_iconst (v := 0) hx hb dX9_passes_6 (by decide) ?_
  refine lv_bipush (v := 7) hx hb dX9_passes_7 (by decide) ?_
  refine rdS (As := [.int x1, .int 0, .int 7]) S (c_X9_isIn_72 l D cI cZ cJ o q x1 ou_x1_0_7) ms_X9_isIn kw_7_100 ⟨rfl, rfl⟩ ⟨Nat.le_of_ble_eq_true rfl, Nat.le_of_ble_eq_true rfl⟩ hP hK hl.1 (Nat.le_of_ble_eq_true rfl) ⟨Nat.le_of_ble_eq_true rfl, Nat.le_of_ble_eq_true rfl⟩ dX9_passes_9 ?_
  refine lv_if_ne (tgt := 21) hx hb dX9_passes_12 (by decide) (fun c => absurd c (by decide)) (fun _ => ?_)
  refine lv_aload_n hx hb dX9_passes_15 rfl (lv_at hl 0 rfl) ?_
  refine lv_iconst (v := 1) hx hb dX9_passes_16 (by decide) ?_
  refine wrV (As := [.int 1]) (ci := 9) S (c_X9_no_0 l D cI cZ cJ o q H.size) mi_X9_no kw_7_103 rfl rfl ⟨Nat.le_of_ble_eq_true rfl, Nat.le_of_ble_eq_true rfl⟩ hP hD hK hS hA mW_0 rfl rfl hl.1 (Nat.le_of_ble_eq_true rfl) ⟨Nat.le_of_ble_eq_true rfl, Nat.le_of_ble_eq_true rfl⟩ dX9_passes_17 (fun H locs hz hP hD hS => ?_)
  exact wEnd S hr hlocks hP hD hS (Nat.le_of_ble_eq_true rfl) (Nat.le_of_ble_eq_true rfl) dX9_passes_20 rfl

set_option maxHeartbeats 8000000 in
set_option maxRecDepth 100000 in
theorem c_X9_isIn_73 (l : Launch) (D : va_G) (cI cZ cJ : ClassId) (o : Nat) (q : Nat → Nat) (x1 : Int32) (lo_x1 : 0 ≤ x1) (hi_x1 : x1 ≤ 7) : Met l yX9_isIn (uW yX9_isIn cX9_isIn 3 (some .boolean)) ({ frames := 0, cells := 0, slots := 0, locals := 0 }) (va_Pc [.int x1, .int 0, .int 7] (pS D (tyL cI cZ cJ) (mW o 0 q cI cZ))) (QcRead (1)) 0 0 (fun _ => False) := by
  refine rdStart (lv := [(0, .int x1), (1, .int 0), (2, .int 7)]) (by decide) (Nat.le_of_ble_eq_true rfl) rfl ?_
  intro p e s m args below meth c ls S hr hlocks hl hP hK
  have hx := S.1
  have hb := S.2.1
  refine lv_iload_n hx hb dX9_isIn_0 rfl (lv_at hl 0 rfl) ?_
  refine lv_iload_n hx hb dX9_isIn_1 rfl (lv_at hl 1 rfl) ?_
  refine lv_icmp_lt (tgt := 14) hx hb dX9_isIn_2 (by decide) (fun c => absurd c (b_nlt lo_x1 (by decide))) (fun _ => ?_)
  refine lv_iload_n hx hb dX9_isIn_5 rfl (lv_at hl 0 rfl) ?_
  refine lv_iload_n hx hb dX9_isIn_6 rfl (lv_at hl 2 rfl) ?_
  refine lv_icmp_gt (tgt := 14) hx hb dX9_isIn_7 (by decide) (fun c => absurd c (b_ngt hi_x1 (by decide))) (fun _ => ?_)
  refine lv_iconst (v := 1) hx hb dX9_isIn_10 (by decide) ?_
  refine lv_goto (tgt := 15) hx hb dX9_isIn_11 (by decide) ?_
  exact rdEndZ S hr hlocks dX9_isIn_15 rfl rfl

set_option maxHeartbeats 8000000 in
set_option maxRecDepth 100000 in
theorem m_passes_ok (l : Launch) (D : va_G) (cI cZ cJ : ClassId) (o : Nat) (q : Nat → Nat) (sz : Nat) (x1 : Int32) (lo_x1 : 0 ≤ x1) (hi_x1 : x1 ≤ 7) : Met l yX9_passes (uW yX9_passes cX9_passes 3 (some .int)) ({ frames := 1, cells := 0, slots := 0, locals := 22 }) (va_Pc [.ref o, .int x1] (wS D (tyL cI cZ cJ) (mW o 0 q cI cZ) sz)) (wQi (7) D ((mW o 0 q cI cZ).set 0 (o, .inr (9, ((mF 0 q).set 20 (.int x1))))) (va_A (mW o 0 q cI cZ) sz)) 0 0 (va_A (mW o 0 q cI cZ) sz) := by
  refine wStart (lv := [(0, .ref o), (1, .int x1)]) (Qc := fun A => wQi (7) D ((mW o 0 q cI cZ).set 0 (o, .inr (9, ((mF 0 q).set 20 (.int x1))))) A) (by decide) (Nat.le_of_ble_eq_true rfl) rfl ?_
  intro p e s m args below meth c ls A H S hr hlocks hnm hl hK hP hD hS hA
  have hx := S.1
  have hb := S.2.1
  refine lv_aload_n hx hb dX9_passes_0 rfl (lv_at hl 0 rfl) ?_
  refine lv_iconst (v := 0) hx hb dX9_passes_1 (by decide) ?_
  refine xp (ci := 9) (v := .int 0) S inX9 tyX9 tyX9_ok nmX9 rfl hK hP hD hS mW_0 0 (by decide) kw_6_147 rfl rfl rfl rfl (Nat.le_of_ble_eq_true rfl) dX9_passes_2 (fun H locs hP hD hS => ?_)
  have hP : va_P D vwCl (mW o 0 q cI cZ) H := hP
  have hD : va_D A (mW o 0 q cI cZ) := hD
  refine lv_iload_n hx hb dX9_passes_5 rfl (lv_at hl 1 rfl) ?_
  refine lv_iconst (v := 0) hx hb dX9_passes_6 (by decide) ?_
  refine lv_bipush (v := 7) hx hb dX9_passes_7 (by decide) ?_
  refine rdS (As := [.int x1, .int 0, .int 7]) S (c_X9_isIn_73 l D cI cZ cJ o q x1 lo_x1 hi_x1) ms_X9_isIn kw_7_100 ⟨rfl, rfl⟩ ⟨Nat.le_of_ble_eq_true rfl, Nat.le_of_ble_eq_true rfl⟩ hP hK hl.1 (Nat.le_of_ble_eq_true rfl) ⟨Nat.le_of_ble_eq_true rfl, Nat.le_of_ble_eq_true rfl⟩ dX9_passes_9 ?_
  refine lv_if_ne (tgt := 21) hx hb dX9_passes_12 (by decide) (fun _ => ?_) (fun c => absurd c (by decide))
  refine lv_aload_n hx hb dX9_passes_21 rfl (lv_at hl 0 rfl) ?_
  refine xg (ci := 9) S inX9 rfl hK hP mW_0 20 (by decide) mF_20 kw_6_167 rfl dX9_passes_22 ?_
  refine lv_istore_n (lv' := [(2, .int 7), (0, .ref o), (1, .int x1)]) hx hb dX9_passes_25 rfl hl (by decide) rfl (fun ls hl => ?_)
  refine lv_aload_n hx hb dX9_passes_26 rfl (lv_at hl 1 rfl) ?_
  refine lv_iload_n hx hb dX9_passes_27 rfl (lv_at hl 2 rfl) ?_
  refine xp (ci := 9) (v := .int x1) S inX9 tyX9 tyX9_ok nmX9 rfl hK hP hD hS mW_0 20 (by decide) kw_6_167 rfl rfl rfl rfl (Nat.le_of_ble_eq_true rfl) dX9_passes_28 (fun H locs hP hD hS => ?_)
  have hP : va_P D vwCl ((mW o 0 q cI cZ).set 0 (o, .inr (9, ((mF 0 q).set 20 (.int x1))))) H := hP
  have hD : va_D A ((mW o 0 q cI cZ).set 0 (o, .inr (9, ((mF 0 q).set 20 (.int x1))))) := hD
  refine lv_iload_n hx hb dX9_passes_31 rfl (lv_at hl 0 rfl) ?_
  exact wEnd S hr hlocks hP hD hS (Nat.le_of_ble_eq_true rfl) (Nat.le_of_ble_eq_true rfl) dX9_passes_32 rfl

set_option maxHeartbeats 8000000 in
set_option maxRecDepth 100000 in
theorem m_code_p (l : Launch) (D : va_G) (cI cZ cJ : ClassId) (o : Nat) (q : Nat → Nat) (sz : Nat) (x1 : Int32) (x2 : Int32) (x3 : Int32) (ne_x1_0 : ¬ x1 = 0) : Met l yX9_code (uW yX9_code cX9_code 4 (some .int)) ({ frames := 2, cells := 0, slots := 0, locals := 43 }) (va_Pc [.ref o, .int x1, .int x2, .int x3] (wS D (tyL cI cZ cJ) (mW o 0 q cI cZ) sz)) (wQi (0) D (mW o 1 q cI cZ) (va_A (mW o 0 q cI cZ) sz)) 0 0 (va_A (mW o 0 q cI cZ) sz) := by
  refine wStart (lv := [(0, .ref o), (1, .int x1), (2, .int x2), (3, .int x3)]) (Qc := fun A => wQi (0) D (mW o 1 q cI cZ) A) (by decide) (Nat.le_of_ble_eq_true rfl) rfl ?_
  intro p e s m args below meth c ls A H S hr hlocks hnm hl hK hP hD hS hA
  have hx := S.1
  have hb := S.2.1
  refine lv_aload_n hx hb dX9_code_0 rfl (lv_at hl 0 rfl) ?_
  refine lv_iconst (v := 0) hx hb dX9_code_1 (by decide) ?_
  refine xp (ci := 9) (v := .int 0) S inX9 tyX9 tyX9_ok nmX9 rfl hK hP hD hS mW_0 0 (by decide) kw_6_147 rfl rfl rfl rfl (Nat.le_of_ble_eq_true rfl) dX9_code_2 (fun H locs hP hD hS => ?_)
  have hP : va_P D vwCl (mW o 0 q cI cZ) H := hP
  have hD : va_D A (mW o 0 q cI cZ) := hD
  refine lv_aload_n hx hb dX9_code_5 rfl (lv_at hl 0 rfl) ?_
  refine lv_iload_n hx hb dX9_code_6 rfl (lv_at hl 1 rfl) ?_
  refine rdV (As := [.int x1]) (ci := 9) S (c_X9_isProcedure_0 l D cI cZ cJ o q x1 ne_x1_0) mi_X9_isProcedure kw_7_96 ⟨rfl, rfl⟩ ⟨Nat.le_of_ble_eq_true rfl, Nat.le_of_ble_eq_true rfl⟩ hP hK mW_0 rfl rfl hl.1 (Nat.le_of_ble_eq_true rfl) ⟨Nat.le_of_ble_eq_true rfl, Nat.le_of_ble_eq_true rfl⟩ dX9_code_7 ?_
  refine lv_if_eq (tgt := 20) hx hb dX9_code_10 (by decide) (fun _ => ?_) (fun c => absurd c (by decide))
  refine lv_aload_n hx hb dX9_code_20 rfl (lv_at hl 0 rfl) ?_
  refine lv_iconst (v := 1) hx hb dX9_code_21 (by decide) ?_
  refine wrV (As := [.int 1]) (ci := 9) S (c_X9_no_0 l D cI cZ cJ o q H.size) mi_X9_no kw_7_103 rfl rfl ⟨Nat.le_of_ble_eq_true rfl, Nat.le_of_ble_eq_true rfl⟩ hP hD hK hS hA mW_0 rfl rfl hl.1 (Nat.le_of_ble_eq_true rfl) ⟨Nat.le_of_ble_eq_true rfl, Nat.le_of_ble_eq_true rfl⟩ dX9_code_22 (fun H locs hz hP hD hS => ?_)
  exact wEnd S hr hlocks hP hD hS (Nat.le_of_ble_eq_true rfl) (Nat.le_of_ble_eq_true rfl) dX9_code_25 rfl

set_option maxHeartbeats 8000000 in
set_option maxRecDepth 100000 in
theorem m_code_ok (l : Launch) (D : va_G) (cI cZ cJ : ClassId) (o : Nat) (q : Nat → Nat) (sz : Nat) (x2 : Int32) (x3 : Int32) : Met l yX9_code (uW yX9_code cX9_code 4 (some .int)) ({ frames := 2, cells := 1, slots := 111, locals := 49 }) (va_Pc [.ref o, .int 0, .int x2, .int x3] (wS D (tyL cI cZ cJ) (mW o 0 q cI cZ) sz)) (wQi (0) D (mW o 1 q cI cZ) (va_A (mW o 0 q cI cZ) sz)) 1 111 (va_A (mW o 0 q cI cZ) sz) := by
  refine wStart (lv := [(0, .ref o), (1, .int 0), (2, .int x2), (3, .int x3)]) (Qc := fun A => wQi (0) D (mW o 1 q cI cZ) A) (by decide) (Nat.le_of_ble_eq_true rfl) rfl ?_
  intro p e s m args below meth c ls A H S hr hlocks hnm hl hK hP hD hS hA
  have hx := S.1
  have hb := S.2.1
  refine lv_aload_n hx hb dX9_code_0 rfl (lv_at hl 0 rfl) ?_
  refine lv_iconst (v := 0) hx hb dX9_code_1 (by decide) ?_
  refine xp (ci := 9) (v := .int 0) S inX9 tyX9 tyX9_ok nmX9 rfl hK hP hD hS mW_0 0 (by decide) kw_6_147 rfl rfl rfl rfl (Nat.le_of_ble_eq_true rfl) dX9_code_2 (fun H locs hP hD hS => ?_)
  have hP : va_P D vwCl (mW o 0 q cI cZ) H := hP
  have hD : va_D A (mW o 0 q cI cZ) := hD
  refine lv_aload_n hx hb dX9_code_5 rfl (lv_at hl 0 rfl) ?_
  refine lv_iload_n hx hb dX9_code_6 rfl (lv_at hl 1 rfl) ?_
  refine rdV (As := [.int 0]) (ci := 9) S (c_X9_isProcedure_1 l D cI cZ cJ o q) mi_X9_isProcedure kw_7_96 ⟨rfl, rfl⟩ ⟨Nat.le_of_ble_eq_true rfl, Nat.le_of_ble_eq_true rfl⟩ hP hK mW_0 rfl rfl hl.1 (Nat.le_of_ble_eq_true rfl) ⟨Nat.le_of_ble_eq_true rfl, Nat.le_of_ble_eq_true rfl⟩ dX9_code_7 ?_
  refine lv_if_eq (tgt := 20) hx hb dX9_code_10 (by decide) (fun c => absurd c (by decide)) (fun _ => ?_)
  refine lv_aload_n hx hb dX9_code_13 rfl (lv_at hl 0 rfl) ?_
  refine wrV (As := []) (ci := 9) S (c_X9_faults_0 l D cI cZ cJ o q H.size) mi_X9_faults kw_7_229 rfl rfl ⟨Nat.le_of_ble_eq_true rfl, Nat.le_of_ble_eq_true rfl⟩ hP hD hK hS hA mW_0 rfl rfl hl.1 (Nat.le_of_ble_eq_true rfl) ⟨Nat.le_of_ble_eq_true rfl, Nat.le_of_ble_eq_true rfl⟩ dX9_code_14 (fun H locs hz hP hD hS => ?_)
  refine lv_if_le (tgt := 26) hx hb dX9_code_17 (by decide) (fun c => absurd c (by decide)) (fun _ => ?_)
  refine lv_aload_n hx hb dX9_code_20 rfl (lv_at hl 0 rfl) ?_
  refine lv_iconst (v := 1) hx hb dX9_code_21 (by decide) ?_
  refine wrV (As := [.int 1]) (ci := 9) S (c_X9_no_0 l D cI cZ cJ o q H.size) mi_X9_no kw_7_103 rfl rfl ⟨Nat.le_of_ble_eq_true rfl, Nat.le_of_ble_eq_true rfl⟩ hP hD hK hS hA mW_0 rfl rfl hl.1 (Nat.le_of_ble_eq_true rfl) ⟨Nat.le_of_ble_eq_true rfl, Nat.le_of_ble_eq_true rfl⟩ dX9_code_22 (fun H locs hz hP hD hS => ?_)
  exact wEnd S hr hlocks hP hD hS (Nat.le_of_ble_eq_true rfl) (Nat.le_of_ble_eq_true rfl) dX9_code_25 rfl

set_option maxHeartbeats 8000000 in
set_option maxRecDepth 100000 in
theorem c_X9_isIn_74 (l : Launch) (D : va_G) (cI cZ cJ : ClassId) (o : Nat) (q : Nat → Nat) (x1 : Int32) (ou_x1_1_3000 : ¬ (1 ≤ x1 ∧ x1 ≤ 3000)) : Met l yX9_isIn (uW yX9_isIn cX9_isIn 3 (some .boolean)) ({ frames := 0, cells := 0, slots := 0, locals := 0 }) (va_Pc [.int x1, .int 1, .int 3000] (pS D (tyL cI cZ cJ) (mW o 0 q cI cZ))) (QcRead (0)) 0 0 (fun _ => False) := by
  refine rdStart (lv := [(0, .int x1), (1, .int 1), (2, .int 3000)]) (by decide) (Nat.le_of_ble_eq_true rfl) rfl ?_
  intro p e s m args below meth c ls S hr hlocks hl hP hK
  have hx := S.1
  have hb := S.2.1
  refine lv_iload_n hx hb dX9_isIn_0 rfl (lv_at hl 0 rfl) ?_
  refine lv_iload_n hx hb dX9_isIn_1 rfl (lv_at hl 1 rfl) ?_
  refine lv_icmp_lt (tgt := 14) hx hb dX9_isIn_2 (by decide) (fun c_2 => ?_) (fun c_2 => ?_)
  · have hi_x1 : x1 ≤ 0 := u_lt c_2 (by decide)
    refine lv_iconst (v := 0) hx hb dX9_isIn_14 (by decide) ?_
    exact rdEndZ S hr hlocks dX9_isIn_15 rfl rfl
  · have lo_x1 : 1 ≤ x1 := l_nlt c_2
    have lo_x1 : 3001 ≤ x1 := o_l ou_x1_1_3000 (b_ge lo_x1 (by decide)) (by decide)
    refine lv_iload_n hx hb dX9_isIn_5 rfl (lv_at hl 0 rfl) ?_
    refine lv_iload_n hx hb dX9_isIn_6 rfl (lv_at hl 2 rfl) ?_
    refine lv_icmp_gt (tgt := 14) hx hb dX9_isIn_7 (by decide) (fun _ => ?_) (fun c => absurd (b_gt lo_x1 (by decide)) c)
    refine lv_iconst (v := 0) hx hb dX9_isIn_14 (by decide) ?_
    exact rdEndZ S hr hlocks dX9_isIn_15 rfl rfl

set_option maxHeartbeats 8000000 in
set_option maxRecDepth 100000 in
theorem m_limits_a (l : Launch) (D : va_G) (cI cZ cJ : ClassId) (o : Nat) (q : Nat → Nat) (sz : Nat) (x1 : Int32) (x2 : Int32) (ou_x1_1_3000 : ¬ (1 ≤ x1 ∧ x1 ≤ 3000)) : Met l yX9_limits (uW yX9_limits cX9_limits 4 (some .int)) ({ frames := 1, cells := 0, slots := 0, locals := 22 }) (va_Pc [.ref o, .int x1, .int x2] (wS D (tyL cI cZ cJ) (mW o 0 q cI cZ) sz)) (wQi (0) D (mW o 1 q cI cZ) (va_A (mW o 0 q cI cZ) sz)) 0 0 (va_A (mW o 0 q cI cZ) sz) := by
  refine wStart (lv := [(0, .ref o), (1, .int x1), (2, .int x2)]) (Qc := fun A => wQi (0) D (mW o 1 q cI cZ) A) (by decide) (Nat.le_of_ble_eq_true rfl) rfl ?_
  intro p e s m args below meth c ls A H S hr hlocks hnm hl hK hP hD hS hA
  have hx := S.1
  have hb := S.2.1
  refine lv_aload_n hx hb dX9_limits_0 rfl (lv_at hl 0 rfl) ?_
  refine lv_iconst (v := 0) hx hb dX9_limits_1 (by decide) ?_
  refine xp (ci := 9) (v := .int 0) S inX9 tyX9 tyX9_ok nmX9 rfl hK hP hD hS mW_0 0 (by decide) kw_6_147 rfl rfl rfl rfl (Nat.le_of_ble_eq_true rfl) dX9_limits_2 (fun H locs hP hD hS => ?_)
  have hP : va_P D vwCl (mW o 0 q cI cZ) H := hP
  have hD : va_D A (mW o 0 q cI cZ) := hD
  refine lv_iload_n hx hb dX9_limits_5 rfl (lv_at hl 1 rfl) ?_
  refine lv_iconst (v := 1) hx hb dX9_limits_6 (by decide) ?_
  refine lv_sipush (v := 3000) hx hb dX9_limits_7 (by decide) ?_
  refine rdS (As := [.int x1, .int 1, .int 3000]) S (c_X9_isIn_74 l D cI cZ cJ o q x1 ou_x1_1_3000) ms_X9_isIn kw_7_100 ⟨rfl, rfl⟩ ⟨Nat.le_of_ble_eq_true rfl, Nat.le_of_ble_eq_true rfl⟩ hP hK hl.1 (Nat.le_of_ble_eq_true rfl) ⟨Nat.le_of_ble_eq_true rfl, Nat.le_of_ble_eq_true rfl⟩ dX9_limits_10 ?_
  refine lv_if_eq (tgt := 26) hx hb dX9_limits_13 (by decide) (fun _ => ?_) (fun c => absurd c (by decide))
  refine lv_aload_n hx hb dX9_limits_26 rfl (lv_at hl 0 rfl) ?_
  refine lv_iconst (v := 1) hx hb dX9_limits_27 (by decide) ?_
  refine wrV (As := [.int 1]) (ci := 9) S (c_X9_no_0 l D cI cZ cJ o q H.size) mi_X9_no kw_7_103 rfl rfl ⟨Nat.le_of_ble_eq_true rfl, Nat.le_of_ble_eq_true rfl⟩ hP hD hK hS hA mW_0 rfl rfl hl.1 (Nat.le_of_ble_eq_true rfl) ⟨Nat.le_of_ble_eq_true rfl, Nat.le_of_ble_eq_true rfl⟩ dX9_limits_28 (fun H locs hz hP hD hS => ?_)
  exact wEnd S hr hlocks hP hD hS (Nat.le_of_ble_eq_true rfl) (Nat.le_of_ble_eq_true rfl) dX9_limits_31 rfl

set_option maxHeartbeats 8000000 in
set_option maxRecDepth 100000 in
theorem c_X9_isIn_75 (l : Launch) (D : va_G) (cI cZ cJ : ClassId) (o : Nat) (q : Nat → Nat) (x1 : Int32) (lo_x1 : 1 ≤ x1) (hi_x1 : x1 ≤ 3000) : Met l yX9_isIn (uW yX9_isIn cX9_isIn 3 (some .boolean)) ({ frames := 0, cells := 0, slots := 0, locals := 0 }) (va_Pc [.int x1, .int 1, .int 3000] (pS D (tyL cI cZ cJ) (mW o 0 q cI cZ))) (QcRead (1)) 0 0 (fun _ => False) := by
  refine rdStart (lv := [(0, .int x1), (1, .int 1), (2, .int 3000)]) (by decide) (Nat.le_of_ble_eq_true rfl) rfl ?_
  intro p e s m args below meth c ls S hr hlocks hl hP hK
  have hx := S.1
  have hb := S.2.1
  refine lv_iload_n hx hb dX9_isIn_0 rfl (lv_at hl 0 rfl) ?_
  refine lv_iload_n hx hb dX9_isIn_1 rfl (lv_at hl 1 rfl) ?_
  refine lv_icmp_lt (tgt := 14) hx hb dX9_isIn_2 (by decide) (fun c => absurd c (b_nlt lo_x1 (by decide))) (fun _ => ?_)
  refine lv_iload_n hx hb dX9_isIn_5 rfl (lv_at hl 0 rfl) ?_
  refine lv_iload_n hx hb dX9_isIn_6 rfl (lv_at hl 2 rfl) ?_
  refine lv_icmp_gt (tgt := 14) hx hb dX9_isIn_7 (by decide) (fun c => absurd c (b_ngt hi_x1 (by decide))) (fun _ => ?_)
  refine lv_iconst (v := 1) hx hb dX9_isIn_10 (by decide) ?_
  refine lv_goto (tgt := 15) hx hb dX9_isIn_11 (by decide) ?_
  exact rdEndZ S hr hlocks dX9_isIn_15 rfl rfl

set_option maxHeartbeats 8000000 in
set_option maxRecDepth 100000 in
theorem c_X9_isIn_76 (l : Launch) (D : va_G) (cI cZ cJ : ClassId) (o : Nat) (q : Nat → Nat) (x2 : Int32) (ou_x2_1_40 : ¬ (1 ≤ x2 ∧ x2 ≤ 40)) : Met l yX9_isIn (uW yX9_isIn cX9_isIn 3 (some .boolean)) ({ frames := 0, cells := 0, slots := 0, locals := 0 }) (va_Pc [.int x2, .int 1, .int 40] (pS D (tyL cI cZ cJ) (mW o 0 q cI cZ))) (QcRead (0)) 0 0 (fun _ => False) := by
  refine rdStart (lv := [(0, .int x2), (1, .int 1), (2, .int 40)]) (by decide) (Nat.le_of_ble_eq_true rfl) rfl ?_
  intro p e s m args below meth c ls S hr hlocks hl hP hK
  have hx := S.1
  have hb := S.2.1
  refine lv_iload_n hx hb dX9_isIn_0 rfl (lv_at hl 0 rfl) ?_
  refine lv_iload_n hx hb dX9_isIn_1 rfl (lv_at hl 1 rfl) ?_
  refine lv_icmp_lt (tgt := 14) hx hb dX9_isIn_2 (by decide) (fun c_2 => ?_) (fun c_2 => ?_)
  · have hi_x2 : x2 ≤ 0 := u_lt c_2 (by decide)
    refine lv_iconst (v := 0) hx hb dX9_isIn_14 (by decide) ?_
    exact rdEndZ S hr hlocks dX9_isIn_15 rfl rfl
  · have lo_x2 : 1 ≤ x2 := l_nlt c_2
    have lo_x2 : 41 ≤ x2 := o_l ou_x2_1_40 (b_ge lo_x2 (by decide)) (by decide)
    refine lv_iload_n hx hb dX9_isIn_5 rfl (lv_at hl 0 rfl) ?_
    refine lv_iload_n hx hb dX9_isIn_6 rfl (lv_at hl 2 rfl) ?_
    refine lv_icmp_gt (tgt := 14) hx hb dX9_isIn_7 (by decide) (fun _ => ?_) (fun c => absurd (b_gt lo_x2 (by decide)) c)
    refine lv_iconst (v := 0) hx hb dX9_isIn_14 (by decide) ?_
    exact rdEndZ S hr hlocks dX9_isIn_15 rfl rfl

set_option maxHeartbeats 8000000 in
set_option maxRecDepth 100000 in
theorem m_limits_b (l : Launch) (D : va_G) (cI cZ cJ : ClassId) (o : Nat) (q : Nat → Nat) (sz : Nat) (x1 : Int32) (x2 : Int32) (lo_x1 : 1 ≤ x1) (hi_x1 : x1 ≤ 3000) (ou_x2_1_40 : ¬ (1 ≤ x2 ∧ x2 ≤ 40)) : Met l yX9_limits (uW yX9_limits cX9_limits 4 (some .int)) ({ frames := 1, cells := 0, slots := 0, locals := 22 }) (va_Pc [.ref o, .int x1, .int x2] (wS D (tyL cI cZ cJ) (mW o 0 q cI cZ) sz)) (wQi (0) D (mW o 1 q cI cZ) (va_A (mW o 0 q cI cZ) sz)) 0 0 (va_A (mW o 0 q cI cZ) sz) := by
  refine wStart (lv := [(0, .ref o), (1, .int x1), (2, .int x2)]) (Qc := fun A => wQi (0) D (mW o 1 q cI cZ) A) (by decide) (Nat.le_of_ble_eq_true rfl) rfl ?_
  intro p e s m args below meth c ls A H S hr hlocks hnm hl hK hP hD hS hA
  have hx := S.1
  have hb := S.2.1
  refine lv_aload_n hx hb dX9_limits_0 rfl (lv_at hl 0 rfl) ?_
  refine lv_iconst (v := 0) hx hb dX9_limits_1 (by decide) ?_
  refine xp (ci := 9) (v := .int 0) S inX9 tyX9 tyX9_ok nmX9 rfl hK hP hD hS mW_0 0 (by decide) kw_6_147 rfl rfl rfl rfl (Nat.le_of_ble_eq_true rfl) dX9_limits_2 (fun H locs hP hD hS => ?_)
  have hP : va_P D vwCl (mW o 0 q cI cZ) H := hP
  have hD : va_D A (mW o 0 q cI cZ) := hD
  refine lv_iload_n hx hb dX9_limits_5 rfl (lv_at hl 1 rfl) ?_
  refine lv_iconst (v := 1) hx hb dX9_limits_6 (by decide) ?_
  refine lv_sipush (v := 3000) hx hb dX9_limits_7 (by decide) ?_
  refine rdS (As := [.int x1, .int 1, .int 3000]) S (c_X9_isIn_75 l D cI cZ cJ o q x1 lo_x1 hi_x1) ms_X9_isIn kw_7_100 ⟨rfl, rfl⟩ ⟨Nat.le_of_ble_eq_true rfl, Nat.le_of_ble_eq_true rfl⟩ hP hK hl.1 (Nat.le_of_ble_eq_true rfl) ⟨Nat.le_of_ble_eq_true rfl, Nat.le_of_ble_eq_true rfl⟩ dX9_limits_10 ?_
  refine lv_if_eq (tgt := 26) hx hb dX9_limits_13 (by decide) (fun c => absurd c (by decide)) (fun _ => ?_)
  refine lv_iload_n hx hb dX9_limits_16 rfl (lv_at hl 2 rfl) ?_
  refine lv_iconst (v := 1) hx hb dX9_limits_17 (by decide) ?_
  refine lv_bipush (v := 40) hx hb dX9_limits_18 (by decide) ?_
  refine rdS (As := [.int x2, .int 1, .int 40]) S (c_X9_isIn_76 l D cI cZ cJ o q x2 ou_x2_1_40) ms_X9_isIn kw_7_100 ⟨rfl, rfl⟩ ⟨Nat.le_of_ble_eq_true rfl, Nat.le_of_ble_eq_true rfl⟩ hP hK hl.1 (Nat.le_of_ble_eq_true rfl) ⟨Nat.le_of_ble_eq_true rfl, Nat.le_of_ble_eq_true rfl⟩ dX9_limits_20 ?_
  refine lv_if_ne (tgt := 32) hx hb dX9_limits_23 (by decide) (fun c => absurd c (by decide)) (fun _ => ?_)
  refine lv_aload_n hx hb dX9_limits_26 rfl (lv_at hl 0 rfl) ?_
  refine lv_iconst (v := 1) hx hb dX9_limits_27 (by decide) ?_
  refine wrV (As := [.int 1]) (ci := 9) S (c_X9_no_0 l D cI cZ cJ o q H.size) mi_X9_no kw_7_103 rfl rfl ⟨Nat.le_of_ble_eq_true rfl, Nat.le_of_ble_eq_true rfl⟩ hP hD hK hS hA mW_0 rfl rfl hl.1 (Nat.le_of_ble_eq_true rfl) ⟨Nat.le_of_ble_eq_true rfl, Nat.le_of_ble_eq_true rfl⟩ dX9_limits_28 (fun H locs hz hP hD hS => ?_)
  exact wEnd S hr hlocks hP hD hS (Nat.le_of_ble_eq_true rfl) (Nat.le_of_ble_eq_true rfl) dX9_limits_31 rfl

set_option maxHeartbeats 8000000 in
set_option maxRecDepth 100000 in
theorem c_X9_isIn_77 (l : Launch) (D : va_G) (cI cZ cJ : ClassId) (o : Nat) (q : Nat → Nat) (x2 : Int32) (lo_x2 : 1 ≤ x2) (hi_x2 : x2 ≤ 40) : Met l yX9_isIn (uW yX9_isIn cX9_isIn 3 (some .boolean)) ({ frames := 0, cells := 0, slots := 0, locals := 0 }) (va_Pc [.int x2, .int 1, .int 40] (pS D (tyL cI cZ cJ) (mW o 0 q cI cZ))) (QcRead (1)) 0 0 (fun _ => False) := by
  refine rdStart (lv := [(0, .int x2), (1, .int 1), (2, .int 40)]) (by decide) (Nat.le_of_ble_eq_true rfl) rfl ?_
  intro p e s m args below meth c ls S hr hlocks hl hP hK
  have hx := S.1
  have hb := S.2.1
  refine lv_iload_n hx hb dX9_isIn_0 rfl (lv_at hl 0 rfl) ?_
  refine lv_iload_n hx hb dX9_isIn_1 rfl (lv_at hl 1 rfl) ?_
  refine lv_icmp_lt (tgt := 14) hx hb dX9_isIn_2 (by decide) (fun c => absurd c (b_nlt lo_x2 (by decide))) (fun _ => ?_)
  refine lv_iload_n hx hb dX9_isIn_5 rfl (lv_at hl 0 rfl) ?_
  refine lv_iload_n hx hb dX9_isIn_6 rfl (lv_at hl 2 rfl) ?_
  refine lv_icmp_gt (tgt := 14) hx hb dX9_isIn_7 (by decide) (fun c => absurd c (b_ngt hi_x2 (by decide))) (fun _ => ?_)
  refine lv_iconst (v := 1) hx hb dX9_isIn_10 (by decide) ?_
  refine lv_goto (tgt := 15) hx hb dX9_isIn_11 (by decide) ?_
  exact rdEndZ S hr hlocks dX9_isIn_15 rfl rfl

set_option maxHeartbeats 8000000 in
set_option maxRecDepth 100000 in
theorem m_limits_ok (l : Launch) (D : va_G) (cI cZ cJ : ClassId) (o : Nat) (q : Nat → Nat) (sz : Nat) (x1 : Int32) (x2 : Int32) (lo_x1 : 1 ≤ x1) (hi_x1 : x1 ≤ 3000) (lo_x2 : 1 ≤ x2) (hi_x2 : x2 ≤ 40) : Met l yX9_limits (uW yX9_limits cX9_limits 4 (some .int)) ({ frames := 1, cells := 0, slots := 0, locals := 22 }) (va_Pc [.ref o, .int x1, .int x2] (wS D (tyL cI cZ cJ) (mW o 0 q cI cZ) sz)) (wQi (1000) D ((mW o 0 q cI cZ).set 0 (o, .inr (9, (((mF 0 q).set 21 (.int x1)).set 22 (.int x2))))) (va_A (mW o 0 q cI cZ) sz)) 0 0 (va_A (mW o 0 q cI cZ) sz) := by
  refine wStart (lv := [(0, .ref o), (1, .int x1), (2, .int x2)]) (Qc := fun A => wQi (1000) D ((mW o 0 q cI cZ).set 0 (o, .inr (9, (((mF 0 q).set 21 (.int x1)).set 22 (.int x2))))) A) (by decide) (Nat.le_of_ble_eq_true rfl) rfl ?_
  intro p e s m args below meth c ls A H S hr hlocks hnm hl hK hP hD hS hA
  have hx := S.1
  have hb := S.2.1
  refine lv_aload_n hx hb dX9_limits_0 rfl (lv_at hl 0 rfl) ?_
  refine lv_iconst (v := 0) hx hb dX9_limits_1 (by decide) ?_
  refine xp (ci := 9) (v := .int 0) S inX9 tyX9 tyX9_ok nmX9 rfl hK hP hD hS mW_0 0 (by decide) kw_6_147 rfl rfl rfl rfl (Nat.le_of_ble_eq_true rfl) dX9_limits_2 (fun H locs hP hD hS => ?_)
  have hP : va_P D vwCl (mW o 0 q cI cZ) H := hP
  have hD : va_D A (mW o 0 q cI cZ) := hD
  refine lv_iload_n hx hb dX9_limits_5 rfl (lv_at hl 1 rfl) ?_
  refine lv_iconst (v := 1) hx hb dX9_limits_6 (by decide) ?_
  refine lv_sipush (v := 3000) hx hb dX9_limits_7 (by decide) ?_
  refine rdS (As := [.int x1, .int 1, .int 3000]) S (c_X9_isIn_75 l D cI cZ cJ o q x1 lo_x1 hi_x1) ms_X9_isIn kw_7_100 ⟨rfl, rfl⟩ ⟨Nat.le_of_ble_eq_true rfl, Nat.le_of_ble_eq_true rfl⟩ hP hK hl.1 (Nat.le_of_ble_eq_true rfl) ⟨Nat.le_of_ble_eq_true rfl, Nat.le_of_ble_eq_true rfl⟩ dX9_limits_10 ?_
  refine lv_if_eq (tgt := 26) hx hb dX9_limits_13 (by decide) (fun c => absurd c (by decide)) (fun _ => ?_)
  refine lv_iload_n hx hb dX9_limits_16 rfl (lv_at hl 2 rfl) ?_
  refine lv_iconst (v := 1) hx hb dX9_limits_17 (by decide) ?_
  refine lv_bipush (v := 40) hx hb dX9_limits_18 (by decide) ?_
  refine rdS (As := [.int x2, .int 1, .int 40]) S (c_X9_isIn_77 l D cI cZ cJ o q x2 lo_x2 hi_x2) ms_X9_isIn kw_7_100 ⟨rfl, rfl⟩ ⟨Nat.le_of_ble_eq_true rfl, Nat.le_of_ble_eq_true rfl⟩ hP hK hl.1 (Nat.le_of_ble_eq_true rfl) ⟨Nat.le_of_ble_eq_true rfl, Nat.le_of_ble_eq_true rfl⟩ dX9_limits_20 ?_
  refine lv_if_ne (tgt := 32) hx hb dX9_limits_23 (by decide) (fun _ => ?_) (fun c => absurd c (by decide))
  refine lv_aload_n hx hb dX9_limits_32 rfl (lv_at hl 0 rfl) ?_
  refine xg (ci := 9) S inX9 rfl hK hP mW_0 21 (by decide) mF_21 kw_6_168 rfl dX9_limits_33 ?_
  refine lv_istore_n (lv' := [(3, .int 1000), (0, .ref o), (1, .int x1), (2, .int x2)]) hx hb dX9_limits_36 rfl hl (by decide) rfl (fun ls hl => ?_)
  refine lv_aload_n hx hb dX9_limits_37 rfl (lv_at hl 1 rfl) ?_
  refine lv_iload_n hx hb dX9_limits_38 rfl (lv_at hl 2 rfl) ?_
  refine xp (ci := 9) (v := .int x1) S inX9 tyX9 tyX9_ok nmX9 rfl hK hP hD hS mW_0 21 (by decide) kw_6_168 rfl rfl rfl rfl (Nat.le_of_ble_eq_true rfl) dX9_limits_39 (fun H locs hP hD hS => ?_)
  have hP : va_P D vwCl ((mW o 0 q cI cZ).set 0 (o, .inr (9, ((mF 0 q).set 21 (.int x1))))) H := hP
  have hD : va_D A ((mW o 0 q cI cZ).set 0 (o, .inr (9, ((mF 0 q).set 21 (.int x1))))) := hD
  refine lv_aload_n hx hb dX9_limits_42 rfl (lv_at hl 1 rfl) ?_
  refine lv_iload_n hx hb dX9_limits_43 rfl (lv_at hl 3 rfl) ?_
  refine xp (ci := 9) (v := .int x2) S inX9 tyX9 tyX9_ok nmX9 rfl hK hP hD hS (q0 := 0) rfl 22 (by decide) kw_6_169 rfl rfl rfl rfl (Nat.le_of_ble_eq_true rfl) dX9_limits_44 (fun H locs hP hD hS => ?_)
  have hP : va_P D vwCl ((mW o 0 q cI cZ).set 0 (o, .inr (9, (((mF 0 q).set 21 (.int x1)).set 22 (.int x2))))) H := hP
  have hD : va_D A ((mW o 0 q cI cZ).set 0 (o, .inr (9, (((mF 0 q).set 21 (.int x1)).set 22 (.int x2))))) := hD
  refine lv_iload_n hx hb dX9_limits_47 rfl (lv_at hl 0 rfl) ?_
  exact wEnd S hr hlocks hP hD hS (Nat.le_of_ble_eq_true rfl) (Nat.le_of_ble_eq_true rfl) dX9_limits_48 rfl

set_option maxHeartbeats 8000000 in
set_option maxRecDepth 100000 in
theorem m_run_1 (l : Launch) (D : va_G) (cI cZ cJ : ClassId) (o : Nat) (q : Nat → Nat) (sz : Nat) : Met l yX9_run (uW yX9_run cX9_run 1 (some .int)) ({ frames := 2, cells := 1, slots := 111, locals := 49 }) (va_Pc [.ref o] (wS D (tyL cI cZ cJ) (mW o 0 q cI cZ) sz)) (wQi (0) D (mW o 1 q cI cZ) (va_A (mW o 0 q cI cZ) sz)) 1 111 (va_A (mW o 0 q cI cZ) sz) := by
  refine wStart (lv := [(0, .ref o)]) (Qc := fun A => wQi (0) D (mW o 1 q cI cZ) A) (by decide) (Nat.le_of_ble_eq_true rfl) rfl ?_
  intro p e s m args below meth c ls A H S hr hlocks hnm hl hK hP hD hS hA
  have hx := S.1
  have hb := S.2.1
  refine lv_aload_n hx hb dX9_run_0 rfl (lv_at hl 0 rfl) ?_
  refine lv_iconst (v := 0) hx hb dX9_run_1 (by decide) ?_
  refine xp (ci := 9) (v := .int 0) S inX9 tyX9 tyX9_ok nmX9 rfl hK hP hD hS mW_0 0 (by decide) kw_6_147 rfl rfl rfl rfl (Nat.le_of_ble_eq_true rfl) dX9_run_2 (fun H locs hP hD hS => ?_)
  have hP : va_P D vwCl (mW o 0 q cI cZ) H := hP
  have hD : va_D A (mW o 0 q cI cZ) := hD
  refine lv_aload_n hx hb dX9_run_5 rfl (lv_at hl 0 rfl) ?_
  refine wrV (As := []) (ci := 9) S (c_X9_faults_0 l D cI cZ cJ o q H.size) mi_X9_faults kw_7_229 rfl rfl ⟨Nat.le_of_ble_eq_true rfl, Nat.le_of_ble_eq_true rfl⟩ hP hD hK hS hA mW_0 rfl rfl hl.1 (Nat.le_of_ble_eq_true rfl) ⟨Nat.le_of_ble_eq_true rfl, Nat.le_of_ble_eq_true rfl⟩ dX9_run_6 (fun H locs hz hP hD hS => ?_)
  refine lv_if_le (tgt := 18) hx hb dX9_run_9 (by decide) (fun c => absurd c (by decide)) (fun _ => ?_)
  refine lv_aload_n hx hb dX9_run_12 rfl (lv_at hl 0 rfl) ?_
  refine lv_iconst (v := 1) hx hb dX9_run_13 (by decide) ?_
  refine wrV (As := [.int 1]) (ci := 9) S (c_X9_no_0 l D cI cZ cJ o q H.size) mi_X9_no kw_7_103 rfl rfl ⟨Nat.le_of_ble_eq_true rfl, Nat.le_of_ble_eq_true rfl⟩ hP hD hK hS hA mW_0 rfl rfl hl.1 (Nat.le_of_ble_eq_true rfl) ⟨Nat.le_of_ble_eq_true rfl, Nat.le_of_ble_eq_true rfl⟩ dX9_run_14 (fun H locs hz hP hD hS => ?_)
  exact wEnd S hr hlocks hP hD hS (Nat.le_of_ble_eq_true rfl) (Nat.le_of_ble_eq_true rfl) dX9_run_17 rfl

set_option maxHeartbeats 8000000 in
set_option maxRecDepth 100000 in
theorem c_X9_isIn_78 (l : Launch) (D : va_G) (cI cZ cJ : ClassId) (o : Nat) (q : Nat → Nat) (x1 : Int32) (ou_x1_0_10 : ¬ (0 ≤ x1 ∧ x1 ≤ 10)) : Met l yX9_isIn (uW yX9_isIn cX9_isIn 3 (some .boolean)) ({ frames := 0, cells := 0, slots := 0, locals := 0 }) (va_Pc [.int x1, .int 0, .int 10] (pS D (tyL cI cZ cJ) (mW o 0 q cI cZ))) (QcRead (0)) 0 0 (fun _ => False) := by
  refine rdStart (lv := [(0, .int x1), (1, .int 0), (2, .int 10)]) (by decide) (Nat.le_of_ble_eq_true rfl) rfl ?_
  intro p e s m args below meth c ls S hr hlocks hl hP hK
  have hx := S.1
  have hb := S.2.1
  refine lv_iload_n hx hb dX9_isIn_0 rfl (lv_at hl 0 rfl) ?_
  refine lv_iload_n hx hb dX9_isIn_1 rfl (lv_at hl 1 rfl) ?_
  refine lv_icmp_lt (tgt := 14) hx hb dX9_isIn_2 (by decide) (fun c_2 => ?_) (fun c_2 => ?_)
  · have hi_x1 : x1 ≤ (-1) := u_lt c_2 (by decide)
    refine lv_iconst (v := 0) hx hb dX9_isIn_14 (by decide) ?_
    exact rdEndZ S hr hlocks dX9_isIn_15 rfl rfl
  · have lo_x1 : 0 ≤ x1 := l_nlt c_2
    have lo_x1 : 11 ≤ x1 := o_l ou_x1_0_10 (b_ge lo_x1 (by decide)) (by decide)
    refine lv_iload_n hx hb dX9_isIn_5 rfl (lv_at hl 0 rfl) ?_
    refine lv_iload_n hx hb dX9_isIn_6 rfl (lv_at hl 2 rfl) ?_
    refine lv_icmp_gt (tgt := 14) hx hb dX9_isIn_7 (by decide) (fun _ => ?_) (fun c => absurd (b_gt lo_x1 (by decide)) c)
    refine lv_iconst (v := 0) hx hb dX9_isIn_14 (by decide) ?_
    exact rdEndZ S hr hlocks dX9_isIn_15 rfl rfl

set_option maxHeartbeats 8000000 in
set_option maxRecDepth 100000 in
theorem m_ofRun_k (l : Launch) (D : va_G) (cI cZ cJ : ClassId) (o : Nat) (q : Nat → Nat) (sz : Nat) (x1 : Int32) (ou_x1_0_10 : ¬ (0 ≤ x1 ∧ x1 ≤ 10)) : Met l yX9_ofRun (uW yX9_ofRun cX9_ofRun 2 (some .int)) ({ frames := 1, cells := 0, slots := 0, locals := 22 }) (va_Pc [.ref o, .int x1] (wS D (tyL cI cZ cJ) (mW o 0 q cI cZ) sz)) (wQi (0) D (mW o 1 q cI cZ) (va_A (mW o 0 q cI cZ) sz)) 0 0 (va_A (mW o 0 q cI cZ) sz) := by
  refine wStart (lv := [(0, .ref o), (1, .int x1)]) (Qc := fun A => wQi (0) D (mW o 1 q cI cZ) A) (by decide) (Nat.le_of_ble_eq_true rfl) rfl ?_
  intro p e s m args below meth c ls A H S hr hlocks hnm hl hK hP hD hS hA
  have hx := S.1
  have hb := S.2.1
  refine lv_aload_n hx hb dX9_ofRun_0 rfl (lv_at hl 0 rfl) ?_
  refine lv_iconst (v := 0) hx hb dX9_ofRun_1 (by decide) ?_
  refine xp (ci := 9) (v := .int 0) S inX9 tyX9 tyX9_ok nmX9 rfl hK hP hD hS mW_0 0 (by decide) kw_6_147 rfl rfl rfl rfl (Nat.le_of_ble_eq_true rfl) dX9_ofRun_2 (fun H locs hP hD hS => ?_)
  have hP : va_P D vwCl (mW o 0 q cI cZ) H := hP
  have hD : va_D A (mW o 0 q cI cZ) := hD
  refine lv_iload_n hx hb dX9_ofRun_5 rfl (lv_at hl 1 rfl) ?_
  refine lv_iconst (v := 0) hx hb dX9_ofRun_6 (by decide) ?_
  refine lv_bipush (v := 10) hx hb dX9_ofRun_7 (by decide) ?_
  refine rdS (As := [.int x1, .int 0, .int 10]) S (c_X9_isIn_78 l D cI cZ cJ o q x1 ou_x1_0_10) ms_X9_isIn kw_7_100 ⟨rfl, rfl⟩ ⟨Nat.le_of_ble_eq_true rfl, Nat.le_of_ble_eq_true rfl⟩ hP hK hl.1 (Nat.le_of_ble_eq_true rfl) ⟨Nat.le_of_ble_eq_true rfl, Nat.le_of_ble_eq_true rfl⟩ dX9_ofRun_9 ?_
  refine lv_if_ne (tgt := 23) hx hb dX9_ofRun_12 (by decide) (fun c => absurd c (by decide)) (fun _ => ?_)
  refine lv_aload_n hx hb dX9_ofRun_15 rfl (lv_at hl 0 rfl) ?_
  refine lv_iconst (v := 1) hx hb dX9_ofRun_16 (by decide) ?_
  refine wrV (As := [.int 1]) (ci := 9) S (c_X9_no_0 l D cI cZ cJ o q H.size) mi_X9_no kw_7_103 rfl rfl ⟨Nat.le_of_ble_eq_true rfl, Nat.le_of_ble_eq_true rfl⟩ hP hD hK hS hA mW_0 rfl rfl hl.1 (Nat.le_of_ble_eq_true rfl) ⟨Nat.le_of_ble_eq_true rfl, Nat.le_of_ble_eq_true rfl⟩ dX9_ofRun_17 (fun H locs hz hP hD hS => ?_)
  refine lv_goto (tgt := 42) hx hb dX9_ofRun_20 (by decide) ?_
  exact wEnd S hr hlocks hP hD hS (Nat.le_of_ble_eq_true rfl) (Nat.le_of_ble_eq_true rfl) dX9_ofRun_42 rfl

set_option maxHeartbeats 8000000 in
set_option maxRecDepth 100000 in
theorem c_X9_isIn_79 (l : Launch) (D : va_G) (cI cZ cJ : ClassId) (o : Nat) (q : Nat → Nat) : Met l yX9_isIn (uW yX9_isIn cX9_isIn 3 (some .boolean)) ({ frames := 0, cells := 0, slots := 0, locals := 0 }) (va_Pc [.int 0, .int 0, .int 10] (pS D (tyL cI cZ cJ) (mW o 0 q cI cZ))) (QcRead (1)) 0 0 (fun _ => False) := by
  refine rdStart (lv := [(0, .int 0), (1, .int 0), (2, .int 10)]) (by decide) (Nat.le_of_ble_eq_true rfl) rfl ?_
  intro p e s m args below meth c ls S hr hlocks hl hP hK
  have hx := S.1
  have hb := S.2.1
  refine lv_iload_n hx hb dX9_isIn_0 rfl (lv_at hl 0 rfl) ?_
  refine lv_iload_n hx hb dX9_isIn_1 rfl (lv_at hl 1 rfl) ?_
  refine lv_icmp_lt (tgt := 14) hx hb dX9_isIn_2 (by decide) (fun c => absurd c (by decide)) (fun _ => ?_)
  refine lv_iload_n hx hb dX9_isIn_5 rfl (lv_at hl 0 rfl) ?_
  refine lv_iload_n hx hb dX9_isIn_6 rfl (lv_at hl 2 rfl) ?_
  refine lv_icmp_gt (tgt := 14) hx hb dX9_isIn_7 (by decide) (fun c => absurd c (by decide)) (fun _ => ?_)
  refine lv_iconst (v := 1) hx hb dX9_isIn_10 (by decide) ?_
  refine lv_goto (tgt := 15) hx hb dX9_isIn_11 (by decide) ?_
  exact rdEndZ S hr hlocks dX9_isIn_15 rfl rfl

set_option maxHeartbeats 8000000 in
set_option maxRecDepth 100000 in
theorem m_ofRun_ok0 (l : Launch) (D : va_G) (cI cZ cJ : ClassId) (o : Nat) (q : Nat → Nat) (sz : Nat) : Met l yX9_ofRun (uW yX9_ofRun cX9_ofRun 2 (some .int)) ({ frames := 1, cells := 0, slots := 0, locals := 22 }) (va_Pc [.ref o, .int 0] (wS D (tyL cI cZ cJ) (mW o 0 q cI cZ) sz)) (wQi (0) D (mW o 0 q cI cZ) (va_A (mW o 0 q cI cZ) sz)) 0 0 (va_A (mW o 0 q cI cZ) sz) := by
  refine wStart (lv := [(0, .ref o), (1, .int 0)]) (Qc := fun A => wQi (0) D (mW o 0 q cI cZ) A) (by decide) (Nat.le_of_ble_eq_true rfl) rfl ?_
  intro p e s m args below meth c ls A H S hr hlocks hnm hl hK hP hD hS hA
  have hx := S.1
  have hb := S.2.1
  refine lv_aload_n hx hb dX9_ofRun_0 rfl (lv_at hl 0 rfl) ?_
  refine lv_iconst (v := 0) hx hb dX9_ofRun_1 (by decide) ?_
  refine xp (ci := 9) (v := .int 0) S inX9 tyX9 tyX9_ok nmX9 rfl hK hP hD hS mW_0 0 (by decide) kw_6_147 rfl rfl rfl rfl (Nat.le_of_ble_eq_true rfl) dX9_ofRun_2 (fun H locs hP hD hS => ?_)
  have hP : va_P D vwCl (mW o 0 q cI cZ) H := hP
  have hD : va_D A (mW o 0 q cI cZ) := hD
  refine lv_iload_n hx hb dX9_ofRun_5 rfl (lv_at hl 1 rfl) ?_
  refine lv_iconst (v := 0) hx hb dX9_ofRun_6 (by decide) ?_
  refine lv_bipush (v := 10) hx hb dX9_ofRun_7 (by decide) ?_
  refine rdS (As := [.int 0, .int 0, .int 10]) S (c_X9_isIn_79 l D cI cZ cJ o q) ms_X9_isIn kw_7_100 ⟨rfl, rfl⟩ ⟨Nat.le_of_ble_eq_true rfl, Nat.le_of_ble_eq_true rfl⟩ hP hK hl.1 (Nat.le_of_ble_eq_true rfl) ⟨Nat.le_of_ble_eq_true rfl, Nat.le_of_ble_eq_true rfl⟩ dX9_ofRun_9 ?_
  refine lv_if_ne (tgt := 23) hx hb dX9_ofRun_12 (by decide) (fun _ => ?_) (fun c => absurd c (by decide))
  refine lv_iload_n hx hb dX9_ofRun_23 rfl (lv_at hl 1 rfl) ?_
  refine lv_bipush (v := 10) hx hb dX9_ofRun_24 (by decide) ?_
  refine lv_icmp_ne (tgt := 36) hx hb dX9_ofRun_26 (by decide) (fun _ => ?_) (fun c => absurd c (by decide))
  refine lv_aload_n hx hb dX9_ofRun_36 rfl (lv_at hl 0 rfl) ?_
  refine xg (ci := 9) S inX9 rfl hK hP mW_0 24 (by decide) mF_24 kw_6_171 rfl dX9_ofRun_37 ?_
  refine lv_iload_n hx hb dX9_ofRun_40 rfl (lv_at hl 1 rfl) ?_
  refine xiald (t0 := 0) (v := 0) S hK hP mW_18 rfl (vin rfl) rfl dX9_ofRun_41 ?_
  exact wEnd S hr hlocks hP hD hS (Nat.le_of_ble_eq_true rfl) (Nat.le_of_ble_eq_true rfl) dX9_ofRun_42 rfl

set_option maxHeartbeats 8000000 in
set_option maxRecDepth 100000 in
theorem c_X9_isIn_80 (l : Launch) (D : va_G) (cI cZ cJ : ClassId) (o : Nat) (q : Nat → Nat) : Met l yX9_isIn (uW yX9_isIn cX9_isIn 3 (some .boolean)) ({ frames := 0, cells := 0, slots := 0, locals := 0 }) (va_Pc [.int 1, .int 0, .int 10] (pS D (tyL cI cZ cJ) (mW o 0 q cI cZ))) (QcRead (1)) 0 0 (fun _ => False) := by
  refine rdStart (lv := [(0, .int 1), (1, .int 0), (2, .int 10)]) (by decide) (Nat.le_of_ble_eq_true rfl) rfl ?_
  intro p e s m args below meth c ls S hr hlocks hl hP hK
  have hx := S.1
  have hb := S.2.1
  refine lv_iload_n hx hb dX9_isIn_0 rfl (lv_at hl 0 rfl) ?_
  refine lv_iload_n hx hb dX9_isIn_1 rfl (lv_at hl 1 rfl) ?_
  refine lv_icmp_lt (tgt := 14) hx hb dX9_isIn_2 (by decide) (fun c => absurd c (by decide)) (fun _ => ?_)
  refine lv_iload_n hx hb dX9_isIn_5 rfl (lv_at hl 0 rfl) ?_
  refine lv_iload_n hx hb dX9_isIn_6 rfl (lv_at hl 2 rfl) ?_
  refine lv_icmp_gt (tgt := 14) hx hb dX9_isIn_7 (by decide) (fun c => absurd c (by decide)) (fun _ => ?_)
  refine lv_iconst (v := 1) hx hb dX9_isIn_10 (by decide) ?_
  refine lv_goto (tgt := 15) hx hb dX9_isIn_11 (by decide) ?_
  exact rdEndZ S hr hlocks dX9_isIn_15 rfl rfl

set_option maxHeartbeats 8000000 in
set_option maxRecDepth 100000 in
theorem m_ofRun_ok1 (l : Launch) (D : va_G) (cI cZ cJ : ClassId) (o : Nat) (q : Nat → Nat) (sz : Nat) : Met l yX9_ofRun (uW yX9_ofRun cX9_ofRun 2 (some .int)) ({ frames := 1, cells := 0, slots := 0, locals := 22 }) (va_Pc [.ref o, .int 1] (wS D (tyL cI cZ cJ) (mW o 0 q cI cZ) sz)) (wQi (0) D (mW o 0 q cI cZ) (va_A (mW o 0 q cI cZ) sz)) 0 0 (va_A (mW o 0 q cI cZ) sz) := by
  refine wStart (lv := [(0, .ref o), (1, .int 1)]) (Qc := fun A => wQi (0) D (mW o 0 q cI cZ) A) (by decide) (Nat.le_of_ble_eq_true rfl) rfl ?_
  intro p e s m args below meth c ls A H S hr hlocks hnm hl hK hP hD hS hA
  have hx := S.1
  have hb := S.2.1
  refine lv_aload_n hx hb dX9_ofRun_0 rfl (lv_at hl 0 rfl) ?_
  refine lv_iconst (v := 0) hx hb dX9_ofRun_1 (by decide) ?_
  refine xp (ci := 9) (v := .int 0) S inX9 tyX9 tyX9_ok nmX9 rfl hK hP hD hS mW_0 0 (by decide) kw_6_147 rfl rfl rfl rfl (Nat.le_of_ble_eq_true rfl) dX9_ofRun_2 (fun H locs hP hD hS => ?_)
  have hP : va_P D vwCl (mW o 0 q cI cZ) H := hP
  have hD : va_D A (mW o 0 q cI cZ) := hD
  refine lv_iload_n hx hb dX9_ofRun_5 rfl (lv_at hl 1 rfl) ?_
  refine lv_iconst (v := 0) hx hb dX9_ofRun_6 (by decide) ?_
  refine lv_bipush (v := 10) hx hb dX9_ofRun_7 (by decide) ?_
  refine rdS (As := [.int 1, .int 0, .int 10]) S (c_X9_isIn_80 l D cI cZ cJ o q) ms_X9_isIn kw_7_100 ⟨rfl, rfl⟩ ⟨Nat.le_of_ble_eq_true rfl, Nat.le_of_ble_eq_true rfl⟩ hP hK hl.1 (Nat.le_of_ble_eq_true rfl) ⟨Nat.le_of_ble_eq_true rfl, Nat.le_of_ble_eq_true rfl⟩ dX9_ofRun_9 ?_
  refine lv_if_ne (tgt := 23) hx hb dX9_ofRun_12 (by decide) (fun _ => ?_) (fun c => absurd c (by decide))
  refine lv_iload_n hx hb dX9_ofRun_23 rfl (lv_at hl 1 rfl) ?_
  refine lv_bipush (v := 10) hx hb dX9_ofRun_24 (by decide) ?_
  refine lv_icmp_ne (tgt := 36) hx hb dX9_ofRun_26 (by decide) (fun _ => ?_) (fun c => absurd c (by decide))
  refine lv_aload_n hx hb dX9_ofRun_36 rfl (lv_at hl 0 rfl) ?_
  refine xg (ci := 9) S inX9 rfl hK hP mW_0 24 (by decide) mF_24 kw_6_171 rfl dX9_ofRun_37 ?_
  refine lv_iload_n hx hb dX9_ofRun_40 rfl (lv_at hl 1 rfl) ?_
  refine xiald (t0 := 0) (v := 0) S hK hP mW_18 rfl (vin rfl) rfl dX9_ofRun_41 ?_
  exact wEnd S hr hlocks hP hD hS (Nat.le_of_ble_eq_true rfl) (Nat.le_of_ble_eq_true rfl) dX9_ofRun_42 rfl
