set_option maxHeartbeats 8000000 in
set_option maxRecDepth 100000 in
theorem c_X9_faults_0 (l : Launch) (D : va_G) (cI cZ cJ : ClassId) (o : Nat) (q : Nat → Nat) (sz : Nat) : Met l yX9_faults (uW yX9_faults cX9_faults 1 (some .int)) ({ frames := 1, cells := 1, slots := 111, locals := 29 }) (va_Pc [.ref o] (wS D (tyL cI cZ cJ) (mW o 0 q cI cZ) sz)) (wQi (1) D (mW o 0 q cI cZ) (va_A (mW o 0 q cI cZ) sz)) 1 111 (va_A (mW o 0 q cI cZ) sz) := by
  refine wStart (lv := [(0, .ref o)]) (Qc := fun A => wQi (1) D (mW o 0 q cI cZ) A) (by decide) (Nat.le_of_ble_eq_true rfl) rfl ?_
  intro p e s m args below meth c ls A H S hr hlocks hnm hl hK hP hD hS hA
  have hx := S.1
  have hb := S.2.1
  refine lv_aload_n hx hb dX9_faults_0 rfl (lv_at hl 0 rfl) ?_
  refine lv_iconst (v := (-1)) hx hb dX9_faults_1 (by decide) ?_
  refine lv_iconst (v := 0) hx hb dX9_faults_2 (by decide) ?_
  refine wrV (As := [.int (-1), .int 0]) (ci := 9) S (c_X9_lookFor_0 l D cI cZ cJ o q H.size) mi_X9_lookFor kw_7_233 rfl rfl ⟨Nat.le_of_ble_eq_true rfl, Nat.le_of_ble_eq_true rfl⟩ hP hD hK hS hA mW_0 rfl rfl hl.1 (Nat.le_of_ble_eq_true rfl) ⟨Nat.le_of_ble_eq_true rfl, Nat.le_of_ble_eq_true rfl⟩ dX9_faults_3 (fun H locs hz hP hD hS => ?_)
  exact wEnd S hr hlocks hP hD hS (Nat.le_of_ble_eq_true rfl) (Nat.le_of_ble_eq_true rfl) dX9_faults_6 rfl

set_option maxHeartbeats 8000000 in
set_option maxRecDepth 100000 in
theorem c_X9_ofProcedureNow_7 (l : Launch) (D : va_G) (cI cZ cJ : ClassId) (o : Nat) (q : Nat → Nat) (sz : Nat) : Met l yX9_ofProcedureNow (uW yX9_ofProcedureNow cX9_ofProcedureNow 3 (some .int)) ({ frames := 2, cells := 1, slots := 111, locals := 49 }) (va_Pc [.ref o, .int 0, .int 7] (wS D (tyL cI cZ cJ) (mW o 0 q cI cZ) sz)) (wQi (0) D (mW o 0 q cI cZ) (va_A (mW o 0 q cI cZ) sz)) 1 111 (va_A (mW o 0 q cI cZ) sz) := by
  refine wStart (lv := [(0, .ref o), (1, .int 0), (2, .int 7)]) (Qc := fun A => wQi (0) D (mW o 0 q cI cZ) A) (by decide) (Nat.le_of_ble_eq_true rfl) rfl ?_
  intro p e s m args below meth c ls A H S hr hlocks hnm hl hK hP hD hS hA
  have hx := S.1
  have hb := S.2.1
  refine lv_iload_n hx hb dX9_ofProcedureNow_0 rfl (lv_at hl 2 rfl) ?_
  refine lv_tableOut (tgt := 99) hx hb dX9_ofProcedureNow_1 (by decide) (by decide) ?_
  refine lv_aload_n hx hb dX9_ofProcedureNow_99 rfl (lv_at hl 0 rfl) ?_
  refine wrV (As := []) (ci := 9) S (c_X9_faults_0 l D cI cZ cJ o q H.size) mi_X9_faults kw_7_229 rfl rfl ⟨Nat.le_of_ble_eq_true rfl, Nat.le_of_ble_eq_true rfl⟩ hP hD hK hS hA mW_0 rfl rfl hl.1 (Nat.le_of_ble_eq_true rfl) ⟨Nat.le_of_ble_eq_true rfl, Nat.le_of_ble_eq_true rfl⟩ dX9_ofProcedureNow_100 (fun H locs hz hP hD hS => ?_)
  refine lv_if_le (tgt := 110) hx hb dX9_ofProcedureNow_103 (by decide) (fun c => absurd c (by decide)) (fun _ => ?_)
  refine lv_iconst (v := 0) hx hb dX9_ofProcedureNow_106 (by decide) ?_
  refine lv_goto (tgt := 119) hx hb dX9_ofProcedureNow_107 (by decide) ?_
  exact wEnd S hr hlocks hP hD hS (Nat.le_of_ble_eq_true rfl) (Nat.le_of_ble_eq_true rfl) dX9_ofProcedureNow_119 rfl

set_option maxHeartbeats 8000000 in
set_option maxRecDepth 100000 in
theorem m_ofProcedure_ok7 (l : Launch) (D : va_G) (cI cZ cJ : ClassId) (o : Nat) (q : Nat → Nat) (sz : Nat) : Met l yX9_ofProcedure (uW yX9_ofProcedure cX9_ofProcedure 3 (some .int)) ({ frames := 3, cells := 1, slots := 111, locals := 71 }) (va_Pc [.ref o, .int 0, .int 7] (wS D (tyL cI cZ cJ) (mW o 0 q cI cZ) sz)) (wQi (0) D (mW o 0 q cI cZ) (va_A (mW o 0 q cI cZ) sz)) 1 111 (va_A (mW o 0 q cI cZ) sz) := by
  refine wStart (lv := [(0, .ref o), (1, .int 0), (2, .int 7)]) (Qc := fun A => wQi (0) D (mW o 0 q cI cZ) A) (by decide) (Nat.le_of_ble_eq_true rfl) rfl ?_
  intro p e s m args below meth c ls A H S hr hlocks hnm hl hK hP hD hS hA
  have hx := S.1
  have hb := S.2.1
  refine lv_aload_n hx hb dX9_ofProcedure_0 rfl (lv_at hl 0 rfl) ?_
  refine lv_iconst (v := 0) hx hb dX9_ofProcedure_1 (by decide) ?_
  refine xp (ci := 9) (v := .int 0) S inX9 tyX9 tyX9_ok nmX9 rfl hK hP hD hS mW_0 0 (by decide) kw_6_147 rfl rfl rfl rfl (Nat.le_of_ble_eq_true rfl) dX9_ofProcedure_2 (fun H locs hP hD hS => ?_)
  have hP : va_P D vwCl (mW o 0 q cI cZ) H := hP
  have hD : va_D A (mW o 0 q cI cZ) := hD
  refine lv_aload_n hx hb dX9_ofProcedure_5 rfl (lv_at hl 0 rfl) ?_
  refine lv_iload_n hx hb dX9_ofProcedure_6 rfl (lv_at hl 1 rfl) ?_
  refine rdV (As := [.int 0]) (ci := 9) S (c_X9_isProcedure_1 l D cI cZ cJ o q) mi_X9_isProcedure kw_7_96 ⟨rfl, rfl⟩ ⟨Nat.le_of_ble_eq_true rfl, Nat.le_of_ble_eq_true rfl⟩ hP hK mW_0 rfl rfl hl.1 (Nat.le_of_ble_eq_true rfl) ⟨Nat.le_of_ble_eq_true rfl, Nat.le_of_ble_eq_true rfl⟩ dX9_ofProcedure_7 ?_
  refine lv_if_ne (tgt := 19) hx hb dX9_ofProcedure_10 (by decide) (fun _ => ?_) (fun c => absurd c (by decide))
  refine lv_iload_n hx hb dX9_ofProcedure_19 rfl (lv_at hl 2 rfl) ?_
  refine lv_iconst (v := 0) hx hb dX9_ofProcedure_20 (by decide) ?_
  refine lv_bipush (v := 7) hx hb dX9_ofProcedure_21 (by decide) ?_
  refine rdS (As := [.int 7, .int 0, .int 7]) S (c_X9_isIn_29 l D cI cZ cJ o q) ms_X9_isIn kw_7_100 ⟨rfl, rfl⟩ ⟨Nat.le_of_ble_eq_true rfl, Nat.le_of_ble_eq_true rfl⟩ hP hK hl.1 (Nat.le_of_ble_eq_true rfl) ⟨Nat.le_of_ble_eq_true rfl, Nat.le_of_ble_eq_true rfl⟩ dX9_ofProcedure_23 ?_
  refine lv_if_eq (tgt := 38) hx hb dX9_ofProcedure_26 (by decide) (fun c => absurd c (by decide)) (fun _ => ?_)
  refine lv_aload_n hx hb dX9_ofProcedure_29 rfl (lv_at hl 0 rfl) ?_
  refine lv_iload_n hx hb dX9_ofProcedure_30 rfl (lv_at hl 1 rfl) ?_
  refine lv_iload_n hx hb dX9_ofProcedure_31 rfl (lv_at hl 2 rfl) ?_
  refine wrV (As := [.int 0, .int 7]) (ci := 9) S (c_X9_ofProcedureNow_7 l D cI cZ cJ o q H.size) mi_X9_ofProcedureNow kw_7_202 rfl rfl ⟨Nat.le_of_ble_eq_true rfl, Nat.le_of_ble_eq_true rfl⟩ hP hD hK hS hA mW_0 rfl rfl hl.1 (Nat.le_of_ble_eq_true rfl) ⟨Nat.le_of_ble_eq_true rfl, Nat.le_of_ble_eq_true rfl⟩ dX9_ofProcedure_32 (fun H locs hz hP hD hS => ?_)
  refine lv_goto (tgt := 43) hx hb dX9_ofProcedure_35 (by decide) ?_
  exact wEnd S hr hlocks hP hD hS (Nat.le_of_ble_eq_true rfl) (Nat.le_of_ble_eq_true rfl) dX9_ofProcedure_43 rfl

set_option maxHeartbeats 8000000 in
set_option maxRecDepth 100000 in
theorem c_X9_isIn_30 (l : Launch) (D : va_G) (cI cZ cJ : ClassId) (o : Nat) (q : Nat → Nat) (x1 : Int32) (ou_x1_0_21 : ¬ (0 ≤ x1 ∧ x1 ≤ 21)) : Met l yX9_isIn (uW yX9_isIn cX9_isIn 3 (some .boolean)) ({ frames := 0, cells := 0, slots := 0, locals := 0 }) (va_Pc [.int x1, .int 0, .int 21] (pS D (tyL cI cZ cJ) (mW o 0 q cI cZ))) (QcRead (0)) 0 0 (fun _ => False) := by
  refine rdStart (lv := [(0, .int x1), (1, .int 0), (2, .int 21)]) (by decide) (Nat.le_of_ble_eq_true rfl) rfl ?_
  intro p e s m args below meth c ls S hr hlocks hl hP hK
  have hx := S.1
  have hb := S.2.1
  refine lv_iload_n hx hb dX9_isIn_0 rfl (lv_at hl 0 rfl) ?_
  refine lv_iload_n hx hb dX9_isIn_1 rfl (lv_at hl 1 rfl) ?_
  refine lv_icmp_lt (tgt := 14) hx hb dX9_isIn_2 (by decide) (fun c_2 => ?_) (fun c_2 => ?_)
  · have hi_x1 : x1 ≤ (-1) := u_lt c_2 (by decide)
    refine lv_iconst (v := 0) hx hb dX9_isIn_14 (by decide) ?_
    exact rdEndZ S hr hlocks dX9_isIn_15 rfl rfl
  · have lo_x1 : 0 ≤ x1 := l_nlt c_2
    have lo_x1 : 22 ≤ x1 := o_l ou_x1_0_21 (b_ge lo_x1 (by decide)) (by decide)
    refine lv_iload_n hx hb dX9_isIn_5 rfl (lv_at hl 0 rfl) ?_
    refine lv_iload_n hx hb dX9_isIn_6 rfl (lv_at hl 2 rfl) ?_
    refine lv_icmp_gt (tgt := 14) hx hb dX9_isIn_7 (by decide) (fun _ => ?_) (fun c => absurd (b_gt lo_x1 (by decide)) c)
    refine lv_iconst (v := 0) hx hb dX9_isIn_14 (by decide) ?_
    exact rdEndZ S hr hlocks dX9_isIn_15 rfl rfl

set_option maxHeartbeats 8000000 in
set_option maxRecDepth 100000 in
theorem m_node_k (l : Launch) (D : va_G) (cI cZ cJ : ClassId) (o : Nat) (q : Nat → Nat) (sz : Nat) (x1 : Int32) (x2 : Int32) (x3 : Int32) (x4 : Int32) (ou_x1_0_21 : ¬ (0 ≤ x1 ∧ x1 ≤ 21)) : Met l yX9_node (uW yX9_node cX9_node 6 (some .int)) ({ frames := 1, cells := 0, slots := 0, locals := 22 }) (va_Pc [.ref o, .int x1, .int x2, .int x3, .int x4] (wS D (tyL cI cZ cJ) (mW o 0 q cI cZ) sz)) (wQi (0) D (mW o 1 q cI cZ) (va_A (mW o 0 q cI cZ) sz)) 0 0 (va_A (mW o 0 q cI cZ) sz) := by
  refine wStart (lv := [(0, .ref o), (1, .int x1), (2, .int x2), (3, .int x3), (4, .int x4)]) (Qc := fun A => wQi (0) D (mW o 1 q cI cZ) A) (by decide) (Nat.le_of_ble_eq_true rfl) rfl ?_
  intro p e s m args below meth c ls A H S hr hlocks hnm hl hK hP hD hS hA
  have hx := S.1
  have hb := S.2.1
  refine lv_aload_n hx hb dX9_node_0 rfl (lv_at hl 0 rfl) ?_
  refine lv_iconst (v := 0) hx hb dX9_node_1 (by decide) ?_
  refine xp (ci := 9) (v := .int 0) S inX9 tyX9 tyX9_ok nmX9 rfl hK hP hD hS mW_0 0 (by decide) kw_6_147 rfl rfl rfl rfl (Nat.le_of_ble_eq_true rfl) dX9_node_2 (fun H locs hP hD hS => ?_)
  have hP : va_P D vwCl (mW o 0 q cI cZ) H := hP
  have hD : va_D A (mW o 0 q cI cZ) := hD
  refine lv_iload_n hx hb dX9_node_5 rfl (lv_at hl 1 rfl) ?_
  refine lv_iconst (v := 0) hx hb dX9_node_6 (by decide) ?_
  refine lv_bipush (v := 21) hx hb dX9_node_7 (by decide) ?_
  refine rdS (As := [.int x1, .int 0, .int 21]) S (c_X9_isIn_30 l D cI cZ cJ o q x1 ou_x1_0_21) ms_X9_isIn kw_7_100 ⟨rfl, rfl⟩ ⟨Nat.le_of_ble_eq_true rfl, Nat.le_of_ble_eq_true rfl⟩ hP hK hl.1 (Nat.le_of_ble_eq_true rfl) ⟨Nat.le_of_ble_eq_true rfl, Nat.le_of_ble_eq_true rfl⟩ dX9_node_9 ?_
  refine lv_if_eq (tgt := 27) hx hb dX9_node_12 (by decide) (fun _ => ?_) (fun c => absurd c (by decide))
  refine lv_aload_n hx hb dX9_node_27 rfl (lv_at hl 0 rfl) ?_
  refine lv_iconst (v := 1) hx hb dX9_node_28 (by decide) ?_
  refine wrV (As := [.int 1]) (ci := 9) S (c_X9_no_0 l D cI cZ cJ o q H.size) mi_X9_no kw_7_103 rfl rfl ⟨Nat.le_of_ble_eq_true rfl, Nat.le_of_ble_eq_true rfl⟩ hP hD hK hS hA mW_0 rfl rfl hl.1 (Nat.le_of_ble_eq_true rfl) ⟨Nat.le_of_ble_eq_true rfl, Nat.le_of_ble_eq_true rfl⟩ dX9_node_29 (fun H locs hz hP hD hS => ?_)
  exact wEnd S hr hlocks hP hD hS (Nat.le_of_ble_eq_true rfl) (Nat.le_of_ble_eq_true rfl) dX9_node_32 rfl

set_option maxHeartbeats 8000000 in
set_option maxRecDepth 100000 in
theorem c_X9_isIn_31 (l : Launch) (D : va_G) (cI cZ cJ : ClassId) (o : Nat) (q : Nat → Nat) : Met l yX9_isIn (uW yX9_isIn cX9_isIn 3 (some .boolean)) ({ frames := 0, cells := 0, slots := 0, locals := 0 }) (va_Pc [.int 0, .int 0, .int 21] (pS D (tyL cI cZ cJ) (mW o 0 q cI cZ))) (QcRead (1)) 0 0 (fun _ => False) := by
  refine rdStart (lv := [(0, .int 0), (1, .int 0), (2, .int 21)]) (by decide) (Nat.le_of_ble_eq_true rfl) rfl ?_
  intro p e s m args below meth c ls S hr hlocks hl hP hK
  have hx := S.1
  have hb := S.2.1
  refine lv_iload_n hx hb dX9_isIn_0 rfl (lv_at hl 0 rfl) ?_
  refine lv_iload_n hx hb dX9_isIn_1 rfl (lv_at hl 1 rfl) ?_
  refine lv_icmp_lt (tgt := 14) hx hb dX9_isIn_2 (by decide) (fun c => absurd c (by decide)) (fun _ => ?_)
  refine lv_iload_n hx hb dX9_isIn_5 rfl (lv_at hl 0 rfl) ?_
  refine lv_iload_n hx hb dX9_isIn_6 rfl (lv_at hl 2 rfl) ?_
  refine lv_icmp_gt (tgt := 14) hx hb dX9_isIn_7 (by decide) (fun c => absurd c (by decide)) (fun _ => ?_)
  refine lv_iconst (v := 1) hx hb dX9_isIn_10 (by decide) ?_
  refine lv_goto (tgt := 15) hx hb dX9_isIn_11 (by decide) ?_
  exact rdEndZ S hr hlocks dX9_isIn_15 rfl rfl

set_option maxHeartbeats 8000000 in
set_option maxRecDepth 100000 in
theorem c_X9_isIn_32 (l : Launch) (D : va_G) (cI cZ cJ : ClassId) (o : Nat) (q : Nat → Nat) (x2 : Int32) (ou_x2_m999_999 : ¬ ((-999) ≤ x2 ∧ x2 ≤ 999)) : Met l yX9_isIn (uW yX9_isIn cX9_isIn 3 (some .boolean)) ({ frames := 0, cells := 0, slots := 0, locals := 0 }) (va_Pc [.int x2, .int (-999), .int 999] (pS D (tyL cI cZ cJ) (mW o 0 q cI cZ))) (QcRead (0)) 0 0 (fun _ => False) := by
  refine rdStart (lv := [(0, .int x2), (1, .int (-999)), (2, .int 999)]) (by decide) (Nat.le_of_ble_eq_true rfl) rfl ?_
  intro p e s m args below meth c ls S hr hlocks hl hP hK
  have hx := S.1
  have hb := S.2.1
  refine lv_iload_n hx hb dX9_isIn_0 rfl (lv_at hl 0 rfl) ?_
  refine lv_iload_n hx hb dX9_isIn_1 rfl (lv_at hl 1 rfl) ?_
  refine lv_icmp_lt (tgt := 14) hx hb dX9_isIn_2 (by decide) (fun c_2 => ?_) (fun c_2 => ?_)
  · have hi_x2 : x2 ≤ (-1000) := u_lt c_2 (by decide)
    refine lv_iconst (v := 0) hx hb dX9_isIn_14 (by decide) ?_
    exact rdEndZ S hr hlocks dX9_isIn_15 rfl rfl
  · have lo_x2 : (-999) ≤ x2 := l_nlt c_2
    have lo_x2 : 1000 ≤ x2 := o_l ou_x2_m999_999 (b_ge lo_x2 (by decide)) (by decide)
    refine lv_iload_n hx hb dX9_isIn_5 rfl (lv_at hl 0 rfl) ?_
    refine lv_iload_n hx hb dX9_isIn_6 rfl (lv_at hl 2 rfl) ?_
    refine lv_icmp_gt (tgt := 14) hx hb dX9_isIn_7 (by decide) (fun _ => ?_) (fun c => absurd (b_gt lo_x2 (by decide)) c)
    refine lv_iconst (v := 0) hx hb dX9_isIn_14 (by decide) ?_
    exact rdEndZ S hr hlocks dX9_isIn_15 rfl rfl

set_option maxHeartbeats 8000000 in
set_option maxRecDepth 100000 in
theorem c_X9_canBe_0 (l : Launch) (D : va_G) (cI cZ cJ : ClassId) (o : Nat) (q : Nat → Nat) (x2 : Int32) (x3 : Int32) (x4 : Int32) (ou_x2_m999_999 : ¬ ((-999) ≤ x2 ∧ x2 ≤ 999)) : Met l yX9_canBe (uW yX9_canBe cX9_canBe 5 (some .boolean)) ({ frames := 1, cells := 0, slots := 0, locals := 22 }) (va_Pc [.ref o, .int 0, .int x2, .int x3, .int x4] (pS D (tyL cI cZ cJ) (mW o 0 q cI cZ))) (QcRead (0)) 0 0 (fun _ => False) := by
  refine rdStart (lv := [(0, .ref o), (1, .int 0), (2, .int x2), (3, .int x3), (4, .int x4)]) (by decide) (Nat.le_of_ble_eq_true rfl) rfl ?_
  intro p e s m args below meth c ls S hr hlocks hl hP hK
  have hx := S.1
  have hb := S.2.1
  refine lv_iload_n hx hb dX9_canBe_0 rfl (lv_at hl 1 rfl) ?_
  refine lv_tableIn (off := 103) (tgt := 104) hx hb dX9_canBe_1 (by decide) (by decide) (by decide) (by decide) ?_
  refine lv_iload_n hx hb dX9_canBe_104 rfl (lv_at hl 2 rfl) ?_
  refine lv_sipush (v := (-999)) hx hb dX9_canBe_105 (by decide) ?_
  refine lv_sipush (v := 999) hx hb dX9_canBe_108 (by decide) ?_
  refine rdS (As := [.int x2, .int (-999), .int 999]) S (c_X9_isIn_32 l D cI cZ cJ o q x2 ou_x2_m999_999) ms_X9_isIn kw_7_100 ⟨rfl, rfl⟩ ⟨Nat.le_of_ble_eq_true rfl, Nat.le_of_ble_eq_true rfl⟩ hP hK hl.1 (Nat.le_of_ble_eq_true rfl) ⟨Nat.le_of_ble_eq_true rfl, Nat.le_of_ble_eq_true rfl⟩ dX9_canBe_111 ?_
  refine lv_if_eq (tgt := 130) hx hb dX9_canBe_114 (by decide) (fun _ => ?_) (fun c => absurd c (by decide))
  refine lv_iconst (v := 0) hx hb dX9_canBe_130 (by decide) ?_
  exact rdEndZ S hr hlocks dX9_canBe_131 rfl rfl

set_option maxHeartbeats 8000000 in
set_option maxRecDepth 100000 in
theorem m_node_k0a (l : Launch) (D : va_G) (cI cZ cJ : ClassId) (o : Nat) (q : Nat → Nat) (sz : Nat) (x2 : Int32) (x3 : Int32) (x4 : Int32) (ou_x2_m999_999 : ¬ ((-999) ≤ x2 ∧ x2 ≤ 999)) : Met l yX9_node (uW yX9_node cX9_node 6 (some .int)) ({ frames := 2, cells := 0, slots := 0, locals := 46 }) (va_Pc [.ref o, .int 0, .int x2, .int x3, .int x4] (wS D (tyL cI cZ cJ) (mW o 0 q cI cZ) sz)) (wQi (0) D (mW o 1 q cI cZ) (va_A (mW o 0 q cI cZ) sz)) 0 0 (va_A (mW o 0 q cI cZ) sz) := by
  refine wStart (lv := [(0, .ref o), (1, .int 0), (2, .int x2), (3, .int x3), (4, .int x4)]) (Qc := fun A => wQi (0) D (mW o 1 q cI cZ) A) (by decide) (Nat.le_of_ble_eq_true rfl) rfl ?_
  intro p e s m args below meth c ls A H S hr hlocks hnm hl hK hP hD hS hA
  have hx := S.1
  have hb := S.2.1
  refine lv_aload_n hx hb dX9_node_0 rfl (lv_at hl 0 rfl) ?_
  refine lv_iconst (v := 0) hx hb dX9_node_1 (by decide) ?_
  refine xp (ci := 9) (v := .int 0) S inX9 tyX9 tyX9_ok nmX9 rfl hK hP hD hS mW_0 0 (by decide) kw_6_147 rfl rfl rfl rfl (Nat.le_of_ble_eq_true rfl) dX9_node_2 (fun H locs hP hD hS => ?_)
  have hP : va_P D vwCl (mW o 0 q cI cZ) H := hP
  have hD : va_D A (mW o 0 q cI cZ) := hD
  refine lv_iload_n hx hb dX9_node_5 rfl (lv_at hl 1 rfl) ?_
  refine lv_iconst (v := 0) hx hb dX9_node_6 (by decide) ?_
  refine lv_bipush (v := 21) hx hb dX9_node_7 (by decide) ?_
  refine rdS (As := [.int 0, .int 0, .int 21]) S (c_X9_isIn_31 l D cI cZ cJ o q) ms_X9_isIn kw_7_100 ⟨rfl, rfl⟩ ⟨Nat.le_of_ble_eq_true rfl, Nat.le_of_ble_eq_true rfl⟩ hP hK hl.1 (Nat.le_of_ble_eq_true rfl) ⟨Nat.le_of_ble_eq_true rfl, Nat.le_of_ble_eq_true rfl⟩ dX9_node_9 ?_
  refine lv_if_eq (tgt := 27) hx hb dX9_node_12 (by decide) (fun c => absurd c (by decide)) (fun _ => ?_)
  refine lv_aload_n hx hb dX9_node_15 rfl (lv_at hl 0 rfl) ?_
  refine lv_iload_n hx hb dX9_node_16 rfl (lv_at hl 1 rfl) ?_
  refine lv_iload_n hx hb dX9_node_17 rfl (lv_at hl 2 rfl) ?_
  refine lv_iload_n hx hb dX9_node_18 rfl (lv_at hl 3 rfl) ?_
  refine lv_iload hx hb dX9_node_19 (lv_at hl 4 rfl) ?_
  refine rdV (As := [.int 0, .int x2, .int x3, .int x4]) (ci := 9) S (c_X9_canBe_0 l D cI cZ cJ o q x2 x3 x4 ou_x2_m999_999) mi_X9_canBe kw_7_154 ⟨rfl, rfl⟩ ⟨Nat.le_of_ble_eq_true rfl, Nat.le_of_ble_eq_true rfl⟩ hP hK mW_0 rfl rfl hl.1 (Nat.le_of_ble_eq_true rfl) ⟨Nat.le_of_ble_eq_true rfl, Nat.le_of_ble_eq_true rfl⟩ dX9_node_21 ?_
  refine lv_if_ne (tgt := 33) hx hb dX9_node_24 (by decide) (fun c => absurd c (by decide)) (fun _ => ?_)
  refine lv_aload_n hx hb dX9_node_27 rfl (lv_at hl 0 rfl) ?_
  refine lv_iconst (v := 1) hx hb dX9_node_28 (by decide) ?_
  refine wrV (As := [.int 1]) (ci := 9) S (c_X9_no_0 l D cI cZ cJ o q H.size) mi_X9_no kw_7_103 rfl rfl ⟨Nat.le_of_ble_eq_true rfl, Nat.le_of_ble_eq_true rfl⟩ hP hD hK hS hA mW_0 rfl rfl hl.1 (Nat.le_of_ble_eq_true rfl) ⟨Nat.le_of_ble_eq_true rfl, Nat.le_of_ble_eq_true rfl⟩ dX9_node_29 (fun H locs hz hP hD hS => ?_)
  exact wEnd S hr hlocks hP hD hS (Nat.le_of_ble_eq_true rfl) (Nat.le_of_ble_eq_true rfl) dX9_node_32 rfl

set_option maxHeartbeats 8000000 in
set_option maxRecDepth 100000 in
theorem c_X9_isIn_33 (l : Launch) (D : va_G) (cI cZ cJ : ClassId) (o : Nat) (q : Nat → Nat) (x2 : Int32) (lo_x2 : (-999) ≤ x2) (hi_x2 : x2 ≤ 999) : Met l yX9_isIn (uW yX9_isIn cX9_isIn 3 (some .boolean)) ({ frames := 0, cells := 0, slots := 0, locals := 0 }) (va_Pc [.int x2, .int (-999), .int 999] (pS D (tyL cI cZ cJ) (mW o 0 q cI cZ))) (QcRead (1)) 0 0 (fun _ => False) := by
  refine rdStart (lv := [(0, .int x2), (1, .int (-999)), (2, .int 999)]) (by decide) (Nat.le_of_ble_eq_true rfl) rfl ?_
  intro p e s m args below meth c ls S hr hlocks hl hP hK
  have hx := S.1
  have hb := S.2.1
  refine lv_iload_n hx hb dX9_isIn_0 rfl (lv_at hl 0 rfl) ?_
  refine lv_iload_n hx hb dX9_isIn_1 rfl (lv_at hl 1 rfl) ?_
  refine lv_icmp_lt (tgt := 14) hx hb dX9_isIn_2 (by decide) (fun c => absurd c (b_nlt lo_x2 (by decide))) (fun _ => ?_)
  refine lv_iload_n hx hb dX9_isIn_5 rfl (lv_at hl 0 rfl) ?_
  refine lv_iload_n hx hb dX9_isIn_6 rfl (lv_at hl 2 rfl) ?_
  refine lv_icmp_gt (tgt := 14) hx hb dX9_isIn_7 (by decide) (fun c => absurd c (b_ngt hi_x2 (by decide))) (fun _ => ?_)
  refine lv_iconst (v := 1) hx hb dX9_isIn_10 (by decide) ?_
  refine lv_goto (tgt := 15) hx hb dX9_isIn_11 (by decide) ?_
  exact rdEndZ S hr hlocks dX9_isIn_15 rfl rfl

set_option maxHeartbeats 8000000 in
set_option maxRecDepth 100000 in
theorem c_X9_canBe_1 (l : Launch) (D : va_G) (cI cZ cJ : ClassId) (o : Nat) (q : Nat → Nat) (x2 : Int32) (x3 : Int32) (x4 : Int32) (lo_x2 : (-999) ≤ x2) (hi_x2 : x2 ≤ 999) (ne_x3_0 : ¬ x3 = 0) : Met l yX9_canBe (uW yX9_canBe cX9_canBe 5 (some .boolean)) ({ frames := 1, cells := 0, slots := 0, locals := 22 }) (va_Pc [.ref o, .int 0, .int x2, .int x3, .int x4] (pS D (tyL cI cZ cJ) (mW o 0 q cI cZ))) (QcRead (0)) 0 0 (fun _ => False) := by
  refine rdStart (lv := [(0, .ref o), (1, .int 0), (2, .int x2), (3, .int x3), (4, .int x4)]) (by decide) (Nat.le_of_ble_eq_true rfl) rfl ?_
  intro p e s m args below meth c ls S hr hlocks hl hP hK
  have hx := S.1
  have hb := S.2.1
  refine lv_iload_n hx hb dX9_canBe_0 rfl (lv_at hl 1 rfl) ?_
  refine lv_tableIn (off := 103) (tgt := 104) hx hb dX9_canBe_1 (by decide) (by decide) (by decide) (by decide) ?_
  refine lv_iload_n hx hb dX9_canBe_104 rfl (lv_at hl 2 rfl) ?_
  refine lv_sipush (v := (-999)) hx hb dX9_canBe_105 (by decide) ?_
  refine lv_sipush (v := 999) hx hb dX9_canBe_108 (by decide) ?_
  refine rdS (As := [.int x2, .int (-999), .int 999]) S (c_X9_isIn_33 l D cI cZ cJ o q x2 lo_x2 hi_x2) ms_X9_isIn kw_7_100 ⟨rfl, rfl⟩ ⟨Nat.le_of_ble_eq_true rfl, Nat.le_of_ble_eq_true rfl⟩ hP hK hl.1 (Nat.le_of_ble_eq_true rfl) ⟨Nat.le_of_ble_eq_true rfl, Nat.le_of_ble_eq_true rfl⟩ dX9_canBe_111 ?_
  refine lv_if_eq (tgt := 130) hx hb dX9_canBe_114 (by decide) (fun c => absurd c (by decide)) (fun _ => ?_)
  refine lv_iload_n hx hb dX9_canBe_117 rfl (lv_at hl 3 rfl) ?_
  refine lv_if_ne (tgt := 130) hx hb dX9_canBe_118 (by decide) (fun _ => ?_) (fun c => absurd c ne_x3_0)
  refine lv_iconst (v := 0) hx hb dX9_canBe_130 (by decide) ?_
  exact rdEndZ S hr hlocks dX9_canBe_131 rfl rfl

set_option maxHeartbeats 8000000 in
set_option maxRecDepth 100000 in
theorem m_node_k0b (l : Launch) (D : va_G) (cI cZ cJ : ClassId) (o : Nat) (q : Nat → Nat) (sz : Nat) (x2 : Int32) (x3 : Int32) (x4 : Int32) (lo_x2 : (-999) ≤ x2) (hi_x2 : x2 ≤ 999) (ne_x3_0 : ¬ x3 = 0) : Met l yX9_node (uW yX9_node cX9_node 6 (some .int)) ({ frames := 2, cells := 0, slots := 0, locals := 46 }) (va_Pc [.ref o, .int 0, .int x2, .int x3, .int x4] (wS D (tyL cI cZ cJ) (mW o 0 q cI cZ) sz)) (wQi (0) D (mW o 1 q cI cZ) (va_A (mW o 0 q cI cZ) sz)) 0 0 (va_A (mW o 0 q cI cZ) sz) := by
  refine wStart (lv := [(0, .ref o), (1, .int 0), (2, .int x2), (3, .int x3), (4, .int x4)]) (Qc := fun A => wQi (0) D (mW o 1 q cI cZ) A) (by decide) (Nat.le_of_ble_eq_true rfl) rfl ?_
  intro p e s m args below meth c ls A H S hr hlocks hnm hl hK hP hD hS hA
  have hx := S.1
  have hb := S.2.1
  refine lv_aload_n hx hb dX9_node_0 rfl (lv_at hl 0 rfl) ?_
  refine lv_iconst (v := 0) hx hb dX9_node_1 (by decide) ?_
  refine xp (ci := 9) (v := .int 0) S inX9 tyX9 tyX9_ok nmX9 rfl hK hP hD hS mW_0 0 (by decide) kw_6_147 rfl rfl rfl rfl (Nat.le_of_ble_eq_true rfl) dX9_node_2 (fun H locs hP hD hS => ?_)
  have hP : va_P D vwCl (mW o 0 q cI cZ) H := hP
  have hD : va_D A (mW o 0 q cI cZ) := hD
  refine lv_iload_n hx hb dX9_node_5 rfl (lv_at hl 1 rfl) ?_
  refine lv_iconst (v := 0) hx hb dX9_node_6 (by decide) ?_
  refine lv_bipush (v := 21) hx hb dX9_node_7 (by decide) ?_
  refine rdS (As := [.int 0, .int 0, .int 21]) S (c_X9_isIn_31 l D cI cZ cJ o q) ms_X9_isIn kw_7_100 ⟨rfl, rfl⟩ ⟨Nat.le_of_ble_eq_true rfl, Nat.le_of_ble_eq_true rfl⟩ hP hK hl.1 (Nat.le_of_ble_eq_true rfl) ⟨Nat.le_of_ble_eq_true rfl, Nat.le_of_ble_eq_true rfl⟩ dX9_node_9 ?_
  refine lv_if_eq (tgt := 27) hx hb dX9_node_12 (by decide) (fun c => absurd c (by decide)) (fun _ => ?_)
  refine lv_aload_n hx hb dX9_node_15 rfl (lv_at hl 0 rfl) ?_
  refine lv_iload_n hx hb dX9_node_16 rfl (lv_at hl 1 rfl) ?_
  refine lv_iload_n hx hb dX9_node_17 rfl (lv_at hl 2 rfl) ?_
  refine lv_iload_n hx hb dX9_node_18 rfl (lv_at hl 3 rfl) ?_
  refine lv_iload hx hb dX9_node_19 (lv_at hl 4 rfl) ?_
  refine rdV (As := [.int 0, .int x2, .int x3, .int x4]) (ci := 9) S (c_X9_canBe_1 l D cI cZ cJ o q x2 x3 x4 lo_x2 hi_x2 ne_x3_0) mi_X9_canBe kw_7_154 ⟨rfl, rfl⟩ ⟨Nat.le_of_ble_eq_true rfl, Nat.le_of_ble_eq_true rfl⟩ hP hK mW_0 rfl rfl hl.1 (Nat.le_of_ble_eq_true rfl) ⟨Nat.le_of_ble_eq_true rfl, Nat.le_of_ble_eq_true rfl⟩ dX9_node_21 ?_
  refine lv_if_ne (tgt := 33) hx hb dX9_node_24 (by decide) (fun c => absurd c (by decide)) (fun _ => ?_)
  refine lv_aload_n hx hb dX9_node_27 rfl (lv_at hl 0 rfl) ?_
  refine lv_iconst (v := 1) hx hb dX9_node_28 (by decide) ?_
  refine wrV (As := [.int 1]) (ci := 9) S (c_X9_no_0 l D cI cZ cJ o q H.size) mi_X9_no kw_7_103 rfl rfl ⟨Nat.le_of_ble_eq_true rfl, Nat.le_of_ble_eq_true rfl⟩ hP hD hK hS hA mW_0 rfl rfl hl.1 (Nat.le_of_ble_eq_true rfl) ⟨Nat.le_of_ble_eq_true rfl, Nat.le_of_ble_eq_true rfl⟩ dX9_node_29 (fun H locs hz hP hD hS => ?_)
  exact wEnd S hr hlocks hP hD hS (Nat.le_of_ble_eq_true rfl) (Nat.le_of_ble_eq_true rfl) dX9_node_32 rfl

set_option maxHeartbeats 8000000 in
set_option maxRecDepth 100000 in
theorem c_X9_canBe_2 (l : Launch) (D : va_G) (cI cZ cJ : ClassId) (o : Nat) (q : Nat → Nat) (x2 : Int32) (x4 : Int32) (lo_x2 : (-999) ≤ x2) (hi_x2 : x2 ≤ 999) (ne_x4_0 : ¬ x4 = 0) : Met l yX9_canBe (uW yX9_canBe cX9_canBe 5 (some .boolean)) ({ frames := 1, cells := 0, slots := 0, locals := 22 }) (va_Pc [.ref o, .int 0, .int x2, .int 0, .int x4] (pS D (tyL cI cZ cJ) (mW o 0 q cI cZ))) (QcRead (0)) 0 0 (fun _ => False) := by
  refine rdStart (lv := [(0, .ref o), (1, .int 0), (2, .int x2), (3, .int 0), (4, .int x4)]) (by decide) (Nat.le_of_ble_eq_true rfl) rfl ?_
  intro p e s m args below meth c ls S hr hlocks hl hP hK
  have hx := S.1
  have hb := S.2.1
  refine lv_iload_n hx hb dX9_canBe_0 rfl (lv_at hl 1 rfl) ?_
  refine lv_tableIn (off := 103) (tgt := 104) hx hb dX9_canBe_1 (by decide) (by decide) (by decide) (by decide) ?_
  refine lv_iload_n hx hb dX9_canBe_104 rfl (lv_at hl 2 rfl) ?_
  refine lv_sipush (v := (-999)) hx hb dX9_canBe_105 (by decide) ?_
  refine lv_sipush (v := 999) hx hb dX9_canBe_108 (by decide) ?_
  refine rdS (As := [.int x2, .int (-999), .int 999]) S (c_X9_isIn_33 l D cI cZ cJ o q x2 lo_x2 hi_x2) ms_X9_isIn kw_7_100 ⟨rfl, rfl⟩ ⟨Nat.le_of_ble_eq_true rfl, Nat.le_of_ble_eq_true rfl⟩ hP hK hl.1 (Nat.le_of_ble_eq_true rfl) ⟨Nat.le_of_ble_eq_true rfl, Nat.le_of_ble_eq_true rfl⟩ dX9_canBe_111 ?_
  refine lv_if_eq (tgt := 130) hx hb dX9_canBe_114 (by decide) (fun c => absurd c (by decide)) (fun _ => ?_)
  refine lv_iload_n hx hb dX9_canBe_117 rfl (lv_at hl 3 rfl) ?_
  refine lv_if_ne (tgt := 130) hx hb dX9_canBe_118 (by decide) (fun c => absurd c (by decide)) (fun _ => ?_)
  refine lv_iload hx hb dX9_canBe_121 (lv_at hl 4 rfl) ?_
  refine lv_if_ne (tgt := 130) hx hb dX9_canBe_123 (by decide) (fun _ => ?_) (fun c => absurd c ne_x4_0)
  refine lv_iconst (v := 0) hx hb dX9_canBe_130 (by decide) ?_
  exact rdEndZ S hr hlocks dX9_canBe_131 rfl rfl

set_option maxHeartbeats 8000000 in
set_option maxRecDepth 100000 in
theorem m_node_k0c (l : Launch) (D : va_G) (cI cZ cJ : ClassId) (o : Nat) (q : Nat → Nat) (sz : Nat) (x2 : Int32) (x4 : Int32) (lo_x2 : (-999) ≤ x2) (hi_x2 : x2 ≤ 999) (ne_x4_0 : ¬ x4 = 0) : Met l yX9_node (uW yX9_node cX9_node 6 (some .int)) ({ frames := 2, cells := 0, slots := 0, locals := 46 }) (va_Pc [.ref o, .int 0, .int x2, .int 0, .int x4] (wS D (tyL cI cZ cJ) (mW o 0 q cI cZ) sz)) (wQi (0) D (mW o 1 q cI cZ) (va_A (mW o 0 q cI cZ) sz)) 0 0 (va_A (mW o 0 q cI cZ) sz) := by
  refine wStart (lv := [(0, .ref o), (1, .int 0), (2, .int x2), (3, .int 0), (4, .int x4)]) (Qc := fun A => wQi (0) D (mW o 1 q cI cZ) A) (by decide) (Nat.le_of_ble_eq_true rfl) rfl ?_
  intro p e s m args below meth c ls A H S hr hlocks hnm hl hK hP hD hS hA
  have hx := S.1
  have hb := S.2.1
  refine lv_aload_n hx hb dX9_node_0 rfl (lv_at hl 0 rfl) ?_
  refine lv_iconst (v := 0) hx hb dX9_node_1 (by decide) ?_
  refine xp (ci := 9) (v := .int 0) S inX9 tyX9 tyX9_ok nmX9 rfl hK hP hD hS mW_0 0 (by decide) kw_6_147 rfl rfl rfl rfl (Nat.le_of_ble_eq_true rfl) dX9_node_2 (fun H locs hP hD hS => ?_)
  have hP : va_P D vwCl (mW o 0 q cI cZ) H := hP
  have hD : va_D A (mW o 0 q cI cZ) := hD
  refine lv_iload_n hx hb dX9_node_5 rfl (lv_at hl 1 rfl) ?_
  refine lv_iconst (v := 0) hx hb dX9_node_6 (by decide) ?_
  refine lv_bipush (v := 21) hx hb dX9_node_7 (by decide) ?_
  refine rdS (As := [.int 0, .int 0, .int 21]) S (c_X9_isIn_31 l D cI cZ cJ o q) ms_X9_isIn kw_7_100 ⟨rfl, rfl⟩ ⟨Nat.le_of_ble_eq_true rfl, Nat.le_of_ble_eq_true rfl⟩ hP hK hl.1 (Nat.le_of_ble_eq_true rfl) ⟨Nat.le_of_ble_eq_true rfl, Nat.le_of_ble_eq_true rfl⟩ dX9_node_9 ?_
  refine lv_if_eq (tgt := 27) hx hb dX9_node_12 (by decide) (fun c => absurd c (by decide)) (fun _ => ?_)
  refine lv_aload_n hx hb dX9_node_15 rfl (lv_at hl 0 rfl) ?_
  refine lv_iload_n hx hb dX9_node_16 rfl (lv_at hl 1 rfl) ?_
  refine lv_iload_n hx hb dX9_node_17 rfl (lv_at hl 2 rfl) ?_
  refine lv_iload_n hx hb dX9_node_18 rfl (lv_at hl 3 rfl) ?_
  refine lv_iload hx hb dX9_node_19 (lv_at hl 4 rfl) ?_
  refine rdV (As := [.int 0, .int x2, .int 0, .int x4]) (ci := 9) S (c_X9_canBe_2 l D cI cZ cJ o q x2 x4 lo_x2 hi_x2 ne_x4_0) mi_X9_canBe kw_7_154 ⟨rfl, rfl⟩ ⟨Nat.le_of_ble_eq_true rfl, Nat.le_of_ble_eq_true rfl⟩ hP hK mW_0 rfl rfl hl.1 (Nat.le_of_ble_eq_true rfl) ⟨Nat.le_of_ble_eq_true rfl, Nat.le_of_ble_eq_true rfl⟩ dX9_node_21 ?_
  refine lv_if_ne (tgt := 33) hx hb dX9_node_24 (by decide) (fun c => absurd c (by decide)) (fun _ => ?_)
  refine lv_aload_n hx hb dX9_node_27 rfl (lv_at hl 0 rfl) ?_
  refine lv_iconst (v := 1) hx hb dX9_node_28 (by decide) ?_
  refine wrV (As := [.int 1]) (ci := 9) S (c_X9_no_0 l D cI cZ cJ o q H.size) mi_X9_no kw_7_103 rfl rfl ⟨Nat.le_of_ble_eq_true rfl, Nat.le_of_ble_eq_true rfl⟩ hP hD hK hS hA mW_0 rfl rfl hl.1 (Nat.le_of_ble_eq_true rfl) ⟨Nat.le_of_ble_eq_true rfl, Nat.le_of_ble_eq_true rfl⟩ dX9_node_29 (fun H locs hz hP hD hS => ?_)
  exact wEnd S hr hlocks hP hD hS (Nat.le_of_ble_eq_true rfl) (Nat.le_of_ble_eq_true rfl) dX9_node_32 rfl

set_option maxHeartbeats 8000000 in
set_option maxRecDepth 100000 in
theorem c_X9_canBe_3 (l : Launch) (D : va_G) (cI cZ cJ : ClassId) (o : Nat) (q : Nat → Nat) (x2 : Int32) (lo_x2 : (-999) ≤ x2) (hi_x2 : x2 ≤ 999) : Met l yX9_canBe (uW yX9_canBe cX9_canBe 5 (some .boolean)) ({ frames := 1, cells := 0, slots := 0, locals := 22 }) (va_Pc [.ref o, .int 0, .int x2, .int 0, .int 0] (pS D (tyL cI cZ cJ) (mW o 0 q cI cZ))) (QcRead (1)) 0 0 (fun _ => False) := by
  refine rdStart (lv := [(0, .ref o), (1, .int 0), (2, .int x2), (3, .int 0), (4, .int 0)]) (by decide) (Nat.le_of_ble_eq_true rfl) rfl ?_
  intro p e s m args below meth c ls S hr hlocks hl hP hK
  have hx := S.1
  have hb := S.2.1
  refine lv_iload_n hx hb dX9_canBe_0 rfl (lv_at hl 1 rfl) ?_
  refine lv_tableIn (off := 103) (tgt := 104) hx hb dX9_canBe_1 (by decide) (by decide) (by decide) (by decide) ?_
  refine lv_iload_n hx hb dX9_canBe_104 rfl (lv_at hl 2 rfl) ?_
  refine lv_sipush (v := (-999)) hx hb dX9_canBe_105 (by decide) ?_
  refine lv_sipush (v := 999) hx hb dX9_canBe_108 (by decide) ?_
  refine rdS (As := [.int x2, .int (-999), .int 999]) S (c_X9_isIn_33 l D cI cZ cJ o q x2 lo_x2 hi_x2) ms_X9_isIn kw_7_100 ⟨rfl, rfl⟩ ⟨Nat.le_of_ble_eq_true rfl, Nat.le_of_ble_eq_true rfl⟩ hP hK hl.1 (Nat.le_of_ble_eq_true rfl) ⟨Nat.le_of_ble_eq_true rfl, Nat.le_of_ble_eq_true rfl⟩ dX9_canBe_111 ?_
  refine lv_if_eq (tgt := 130) hx hb dX9_canBe_114 (by decide) (fun c => absurd c (by decide)) (fun _ => ?_)
  refine lv_iload_n hx hb dX9_canBe_117 rfl (lv_at hl 3 rfl) ?_
  refine lv_if_ne (tgt := 130) hx hb dX9_canBe_118 (by decide) (fun c => absurd c (by decide)) (fun _ => ?_)
  refine lv_iload hx hb dX9_canBe_121 (lv_at hl 4 rfl) ?_
  refine lv_if_ne (tgt := 130) hx hb dX9_canBe_123 (by decide) (fun c => absurd c (by decide)) (fun _ => ?_)
  refine lv_iconst (v := 1) hx hb dX9_canBe_126 (by decide) ?_
  refine lv_goto (tgt := 131) hx hb dX9_canBe_127 (by decide) ?_
  exact rdEndZ S hr hlocks dX9_canBe_131 rfl rfl

set_option maxHeartbeats 8000000 in
set_option maxRecDepth 100000 in
theorem c_X9_parts_0 (l : Launch) (D : va_G) (cI cZ cJ : ClassId) (o : Nat) (q : Nat → Nat) (x2 : Int32) (lo_x2 : (-999) ≤ x2) (hi_x2 : x2 ≤ 999) : Met l yX9_parts (uW yX9_parts cX9_parts 1 (some .int)) ({ frames := 0, cells := 0, slots := 0, locals := 0 }) (va_Pc [.int 0] (pS D (tyL cI cZ cJ) (((((((mW o 0 q cI cZ).set 12 ((q 11), .inl (cI, 110, .inl (upd (fun _ => 0) (0 : Int32).toNatClampNeg 0)))).set 13 ((q 12), .inl (cI, 110, .inl (upd (fun _ => 0) (0 : Int32).toNatClampNeg x2)))).set 14 ((q 13), .inl (cI, 110, .inl (upd (fun _ => 0) (0 : Int32).toNatClampNeg 0)))).set 15 ((q 14), .inl (cI, 110, .inl (upd (fun _ => 0) (0 : Int32).toNatClampNeg 0)))).set 16 ((q 15), .inl (cI, 110, .inl (upd (fun _ => 0) (0 : Int32).toNatClampNeg (-1))))).set 17 ((q 16), .inl (cI, 110, .inl (upd (fun _ => 0) (0 : Int32).toNatClampNeg (-1))))))) (QcRead (0)) 0 0 (fun _ => False) := by
  refine rdStart (lv := [(0, .int 0)]) (by decide) (Nat.le_of_ble_eq_true rfl) rfl ?_
  intro p e s m args below meth c ls S hr hlocks hl hP hK
  have hx := S.1
  have hb := S.2.1
  refine lv_iload_n hx hb dX9_parts_0 rfl (lv_at hl 0 rfl) ?_
  refine lv_tableIn (off := 103) (tgt := 104) hx hb dX9_parts_1 (by decide) (by decide) (by decide) (by decide) ?_
  refine lv_iconst (v := 0) hx hb dX9_parts_104 (by decide) ?_
  exact rdEnd S hr hlocks dX9_parts_105 rfl

set_option maxHeartbeats 8000000 in
set_option maxRecDepth 100000 in
theorem c_X9_has_0 (l : Launch) (D : va_G) (cI cZ cJ : ClassId) (o : Nat) (q : Nat → Nat) (x2 : Int32) (lo_x2 : (-999) ≤ x2) (hi_x2 : x2 ≤ 999) : Met l yX9_has (uW yX9_has cX9_has 2 (some .boolean)) ({ frames := 0, cells := 0, slots := 0, locals := 0 }) (va_Pc [.int 0, .int 0] (pS D (tyL cI cZ cJ) (((((((mW o 0 q cI cZ).set 12 ((q 11), .inl (cI, 110, .inl (upd (fun _ => 0) (0 : Int32).toNatClampNeg 0)))).set 13 ((q 12), .inl (cI, 110, .inl (upd (fun _ => 0) (0 : Int32).toNatClampNeg x2)))).set 14 ((q 13), .inl (cI, 110, .inl (upd (fun _ => 0) (0 : Int32).toNatClampNeg 0)))).set 15 ((q 14), .inl (cI, 110, .inl (upd (fun _ => 0) (0 : Int32).toNatClampNeg 0)))).set 16 ((q 15), .inl (cI, 110, .inl (upd (fun _ => 0) (0 : Int32).toNatClampNeg (-1))))).set 17 ((q 16), .inl (cI, 110, .inl (upd (fun _ => 0) (0 : Int32).toNatClampNeg (-1))))))) (QcRead (0)) 0 0 (fun _ => False) := by
  refine rdStart (lv := [(0, .int 0), (1, .int 0)]) (by decide) (Nat.le_of_ble_eq_true rfl) rfl ?_
  intro p e s m args below meth c ls S hr hlocks hl hP hK
  have hx := S.1
  have hb := S.2.1
  refine lv_iload_n hx hb dX9_has_0 rfl (lv_at hl 0 rfl) ?_
  refine lv_iload_n hx hb dX9_has_1 rfl (lv_at hl 1 rfl) ?_
  refine xishr (v := 0) S dX9_has_2 (by decide) ?_
  refine lv_iconst (v := 1) hx hb dX9_has_3 (by decide) ?_
  refine xiand (v := 0) S dX9_has_4 (by decide) ?_
  refine lv_iconst (v := 1) hx hb dX9_has_5 (by decide) ?_
  refine lv_icmp_ne (tgt := 13) hx hb dX9_has_6 (by decide) (fun _ => ?_) (fun c => absurd c (by decide))
  refine lv_iconst (v := 0) hx hb dX9_has_13 (by decide) ?_
  exact rdEndZ S hr hlocks dX9_has_14 rfl rfl

set_option maxHeartbeats 8000000 in
set_option maxRecDepth 100000 in
theorem c_X9_part_0 (l : Launch) (D : va_G) (cI cZ cJ : ClassId) (o : Nat) (q : Nat → Nat) (x2 : Int32) (lo_x2 : (-999) ≤ x2) (hi_x2 : x2 ≤ 999) : Met l yX9_part (uW yX9_part cX9_part 3 (some .int)) ({ frames := 1, cells := 0, slots := 0, locals := 21 }) (va_Pc [.ref o, .int 0, .int 0] (pS D (tyL cI cZ cJ) (((((((mW o 0 q cI cZ).set 12 ((q 11), .inl (cI, 110, .inl (upd (fun _ => 0) (0 : Int32).toNatClampNeg 0)))).set 13 ((q 12), .inl (cI, 110, .inl (upd (fun _ => 0) (0 : Int32).toNatClampNeg x2)))).set 14 ((q 13), .inl (cI, 110, .inl (upd (fun _ => 0) (0 : Int32).toNatClampNeg 0)))).set 15 ((q 14), .inl (cI, 110, .inl (upd (fun _ => 0) (0 : Int32).toNatClampNeg 0)))).set 16 ((q 15), .inl (cI, 110, .inl (upd (fun _ => 0) (0 : Int32).toNatClampNeg (-1))))).set 17 ((q 16), .inl (cI, 110, .inl (upd (fun _ => 0) (0 : Int32).toNatClampNeg (-1))))))) (QcRead ((-1))) 0 0 (fun _ => False) := by
  refine rdStart (lv := [(0, .ref o), (1, .int 0), (2, .int 0)]) (by decide) (Nat.le_of_ble_eq_true rfl) rfl ?_
  intro p e s m args below meth c ls S hr hlocks hl hP hK
  have hx := S.1
  have hb := S.2.1
  refine lv_aload_n hx hb dX9_part_0 rfl (lv_at hl 0 rfl) ?_
  refine xg (ci := 9) S inX9 rfl hK hP (q0 := 0) rfl 14 (by decide) mF_14 kw_6_161 rfl dX9_part_1 ?_
  refine lv_iload_n hx hb dX9_part_4 rfl (lv_at hl 1 rfl) ?_
  refine xiald (t0 := 0) (v := 0) S hK hP (q0 := 12) rfl rfl (vin rfl) rfl dX9_part_5 ?_
  refine rdS (As := [.int 0]) S (c_X9_parts_0 l D cI cZ cJ o q x2 lo_x2 hi_x2) ms_X9_parts kw_7_188 ⟨rfl, rfl⟩ ⟨Nat.le_of_ble_eq_true rfl, Nat.le_of_ble_eq_true rfl⟩ hP hK hl.1 (Nat.le_of_ble_eq_true rfl) ⟨Nat.le_of_ble_eq_true rfl, Nat.le_of_ble_eq_true rfl⟩ dX9_part_6 ?_
  refine lv_iload_n hx hb dX9_part_9 rfl (lv_at hl 2 rfl) ?_
  refine rdS (As := [.int 0, .int 0]) S (c_X9_has_0 l D cI cZ cJ o q x2 lo_x2 hi_x2) ms_X9_has kw_7_191 ⟨rfl, rfl⟩ ⟨Nat.le_of_ble_eq_true rfl, Nat.le_of_ble_eq_true rfl⟩ hP hK hl.1 (Nat.le_of_ble_eq_true rfl) ⟨Nat.le_of_ble_eq_true rfl, Nat.le_of_ble_eq_true rfl⟩ dX9_part_10 ?_
  refine lv_if_ne (tgt := 18) hx hb dX9_part_13 (by decide) (fun c => absurd c (by decide)) (fun _ => ?_)
  refine lv_iconst (v := (-1)) hx hb dX9_part_16 (by decide) ?_
  exact rdEnd S hr hlocks dX9_part_17 rfl

set_option maxHeartbeats 8000000 in
set_option maxRecDepth 100000 in
theorem c_X9_has_1 (l : Launch) (D : va_G) (cI cZ cJ : ClassId) (o : Nat) (q : Nat → Nat) (x2 : Int32) (lo_x2 : (-999) ≤ x2) (hi_x2 : x2 ≤ 999) : Met l yX9_has (uW yX9_has cX9_has 2 (some .boolean)) ({ frames := 0, cells := 0, slots := 0, locals := 0 }) (va_Pc [.int 0, .int 1] (pS D (tyL cI cZ cJ) (((((((mW o 0 q cI cZ).set 12 ((q 11), .inl (cI, 110, .inl (upd (fun _ => 0) (0 : Int32).toNatClampNeg 0)))).set 13 ((q 12), .inl (cI, 110, .inl (upd (fun _ => 0) (0 : Int32).toNatClampNeg x2)))).set 14 ((q 13), .inl (cI, 110, .inl (upd (fun _ => 0) (0 : Int32).toNatClampNeg 0)))).set 15 ((q 14), .inl (cI, 110, .inl (upd (fun _ => 0) (0 : Int32).toNatClampNeg 0)))).set 16 ((q 15), .inl (cI, 110, .inl (upd (fun _ => 0) (0 : Int32).toNatClampNeg (-1))))).set 17 ((q 16), .inl (cI, 110, .inl (upd (fun _ => 0) (0 : Int32).toNatClampNeg (-1))))))) (QcRead (0)) 0 0 (fun _ => False) := by
  refine rdStart (lv := [(0, .int 0), (1, .int 1)]) (by decide) (Nat.le_of_ble_eq_true rfl) rfl ?_
  intro p e s m args below meth c ls S hr hlocks hl hP hK
  have hx := S.1
  have hb := S.2.1
  refine lv_iload_n hx hb dX9_has_0 rfl (lv_at hl 0 rfl) ?_
  refine lv_iload_n hx hb dX9_has_1 rfl (lv_at hl 1 rfl) ?_
  refine xishr (v := 0) S dX9_has_2 (by decide) ?_
  refine lv_iconst (v := 1) hx hb dX9_has_3 (by decide) ?_
  refine xiand (v := 0) S dX9_has_4 (by decide) ?_
  refine lv_iconst (v := 1) hx hb dX9_has_5 (by decide) ?_
  refine lv_icmp_ne (tgt := 13) hx hb dX9_has_6 (by decide) (fun _ => ?_) (fun c => absurd c (by decide))
  refine lv_iconst (v := 0) hx hb dX9_has_13 (by decide) ?_
  exact rdEndZ S hr hlocks dX9_has_14 rfl rfl

set_option maxHeartbeats 8000000 in
set_option maxRecDepth 100000 in
theorem c_X9_part_1 (l : Launch) (D : va_G) (cI cZ cJ : ClassId) (o : Nat) (q : Nat → Nat) (x2 : Int32) (lo_x2 : (-999) ≤ x2) (hi_x2 : x2 ≤ 999) : Met l yX9_part (uW yX9_part cX9_part 3 (some .int)) ({ frames := 1, cells := 0, slots := 0, locals := 21 }) (va_Pc [.ref o, .int 0, .int 1] (pS D (tyL cI cZ cJ) (((((((mW o 0 q cI cZ).set 12 ((q 11), .inl (cI, 110, .inl (upd (fun _ => 0) (0 : Int32).toNatClampNeg 0)))).set 13 ((q 12), .inl (cI, 110, .inl (upd (fun _ => 0) (0 : Int32).toNatClampNeg x2)))).set 14 ((q 13), .inl (cI, 110, .inl (upd (fun _ => 0) (0 : Int32).toNatClampNeg 0)))).set 15 ((q 14), .inl (cI, 110, .inl (upd (fun _ => 0) (0 : Int32).toNatClampNeg 0)))).set 16 ((q 15), .inl (cI, 110, .inl (upd (fun _ => 0) (0 : Int32).toNatClampNeg (-1))))).set 17 ((q 16), .inl (cI, 110, .inl (upd (fun _ => 0) (0 : Int32).toNatClampNeg (-1))))))) (QcRead ((-1))) 0 0 (fun _ => False) := by
  refine rdStart (lv := [(0, .ref o), (1, .int 0), (2, .int 1)]) (by decide) (Nat.le_of_ble_eq_true rfl) rfl ?_
  intro p e s m args below meth c ls S hr hlocks hl hP hK
  have hx := S.1
  have hb := S.2.1
  refine lv_aload_n hx hb dX9_part_0 rfl (lv_at hl 0 rfl) ?_
  refine xg (ci := 9) S inX9 rfl hK hP (q0 := 0) rfl 14 (by decide) mF_14 kw_6_161 rfl dX9_part_1 ?_
  refine lv_iload_n hx hb dX9_part_4 rfl (lv_at hl 1 rfl) ?_
  refine xiald (t0 := 0) (v := 0) S hK hP (q0 := 12) rfl rfl (vin rfl) rfl dX9_part_5 ?_
  refine rdS (As := [.int 0]) S (c_X9_parts_0 l D cI cZ cJ o q x2 lo_x2 hi_x2) ms_X9_parts kw_7_188 ⟨rfl, rfl⟩ ⟨Nat.le_of_ble_eq_true rfl, Nat.le_of_ble_eq_true rfl⟩ hP hK hl.1 (Nat.le_of_ble_eq_true rfl) ⟨Nat.le_of_ble_eq_true rfl, Nat.le_of_ble_eq_true rfl⟩ dX9_part_6 ?_
  refine lv_iload_n hx hb dX9_part_9 rfl (lv_at hl 2 rfl) ?_
  refine rdS (As := [.int 0, .int 1]) S (c_X9_has_1 l D cI cZ cJ o q x2 lo_x2 hi_x2) ms_X9_has kw_7_191 ⟨rfl, rfl⟩ ⟨Nat.le_of_ble_eq_true rfl, Nat.le_of_ble_eq_true rfl⟩ hP hK hl.1 (Nat.le_of_ble_eq_true rfl) ⟨Nat.le_of_ble_eq_true rfl, Nat.le_of_ble_eq_true rfl⟩ dX9_part_10 ?_
  refine lv_if_ne (tgt := 18) hx hb dX9_part_13 (by decide) (fun c => absurd c (by decide)) (fun _ => ?_)
  refine lv_iconst (v := (-1)) hx hb dX9_part_16 (by decide) ?_
  exact rdEnd S hr hlocks dX9_part_17 rfl

set_option maxHeartbeats 8000000 in
set_option maxRecDepth 100000 in
theorem c_X9_has_2 (l : Launch) (D : va_G) (cI cZ cJ : ClassId) (o : Nat) (q : Nat → Nat) (x2 : Int32) (lo_x2 : (-999) ≤ x2) (hi_x2 : x2 ≤ 999) : Met l yX9_has (uW yX9_has cX9_has 2 (some .boolean)) ({ frames := 0, cells := 0, slots := 0, locals := 0 }) (va_Pc [.int 0, .int 2] (pS D (tyL cI cZ cJ) (((((((mW o 0 q cI cZ).set 12 ((q 11), .inl (cI, 110, .inl (upd (fun _ => 0) (0 : Int32).toNatClampNeg 0)))).set 13 ((q 12), .inl (cI, 110, .inl (upd (fun _ => 0) (0 : Int32).toNatClampNeg x2)))).set 14 ((q 13), .inl (cI, 110, .inl (upd (fun _ => 0) (0 : Int32).toNatClampNeg 0)))).set 15 ((q 14), .inl (cI, 110, .inl (upd (fun _ => 0) (0 : Int32).toNatClampNeg 0)))).set 16 ((q 15), .inl (cI, 110, .inl (upd (fun _ => 0) (0 : Int32).toNatClampNeg (-1))))).set 17 ((q 16), .inl (cI, 110, .inl (upd (fun _ => 0) (0 : Int32).toNatClampNeg (-1))))))) (QcRead (0)) 0 0 (fun _ => False) := by
  refine rdStart (lv := [(0, .int 0), (1, .int 2)]) (by decide) (Nat.le_of_ble_eq_true rfl) rfl ?_
  intro p e s m args below meth c ls S hr hlocks hl hP hK
  have hx := S.1
  have hb := S.2.1
  refine lv_iload_n hx hb dX9_has_0 rfl (lv_at hl 0 rfl) ?_
  refine lv_iload_n hx hb dX9_has_1 rfl (lv_at hl 1 rfl) ?_
  refine xishr (v := 0) S dX9_has_2 (by decide) ?_
  refine lv_iconst (v := 1) hx hb dX9_has_3 (by decide) ?_
  refine xiand (v := 0) S dX9_has_4 (by decide) ?_
  refine lv_iconst (v := 1) hx hb dX9_has_5 (by decide) ?_
  refine lv_icmp_ne (tgt := 13) hx hb dX9_has_6 (by decide) (fun _ => ?_) (fun c => absurd c (by decide))
  refine lv_iconst (v := 0) hx hb dX9_has_13 (by decide) ?_
  exact rdEndZ S hr hlocks dX9_has_14 rfl rfl

set_option maxHeartbeats 8000000 in
set_option maxRecDepth 100000 in
theorem c_X9_part_2 (l : Launch) (D : va_G) (cI cZ cJ : ClassId) (o : Nat) (q : Nat → Nat) (x2 : Int32) (lo_x2 : (-999) ≤ x2) (hi_x2 : x2 ≤ 999) : Met l yX9_part (uW yX9_part cX9_part 3 (some .int)) ({ frames := 1, cells := 0, slots := 0, locals := 21 }) (va_Pc [.ref o, .int 0, .int 2] (pS D (tyL cI cZ cJ) (((((((mW o 0 q cI cZ).set 12 ((q 11), .inl (cI, 110, .inl (upd (fun _ => 0) (0 : Int32).toNatClampNeg 0)))).set 13 ((q 12), .inl (cI, 110, .inl (upd (fun _ => 0) (0 : Int32).toNatClampNeg x2)))).set 14 ((q 13), .inl (cI, 110, .inl (upd (fun _ => 0) (0 : Int32).toNatClampNeg 0)))).set 15 ((q 14), .inl (cI, 110, .inl (upd (fun _ => 0) (0 : Int32).toNatClampNeg 0)))).set 16 ((q 15), .inl (cI, 110, .inl (upd (fun _ => 0) (0 : Int32).toNatClampNeg (-1))))).set 17 ((q 16), .inl (cI, 110, .inl (upd (fun _ => 0) (0 : Int32).toNatClampNeg (-1))))))) (QcRead ((-1))) 0 0 (fun _ => False) := by
  refine rdStart (lv := [(0, .ref o), (1, .int 0), (2, .int 2)]) (by decide) (Nat.le_of_ble_eq_true rfl) rfl ?_
  intro p e s m args below meth c ls S hr hlocks hl hP hK
  have hx := S.1
  have hb := S.2.1
  refine lv_aload_n hx hb dX9_part_0 rfl (lv_at hl 0 rfl) ?_
  refine xg (ci := 9) S inX9 rfl hK hP (q0 := 0) rfl 14 (by decide) mF_14 kw_6_161 rfl dX9_part_1 ?_
  refine lv_iload_n hx hb dX9_part_4 rfl (lv_at hl 1 rfl) ?_
  refine xiald (t0 := 0) (v := 0) S hK hP (q0 := 12) rfl rfl (vin rfl) rfl dX9_part_5 ?_
  refine rdS (As := [.int 0]) S (c_X9_parts_0 l D cI cZ cJ o q x2 lo_x2 hi_x2) ms_X9_parts kw_7_188 ⟨rfl, rfl⟩ ⟨Nat.le_of_ble_eq_true rfl, Nat.le_of_ble_eq_true rfl⟩ hP hK hl.1 (Nat.le_of_ble_eq_true rfl) ⟨Nat.le_of_ble_eq_true rfl, Nat.le_of_ble_eq_true rfl⟩ dX9_part_6 ?_
  refine lv_iload_n hx hb dX9_part_9 rfl (lv_at hl 2 rfl) ?_
  refine rdS (As := [.int 0, .int 2]) S (c_X9_has_2 l D cI cZ cJ o q x2 lo_x2 hi_x2) ms_X9_has kw_7_191 ⟨rfl, rfl⟩ ⟨Nat.le_of_ble_eq_true rfl, Nat.le_of_ble_eq_true rfl⟩ hP hK hl.1 (Nat.le_of_ble_eq_true rfl) ⟨Nat.le_of_ble_eq_true rfl, Nat.le_of_ble_eq_true rfl⟩ dX9_part_10 ?_
  refine lv_if_ne (tgt := 18) hx hb dX9_part_13 (by decide) (fun c => absurd c (by decide)) (fun _ => ?_)
  refine lv_iconst (v := (-1)) hx hb dX9_part_16 (by decide) ?_
  exact rdEnd S hr hlocks dX9_part_17 rfl

set_option maxHeartbeats 8000000 in
set_option maxRecDepth 100000 in
theorem m_node_k0 (l : Launch) (D : va_G) (cI cZ cJ : ClassId) (o : Nat) (q : Nat → Nat) (sz : Nat) (x2 : Int32) (lo_x2 : (-999) ≤ x2) (hi_x2 : x2 ≤ 999) : Met l yX9_node (uW yX9_node cX9_node 6 (some .int)) ({ frames := 2, cells := 0, slots := 0, locals := 46 }) (va_Pc [.ref o, .int 0, .int x2, .int 0, .int 0] (wS D (tyL cI cZ cJ) (mW o 0 q cI cZ) sz)) (wQi (0) D ((((((((mW o 0 q cI cZ).set 0 (o, .inr (9, ((mF 0 q).set 13 (.int 1))))).set 12 ((q 11), .inl (cI, 110, .inl (upd (fun _ => 0) (0 : Int32).toNatClampNeg 0)))).set 13 ((q 12), .inl (cI, 110, .inl (upd (fun _ => 0) (0 : Int32).toNatClampNeg x2)))).set 14 ((q 13), .inl (cI, 110, .inl (upd (fun _ => 0) (0 : Int32).toNatClampNeg 0)))).set 15 ((q 14), .inl (cI, 110, .inl (upd (fun _ => 0) (0 : Int32).toNatClampNeg 0)))).set 16 ((q 15), .inl (cI, 110, .inl (upd (fun _ => 0) (0 : Int32).toNatClampNeg (-1))))).set 17 ((q 16), .inl (cI, 110, .inl (upd (fun _ => 0) (0 : Int32).toNatClampNeg (-1))))) (va_A (mW o 0 q cI cZ) sz)) 0 0 (va_A (mW o 0 q cI cZ) sz) := by
  refine wStart (lv := [(0, .ref o), (1, .int 0), (2, .int x2), (3, .int 0), (4, .int 0)]) (Qc := fun A => wQi (0) D ((((((((mW o 0 q cI cZ).set 0 (o, .inr (9, ((mF 0 q).set 13 (.int 1))))).set 12 ((q 11), .inl (cI, 110, .inl (upd (fun _ => 0) (0 : Int32).toNatClampNeg 0)))).set 13 ((q 12), .inl (cI, 110, .inl (upd (fun _ => 0) (0 : Int32).toNatClampNeg x2)))).set 14 ((q 13), .inl (cI, 110, .inl (upd (fun _ => 0) (0 : Int32).toNatClampNeg 0)))).set 15 ((q 14), .inl (cI, 110, .inl (upd (fun _ => 0) (0 : Int32).toNatClampNeg 0)))).set 16 ((q 15), .inl (cI, 110, .inl (upd (fun _ => 0) (0 : Int32).toNatClampNeg (-1))))).set 17 ((q 16), .inl (cI, 110, .inl (upd (fun _ => 0) (0 : Int32).toNatClampNeg (-1))))) A) (by decide) (Nat.le_of_ble_eq_true rfl) rfl ?_
  intro p e s m args below meth c ls A H S hr hlocks hnm hl hK hP hD hS hA
  have hx := S.1
  have hb := S.2.1
  refine lv_aload_n hx hb dX9_node_0 rfl (lv_at hl 0 rfl) ?_
  refine lv_iconst (v := 0) hx hb dX9_node_1 (by decide) ?_
  refine xp (ci := 9) (v := .int 0) S inX9 tyX9 tyX9_ok nmX9 rfl hK hP hD hS mW_0 0 (by decide) kw_6_147 rfl rfl rfl rfl (Nat.le_of_ble_eq_true rfl) dX9_node_2 (fun H locs hP hD hS => ?_)
  have hP : va_P D vwCl (mW o 0 q cI cZ) H := hP
  have hD : va_D A (mW o 0 q cI cZ) := hD
  refine lv_iload_n hx hb dX9_node_5 rfl (lv_at hl 1 rfl) ?_
  refine lv_iconst (v := 0) hx hb dX9_node_6 (by decide) ?_
  refine lv_bipush (v := 21) hx hb dX9_node_7 (by decide) ?_
  refine rdS (As := [.int 0, .int 0, .int 21]) S (c_X9_isIn_31 l D cI cZ cJ o q) ms_X9_isIn kw_7_100 ⟨rfl, rfl⟩ ⟨Nat.le_of_ble_eq_true rfl, Nat.le_of_ble_eq_true rfl⟩ hP hK hl.1 (Nat.le_of_ble_eq_true rfl) ⟨Nat.le_of_ble_eq_true rfl, Nat.le_of_ble_eq_true rfl⟩ dX9_node_9 ?_
  refine lv_if_eq (tgt := 27) hx hb dX9_node_12 (by decide) (fun c => absurd c (by decide)) (fun _ => ?_)
  refine lv_aload_n hx hb dX9_node_15 rfl (lv_at hl 0 rfl) ?_
  refine lv_iload_n hx hb dX9_node_16 rfl (lv_at hl 1 rfl) ?_
  refine lv_iload_n hx hb dX9_node_17 rfl (lv_at hl 2 rfl) ?_
  refine lv_iload_n hx hb dX9_node_18 rfl (lv_at hl 3 rfl) ?_
  refine lv_iload hx hb dX9_node_19 (lv_at hl 4 rfl) ?_
  refine rdV (As := [.int 0, .int x2, .int 0, .int 0]) (ci := 9) S (c_X9_canBe_3 l D cI cZ cJ o q x2 lo_x2 hi_x2) mi_X9_canBe kw_7_154 ⟨rfl, rfl⟩ ⟨Nat.le_of_ble_eq_true rfl, Nat.le_of_ble_eq_true rfl⟩ hP hK mW_0 rfl rfl hl.1 (Nat.le_of_ble_eq_true rfl) ⟨Nat.le_of_ble_eq_true rfl, Nat.le_of_ble_eq_true rfl⟩ dX9_node_21 ?_
  refine lv_if_ne (tgt := 33) hx hb dX9_node_24 (by decide) (fun _ => ?_) (fun c => absurd c (by decide))
  refine lv_aload_n hx hb dX9_node_33 rfl (lv_at hl 0 rfl) ?_
  refine xg (ci := 9) S inX9 rfl hK hP mW_0 13 (by decide) mF_13 kw_6_160 rfl dX9_node_34 ?_
  refine lv_bipush (v := 110) hx hb dX9_node_37 (by decide) ?_
  refine lv_icmp_ne (tgt := 48) hx hb dX9_node_39 (by decide) (fun _ => ?_) (fun c => absurd c (by decide))
  refine lv_aload_n hx hb dX9_node_48 rfl (lv_at hl 0 rfl) ?_
  refine xg (ci := 9) S inX9 rfl hK hP mW_0 14 (by decide) mF_14 kw_6_161 rfl dX9_node_49 ?_
  refine lv_aload_n hx hb dX9_node_52 rfl (lv_at hl 0 rfl) ?_
  refine xg (ci := 9) S inX9 rfl hK hP mW_0 13 (by decide) mF_13 kw_6_160 rfl dX9_node_53 ?_
  refine lv_iload_n hx hb dX9_node_56 rfl (lv_at hl 1 rfl) ?_
  refine xiast (t0 := 0) S hK hP hD hS mW_12 rfl (vin rfl) dX9_node_57 (fun H locs hP hD hS => ?_)
  have hP : va_P D vwCl ((mW o 0 q cI cZ).set 12 ((q 11), .inl (cI, 110, .inl (upd (fun _ => 0) (0 : Int32).toNatClampNeg 0)))) H := hP
  have hD : va_D A ((mW o 0 q cI cZ).set 12 ((q 11), .inl (cI, 110, .inl (upd (fun _ => 0) (0 : Int32).toNatClampNeg 0)))) := hD
  refine lv_aload_n hx hb dX9_node_58 rfl (lv_at hl 0 rfl) ?_
  refine xg (ci := 9) S inX9 rfl hK hP (q0 := 0) rfl 15 (by decide) mF_15 kw_6_162 rfl dX9_node_59 ?_
  refine lv_aload_n hx hb dX9_node_62 rfl (lv_at hl 0 rfl) ?_
  refine xg (ci := 9) S inX9 rfl hK hP (q0 := 0) rfl 13 (by decide) mF_13 kw_6_160 rfl dX9_node_63 ?_
  refine lv_iload_n hx hb dX9_node_66 rfl (lv_at hl 2 rfl) ?_
  refine xiast (t0 := 0) S hK hP hD hS (q0 := 13) rfl rfl (vin rfl) dX9_node_67 (fun H locs hP hD hS => ?_)
  have hP : va_P D vwCl (((mW o 0 q cI cZ).set 12 ((q 11), .inl (cI, 110, .inl (upd (fun _ => 0) (0 : Int32).toNatClampNeg 0)))).set 13 ((q 12), .inl (cI, 110, .inl (upd (fun _ => 0) (0 : Int32).toNatClampNeg x2)))) H := hP
  have hD : va_D A (((mW o 0 q cI cZ).set 12 ((q 11), .inl (cI, 110, .inl (upd (fun _ => 0) (0 : Int32).toNatClampNeg 0)))).set 13 ((q 12), .inl (cI, 110, .inl (upd (fun _ => 0) (0 : Int32).toNatClampNeg x2)))) := hD
  refine lv_aload_n hx hb dX9_node_68 rfl (lv_at hl 0 rfl) ?_
  refine xg (ci := 9) S inX9 rfl hK hP (q0 := 0) rfl 16 (by decide) mF_16 kw_6_163 rfl dX9_node_69 ?_
  refine lv_aload_n hx hb dX9_node_72 rfl (lv_at hl 0 rfl) ?_
  refine xg (ci := 9) S inX9 rfl hK hP (q0 := 0) rfl 13 (by decide) mF_13 kw_6_160 rfl dX9_node_73 ?_
  refine lv_iload_n hx hb dX9_node_76 rfl (lv_at hl 3 rfl) ?_
  refine xiast (t0 := 0) S hK hP hD hS (q0 := 14) rfl rfl (vin rfl) dX9_node_77 (fun H locs hP hD hS => ?_)
  have hP : va_P D vwCl ((((mW o 0 q cI cZ).set 12 ((q 11), .inl (cI, 110, .inl (upd (fun _ => 0) (0 : Int32).toNatClampNeg 0)))).set 13 ((q 12), .inl (cI, 110, .inl (upd (fun _ => 0) (0 : Int32).toNatClampNeg x2)))).set 14 ((q 13), .inl (cI, 110, .inl (upd (fun _ => 0) (0 : Int32).toNatClampNeg 0)))) H := hP
  have hD : va_D A ((((mW o 0 q cI cZ).set 12 ((q 11), .inl (cI, 110, .inl (upd (fun _ => 0) (0 : Int32).toNatClampNeg 0)))).set 13 ((q 12), .inl (cI, 110, .inl (upd (fun _ => 0) (0 : Int32).toNatClampNeg x2)))).set 14 ((q 13), .inl (cI, 110, .inl (upd (fun _ => 0) (0 : Int32).toNatClampNeg 0)))) := hD
  refine lv_aload_n hx hb dX9_node_78 rfl (lv_at hl 0 rfl) ?_
  refine xg (ci := 9) S inX9 rfl hK hP (q0 := 0) rfl 17 (by decide) mF_17 kw_6_164 rfl dX9_node_79 ?_
  refine lv_aload_n hx hb dX9_node_82 rfl (lv_at hl 0 rfl) ?_
  refine xg (ci := 9) S inX9 rfl hK hP (q0 := 0) rfl 13 (by decide) mF_13 kw_6_160 rfl dX9_node_83 ?_
  refine lv_iload hx hb dX9_node_86 (lv_at hl 4 rfl) ?_
  refine xiast (t0 := 0) S hK hP hD hS (q0 := 15) rfl rfl (vin rfl) dX9_node_88 (fun H locs hP hD hS => ?_)
  have hP : va_P D vwCl (((((mW o 0 q cI cZ).set 12 ((q 11), .inl (cI, 110, .inl (upd (fun _ => 0) (0 : Int32).toNatClampNeg 0)))).set 13 ((q 12), .inl (cI, 110, .inl (upd (fun _ => 0) (0 : Int32).toNatClampNeg x2)))).set 14 ((q 13), .inl (cI, 110, .inl (upd (fun _ => 0) (0 : Int32).toNatClampNeg 0)))).set 15 ((q 14), .inl (cI, 110, .inl (upd (fun _ => 0) (0 : Int32).toNatClampNeg 0)))) H := hP
  have hD : va_D A (((((mW o 0 q cI cZ).set 12 ((q 11), .inl (cI, 110, .inl (upd (fun _ => 0) (0 : Int32).toNatClampNeg 0)))).set 13 ((q 12), .inl (cI, 110, .inl (upd (fun _ => 0) (0 : Int32).toNatClampNeg x2)))).set 14 ((q 13), .inl (cI, 110, .inl (upd (fun _ => 0) (0 : Int32).toNatClampNeg 0)))).set 15 ((q 14), .inl (cI, 110, .inl (upd (fun _ => 0) (0 : Int32).toNatClampNeg 0)))) := hD
  refine lv_aload_n hx hb dX9_node_89 rfl (lv_at hl 0 rfl) ?_
  refine xg (ci := 9) S inX9 rfl hK hP (q0 := 0) rfl 18 (by decide) mF_18 kw_6_165 rfl dX9_node_90 ?_
  refine lv_aload_n hx hb dX9_node_93 rfl (lv_at hl 0 rfl) ?_
  refine xg (ci := 9) S inX9 rfl hK hP (q0 := 0) rfl 13 (by decide) mF_13 kw_6_160 rfl dX9_node_94 ?_
  refine lv_iconst (v := (-1)) hx hb dX9_node_97 (by decide) ?_
  refine xiast (t0 := 0) S hK hP hD hS (q0 := 16) rfl rfl (vin rfl) dX9_node_98 (fun H locs hP hD hS => ?_)
  have hP : va_P D vwCl ((((((mW o 0 q cI cZ).set 12 ((q 11), .inl (cI, 110, .inl (upd (fun _ => 0) (0 : Int32).toNatClampNeg 0)))).set 13 ((q 12), .inl (cI, 110, .inl (upd (fun _ => 0) (0 : Int32).toNatClampNeg x2)))).set 14 ((q 13), .inl (cI, 110, .inl (upd (fun _ => 0) (0 : Int32).toNatClampNeg 0)))).set 15 ((q 14), .inl (cI, 110, .inl (upd (fun _ => 0) (0 : Int32).toNatClampNeg 0)))).set 16 ((q 15), .inl (cI, 110, .inl (upd (fun _ => 0) (0 : Int32).toNatClampNeg (-1))))) H := hP
  have hD : va_D A ((((((mW o 0 q cI cZ).set 12 ((q 11), .inl (cI, 110, .inl (upd (fun _ => 0) (0 : Int32).toNatClampNeg 0)))).set 13 ((q 12), .inl (cI, 110, .inl (upd (fun _ => 0) (0 : Int32).toNatClampNeg x2)))).set 14 ((q 13), .inl (cI, 110, .inl (upd (fun _ => 0) (0 : Int32).toNatClampNeg 0)))).set 15 ((q 14), .inl (cI, 110, .inl (upd (fun _ => 0) (0 : Int32).toNatClampNeg 0)))).set 16 ((q 15), .inl (cI, 110, .inl (upd (fun _ => 0) (0 : Int32).toNatClampNeg (-1))))) := hD
  refine lv_aload_n hx hb dX9_node_99 rfl (lv_at hl 0 rfl) ?_
  refine xg (ci := 9) S inX9 rfl hK hP (q0 := 0) rfl 19 (by decide) mF_19 kw_6_166 rfl dX9_node_100 ?_
  refine lv_aload_n hx hb dX9_node_103 rfl (lv_at hl 0 rfl) ?_
  refine xg (ci := 9) S inX9 rfl hK hP (q0 := 0) rfl 13 (by decide) mF_13 kw_6_160 rfl dX9_node_104 ?_
  refine lv_iconst (v := (-1)) hx hb dX9_node_107 (by decide) ?_
  refine xiast (t0 := 0) S hK hP hD hS (q0 := 17) rfl rfl (vin rfl) dX9_node_108 (fun H locs hP hD hS => ?_)
  have hP : va_P D vwCl (((((((mW o 0 q cI cZ).set 12 ((q 11), .inl (cI, 110, .inl (upd (fun _ => 0) (0 : Int32).toNatClampNeg 0)))).set 13 ((q 12), .inl (cI, 110, .inl (upd (fun _ => 0) (0 : Int32).toNatClampNeg x2)))).set 14 ((q 13), .inl (cI, 110, .inl (upd (fun _ => 0) (0 : Int32).toNatClampNeg 0)))).set 15 ((q 14), .inl (cI, 110, .inl (upd (fun _ => 0) (0 : Int32).toNatClampNeg 0)))).set 16 ((q 15), .inl (cI, 110, .inl (upd (fun _ => 0) (0 : Int32).toNatClampNeg (-1))))).set 17 ((q 16), .inl (cI, 110, .inl (upd (fun _ => 0) (0 : Int32).toNatClampNeg (-1))))) H := hP
  have hD : va_D A (((((((mW o 0 q cI cZ).set 12 ((q 11), .inl (cI, 110, .inl (upd (fun _ => 0) (0 : Int32).toNatClampNeg 0)))).set 13 ((q 12), .inl (cI, 110, .inl (upd (fun _ => 0) (0 : Int32).toNatClampNeg x2)))).set 14 ((q 13), .inl (cI, 110, .inl (upd (fun _ => 0) (0 : Int32).toNatClampNeg 0)))).set 15 ((q 14), .inl (cI, 110, .inl (upd (fun _ => 0) (0 : Int32).toNatClampNeg 0)))).set 16 ((q 15), .inl (cI, 110, .inl (upd (fun _ => 0) (0 : Int32).toNatClampNeg (-1))))).set 17 ((q 16), .inl (cI, 110, .inl (upd (fun _ => 0) (0 : Int32).toNatClampNeg (-1))))) := hD
  refine lv_iconst (v := 0) hx hb dX9_node_109 (by decide) ?_
  refine lv_istore (lv' := [(5, .int 0), (0, .ref o), (1, .int 0), (2, .int x2), (3, .int 0), (4, .int 0)]) hx hb dX9_node_110 hl (by decide) rfl (fun ls hl => ?_)
  refine lv_iload hx hb dX9_node_112 (lv_at hl 0 rfl) ?_
  refine lv_iconst (v := 3) hx hb dX9_node_114 (by decide) ?_
  refine lv_icmp_ge (tgt := 157) hx hb dX9_node_115 (by decide) (fun c => absurd c (by decide)) (fun _ => ?_)
  refine lv_aload_n hx hb dX9_node_118 rfl (lv_at hl 1 rfl) ?_
  refine lv_aload_n hx hb dX9_node_119 rfl (lv_at hl 1 rfl) ?_
  refine xg (ci := 9) S inX9 rfl hK hP (q0 := 0) rfl 13 (by decide) mF_13 kw_6_160 rfl dX9_node_120 ?_
  refine lv_iload hx hb dX9_node_123 (lv_at hl 0 rfl) ?_
  refine rdV (As := [.int 0, .int 0]) (ci := 9) S (c_X9_part_0 l D cI cZ cJ o q x2 lo_x2 hi_x2) mi_X9_part kw_7_184 ⟨rfl, rfl⟩ ⟨Nat.le_of_ble_eq_true rfl, Nat.le_of_ble_eq_true rfl⟩ hP hK (k := 0) rfl rfl rfl hl.1 (Nat.le_of_ble_eq_true rfl) ⟨Nat.le_of_ble_eq_true rfl, Nat.le_of_ble_eq_true rfl⟩ dX9_node_125 ?_
  refine lv_iconst (v := (-1)) hx hb dX9_node_128 (by decide) ?_
  refine lv_icmp_eq (tgt := 151) hx hb dX9_node_129 (by decide) (fun _ => ?_) (fun c => absurd c (by decide))
  refine lv_iinc (v := 1) (lv' := [(5, .int 1), (0, .ref o), (1, .int 0), (2, .int x2), (3, .int 0), (4, .int 0)]) hx hb dX9_node_151 hl (k := 0) rfl (by decide) (by decide) rfl (fun ls hl => ?_)
  refine lv_goto (tgt := 112) hx hb dX9_node_154 (by decide) ?_
  refine lv_iload hx hb dX9_node_112 (lv_at hl 0 rfl) ?_
  refine lv_iconst (v := 3) hx hb dX9_node_114 (by decide) ?_
  refine lv_icmp_ge (tgt := 157) hx hb dX9_node_115 (by decide) (fun c => absurd c (by decide)) (fun _ => ?_)
  refine lv_aload_n hx hb dX9_node_118 rfl (lv_at hl 1 rfl) ?_
  refine lv_aload_n hx hb dX9_node_119 rfl (lv_at hl 1 rfl) ?_
  refine xg (ci := 9) S inX9 rfl hK hP (q0 := 0) rfl 13 (by decide) mF_13 kw_6_160 rfl dX9_node_120 ?_
  refine lv_iload hx hb dX9_node_123 (lv_at hl 0 rfl) ?_
  refine rdV (As := [.int 0, .int 1]) (ci := 9) S (c_X9_part_1 l D cI cZ cJ o q x2 lo_x2 hi_x2) mi_X9_part kw_7_184 ⟨rfl, rfl⟩ ⟨Nat.le_of_ble_eq_true rfl, Nat.le_of_ble_eq_true rfl⟩ hP hK (k := 0) rfl rfl rfl hl.1 (Nat.le_of_ble_eq_true rfl) ⟨Nat.le_of_ble_eq_true rfl, Nat.le_of_ble_eq_true rfl⟩ dX9_node_125 ?_
  refine lv_iconst (v := (-1)) hx hb dX9_node_128 (by decide) ?_
  refine lv_icmp_eq (tgt := 151) hx hb dX9_node_129 (by decide) (fun _ => ?_) (fun c => absurd c (by decide))
  refine lv_iinc (v := 2) (lv' := [(5, .int 2), (0, .ref o), (1, .int 0), (2, .int x2), (3, .int 0), (4, .int 0)]) hx hb dX9_node_151 hl (k := 0) rfl (by decide) (by decide) rfl (fun ls hl => ?_)
  refine lv_goto (tgt := 112) hx hb dX9_node_154 (by decide) ?_
  refine lv_iload hx hb dX9_node_112 (lv_at hl 0 rfl) ?_
  refine lv_iconst (v := 3) hx hb dX9_node_114 (by decide) ?_
  refine lv_icmp_ge (tgt := 157) hx hb dX9_node_115 (by decide) (fun c => absurd c (by decide)) (fun _ => ?_)
  refine lv_aload_n hx hb dX9_node_118 rfl (lv_at hl 1 rfl) ?_
  refine lv_aload_n hx hb dX9_node_119 rfl (lv_at hl 1 rfl) ?_
  refine xg (ci := 9) S inX9 rfl hK hP (q0 := 0) rfl 13 (by decide) mF_13 kw_6_160 rfl dX9_node_120 ?_
  refine lv_iload hx hb dX9_node_123 (lv_at hl 0 rfl) ?_
  refine rdV (As := [.int 0, .int 2]) (ci := 9) S (c_X9_part_2 l D cI cZ cJ o q x2 lo_x2 hi_x2) mi_X9_part kw_7_184 ⟨rfl, rfl⟩ ⟨Nat.le_of_ble_eq_true rfl, Nat.le_of_ble_eq_true rfl⟩ hP hK (k := 0) rfl rfl rfl hl.1 (Nat.le_of_ble_eq_true rfl) ⟨Nat.le_of_ble_eq_true rfl, Nat.le_of_ble_eq_true rfl⟩ dX9_node_125 ?_
  refine lv_iconst (v := (-1)) hx hb dX9_node_128 (by decide) ?_
  refine lv_icmp_eq (tgt := 151) hx hb dX9_node_129 (by decide) (fun _ => ?_) (fun c => absurd c (by decide))
  refine lv_iinc (v := 3) (lv' := [(5, .int 3), (0, .ref o), (1, .int 0), (2, .int x2), (3, .int 0), (4, .int 0)]) hx hb dX9_node_151 hl (k := 0) rfl (by decide) (by decide) rfl (fun ls hl => ?_)
  refine lv_goto (tgt := 112) hx hb dX9_node_154 (by decide) ?_
  refine lv_iload hx hb dX9_node_112 (lv_at hl 0 rfl) ?_
  refine lv_iconst (v := 3) hx hb dX9_node_114 (by decide) ?_
  refine lv_icmp_ge (tgt := 157) hx hb dX9_node_115 (by decide) (fun _ => ?_) (fun c => absurd c (by decide))
  refine lv_aload_n hx hb dX9_node_157 rfl (lv_at hl 1 rfl) ?_
  refine lv_dup hx hb dX9_node_158 rfl ?_
  refine xg (ci := 9) S inX9 rfl hK hP (q0 := 0) rfl 13 (by decide) mF_13 kw_6_160 rfl dX9_node_159 ?_
  refine lv_dup_x1 hx hb dX9_node_162 rfl rfl ?_
  refine lv_iconst (v := 1) hx hb dX9_node_163 (by decide) ?_
  refine xiadd (v := 1) S dX9_node_164 (by decide) ?_
  refine xp (ci := 9) (v := .int 1) S inX9 tyX9 tyX9_ok nmX9 rfl hK hP hD hS (q0 := 0) rfl 13 (by decide) kw_6_160 rfl rfl rfl rfl (Nat.le_of_ble_eq_true rfl) dX9_node_165 (fun H locs hP hD hS => ?_)
  have hP : va_P D vwCl ((((((((mW o 0 q cI cZ).set 0 (o, .inr (9, ((mF 0 q).set 13 (.int 1))))).set 12 ((q 11), .inl (cI, 110, .inl (upd (fun _ => 0) (0 : Int32).toNatClampNeg 0)))).set 13 ((q 12), .inl (cI, 110, .inl (upd (fun _ => 0) (0 : Int32).toNatClampNeg x2)))).set 14 ((q 13), .inl (cI, 110, .inl (upd (fun _ => 0) (0 : Int32).toNatClampNeg 0)))).set 15 ((q 14), .inl (cI, 110, .inl (upd (fun _ => 0) (0 : Int32).toNatClampNeg 0)))).set 16 ((q 15), .inl (cI, 110, .inl (upd (fun _ => 0) (0 : Int32).toNatClampNeg (-1))))).set 17 ((q 16), .inl (cI, 110, .inl (upd (fun _ => 0) (0 : Int32).toNatClampNeg (-1))))) H := hP
  have hD : va_D A ((((((((mW o 0 q cI cZ).set 0 (o, .inr (9, ((mF 0 q).set 13 (.int 1))))).set 12 ((q 11), .inl (cI, 110, .inl (upd (fun _ => 0) (0 : Int32).toNatClampNeg 0)))).set 13 ((q 12), .inl (cI, 110, .inl (upd (fun _ => 0) (0 : Int32).toNatClampNeg x2)))).set 14 ((q 13), .inl (cI, 110, .inl (upd (fun _ => 0) (0 : Int32).toNatClampNeg 0)))).set 15 ((q 14), .inl (cI, 110, .inl (upd (fun _ => 0) (0 : Int32).toNatClampNeg 0)))).set 16 ((q 15), .inl (cI, 110, .inl (upd (fun _ => 0) (0 : Int32).toNatClampNeg (-1))))).set 17 ((q 16), .inl (cI, 110, .inl (upd (fun _ => 0) (0 : Int32).toNatClampNeg (-1))))) := hD
  exact wEnd S hr hlocks hP hD hS (Nat.le_of_ble_eq_true rfl) (Nat.le_of_ble_eq_true rfl) dX9_node_168 rfl

set_option maxHeartbeats 8000000 in
set_option maxRecDepth 100000 in
theorem c_X9_isIn_34 (l : Launch) (D : va_G) (cI cZ cJ : ClassId) (o : Nat) (q : Nat → Nat) : Met l yX9_isIn (uW yX9_isIn cX9_isIn 3 (some .boolean)) ({ frames := 0, cells := 0, slots := 0, locals := 0 }) (va_Pc [.int 1, .int 0, .int 21] (pS D (tyL cI cZ cJ) (mW o 0 q cI cZ))) (QcRead (1)) 0 0 (fun _ => False) := by
  refine rdStart (lv := [(0, .int 1), (1, .int 0), (2, .int 21)]) (by decide) (Nat.le_of_ble_eq_true rfl) rfl ?_
  intro p e s m args below meth c ls S hr hlocks hl hP hK
  have hx := S.1
  have hb := S.2.1
  refine lv_iload_n hx hb dX9_isIn_0 rfl (lv_at hl 0 rfl) ?_
  refine lv_iload_n hx hb dX9_isIn_1 rfl (lv_at hl 1 rfl) ?_
  refine lv_icmp_lt (tgt := 14) hx hb dX9_isIn_2 (by decide) (fun c => absurd c (by decide)) (fun _ => ?_)
  refine lv_iload_n hx hb dX9_isIn_5 rfl (lv_at hl 0 rfl) ?_
  refine lv_iload_n hx hb dX9_isIn_6 rfl (lv_at hl 2 rfl) ?_
  refine lv_icmp_gt (tgt := 14) hx hb dX9_isIn_7 (by decide) (fun c => absurd c (by decide)) (fun _ => ?_)
  refine lv_iconst (v := 1) hx hb dX9_isIn_10 (by decide) ?_
  refine lv_goto (tgt := 15) hx hb dX9_isIn_11 (by decide) ?_
  exact rdEndZ S hr hlocks dX9_isIn_15 rfl rfl

set_option maxHeartbeats 8000000 in
set_option maxRecDepth 100000 in
theorem c_X9_canBe_4 (l : Launch) (D : va_G) (cI cZ cJ : ClassId) (o : Nat) (q : Nat → Nat) (x2 : Int32) (x3 : Int32) (x4 : Int32) (ou_x2_0_15 : ¬ (0 ≤ x2 ∧ x2 ≤ 15)) : Met l yX9_canBe (uW yX9_canBe cX9_canBe 5 (some .boolean)) ({ frames := 2, cells := 0, slots := 0, locals := 42 }) (va_Pc [.ref o, .int 1, .int x2, .int x3, .int x4] (pS D (tyL cI cZ cJ) (mW o 0 q cI cZ))) (QcRead (0)) 0 0 (fun _ => False) := by
  refine rdStart (lv := [(0, .ref o), (1, .int 1), (2, .int x2), (3, .int x3), (4, .int x4)]) (by decide) (Nat.le_of_ble_eq_true rfl) rfl ?_
  intro p e s m args below meth c ls S hr hlocks hl hP hK
  have hx := S.1
  have hb := S.2.1
  refine lv_iload_n hx hb dX9_canBe_0 rfl (lv_at hl 1 rfl) ?_
  refine lv_tableIn (off := 131) (tgt := 132) hx hb dX9_canBe_1 (by decide) (by decide) (by decide) (by decide) ?_
  refine lv_iload_n hx hb dX9_canBe_132 rfl (lv_at hl 2 rfl) ?_
  refine rdS (As := [.int x2]) S (c_X9_isName_0 l D cI cZ cJ o q x2 ou_x2_0_15) ms_X9_isName kw_7_107 ⟨rfl, rfl⟩ ⟨Nat.le_of_ble_eq_true rfl, Nat.le_of_ble_eq_true rfl⟩ hP hK hl.1 (Nat.le_of_ble_eq_true rfl) ⟨Nat.le_of_ble_eq_true rfl, Nat.le_of_ble_eq_true rfl⟩ dX9_canBe_133 ?_
  refine lv_if_eq (tgt := 152) hx hb dX9_canBe_136 (by decide) (fun _ => ?_) (fun c => absurd c (by decide))
  refine lv_iconst (v := 0) hx hb dX9_canBe_152 (by decide) ?_
  exact rdEndZ S hr hlocks dX9_canBe_153 rfl rfl

set_option maxHeartbeats 8000000 in
set_option maxRecDepth 100000 in
theorem m_node_k1a (l : Launch) (D : va_G) (cI cZ cJ : ClassId) (o : Nat) (q : Nat → Nat) (sz : Nat) (x2 : Int32) (x3 : Int32) (x4 : Int32) (ou_x2_0_15 : ¬ (0 ≤ x2 ∧ x2 ≤ 15)) : Met l yX9_node (uW yX9_node cX9_node 6 (some .int)) ({ frames := 3, cells := 0, slots := 0, locals := 66 }) (va_Pc [.ref o, .int 1, .int x2, .int x3, .int x4] (wS D (tyL cI cZ cJ) (mW o 0 q cI cZ) sz)) (wQi (0) D (mW o 1 q cI cZ) (va_A (mW o 0 q cI cZ) sz)) 0 0 (va_A (mW o 0 q cI cZ) sz) := by
  refine wStart (lv := [(0, .ref o), (1, .int 1), (2, .int x2), (3, .int x3), (4, .int x4)]) (Qc := fun A => wQi (0) D (mW o 1 q cI cZ) A) (by decide) (Nat.le_of_ble_eq_true rfl) rfl ?_
  intro p e s m args below meth c ls A H S hr hlocks hnm hl hK hP hD hS hA
  have hx := S.1
  have hb := S.2.1
  refine lv_aload_n hx hb dX9_node_0 rfl (lv_at hl 0 rfl) ?_
  refine lv_iconst (v := 0) hx hb dX9_node_1 (by decide) ?_
  refine xp (ci := 9) (v := .int 0) S inX9 tyX9 tyX9_ok nmX9 rfl hK hP hD hS mW_0 0 (by decide) kw_6_147 rfl rfl rfl rfl (Nat.le_of_ble_eq_true rfl) dX9_node_2 (fun H locs hP hD hS => ?_)
  have hP : va_P D vwCl (mW o 0 q cI cZ) H := hP
  have hD : va_D A (mW o 0 q cI cZ) := hD
  refine lv_iload_n hx hb dX9_node_5 rfl (lv_at hl 1 rfl) ?_
  refine lv_iconst (v := 0) hx hb dX9_node_6 (by decide) ?_
  refine lv_bipush (v := 21) hx hb dX9_node_7 (by decide) ?_
  refine rdS (As := [.int 1, .int 0, .int 21]) S (c_X9_isIn_34 l D cI cZ cJ o q) ms_X9_isIn kw_7_100 ⟨rfl, rfl⟩ ⟨Nat.le_of_ble_eq_true rfl, Nat.le_of_ble_eq_true rfl⟩ hP hK hl.1 (Nat.le_of_ble_eq_true rfl) ⟨Nat.le_of_ble_eq_true rfl, Nat.le_of_ble_eq_true rfl⟩ dX9_node_9 ?_
  refine lv_if_eq (tgt := 27) hx hb dX9_node_12 (by decide) (fun c => absurd c (by decide)) (fun _ => ?_)
  refine lv_aload_n hx hb dX9_node_15 rfl (lv_at hl 0 rfl) ?_
  refine lv_iload_n hx hb dX9_node_16 rfl (lv_at hl 1 rfl) ?_
  refine lv_iload_n hx hb dX9_node_17 rfl (lv_at hl 2 rfl) ?_
  refine lv_iload_n hx hb dX9_node_18 rfl (lv_at hl 3 rfl) ?_
  refine lv_iload hx hb dX9_node_19 (lv_at hl 4 rfl) ?_
  refine rdV (As := [.int 1, .int x2, .int x3, .int x4]) (ci := 9) S (c_X9_canBe_4 l D cI cZ cJ o q x2 x3 x4 ou_x2_0_15) mi_X9_canBe kw_7_154 ⟨rfl, rfl⟩ ⟨Nat.le_of_ble_eq_true rfl, Nat.le_of_ble_eq_true rfl⟩ hP hK mW_0 rfl rfl hl.1 (Nat.le_of_ble_eq_true rfl) ⟨Nat.le_of_ble_eq_true rfl, Nat.le_of_ble_eq_true rfl⟩ dX9_node_21 ?_
  refine lv_if_ne (tgt := 33) hx hb dX9_node_24 (by decide) (fun c => absurd c (by decide)) (fun _ => ?_)
  refine lv_aload_n hx hb dX9_node_27 rfl (lv_at hl 0 rfl) ?_
  refine lv_iconst (v := 1) hx hb dX9_node_28 (by decide) ?_
  refine wrV (As := [.int 1]) (ci := 9) S (c_X9_no_0 l D cI cZ cJ o q H.size) mi_X9_no kw_7_103 rfl rfl ⟨Nat.le_of_ble_eq_true rfl, Nat.le_of_ble_eq_true rfl⟩ hP hD hK hS hA mW_0 rfl rfl hl.1 (Nat.le_of_ble_eq_true rfl) ⟨Nat.le_of_ble_eq_true rfl, Nat.le_of_ble_eq_true rfl⟩ dX9_node_29 (fun H locs hz hP hD hS => ?_)
  exact wEnd S hr hlocks hP hD hS (Nat.le_of_ble_eq_true rfl) (Nat.le_of_ble_eq_true rfl) dX9_node_32 rfl

set_option maxHeartbeats 8000000 in
set_option maxRecDepth 100000 in
theorem c_X9_canBe_5 (l : Launch) (D : va_G) (cI cZ cJ : ClassId) (o : Nat) (q : Nat → Nat) (x2 : Int32) (x3 : Int32) (x4 : Int32) (lo_x2 : 0 ≤ x2) (hi_x2 : x2 ≤ 15) (ne_x3_0 : ¬ x3 = 0) : Met l yX9_canBe (uW yX9_canBe cX9_canBe 5 (some .boolean)) ({ frames := 2, cells := 0, slots := 0, locals := 42 }) (va_Pc [.ref o, .int 1, .int x2, .int x3, .int x4] (pS D (tyL cI cZ cJ) (mW o 0 q cI cZ))) (QcRead (0)) 0 0 (fun _ => False) := by
  refine rdStart (lv := [(0, .ref o), (1, .int 1), (2, .int x2), (3, .int x3), (4, .int x4)]) (by decide) (Nat.le_of_ble_eq_true rfl) rfl ?_
  intro p e s m args below meth c ls S hr hlocks hl hP hK
  have hx := S.1
  have hb := S.2.1
  refine lv_iload_n hx hb dX9_canBe_0 rfl (lv_at hl 1 rfl) ?_
  refine lv_tableIn (off := 131) (tgt := 132) hx hb dX9_canBe_1 (by decide) (by decide) (by decide) (by decide) ?_
  refine lv_iload_n hx hb dX9_canBe_132 rfl (lv_at hl 2 rfl) ?_
  refine rdS (As := [.int x2]) S (c_X9_isName_1 l D cI cZ cJ o q x2 lo_x2 hi_x2) ms_X9_isName kw_7_107 ⟨rfl, rfl⟩ ⟨Nat.le_of_ble_eq_true rfl, Nat.le_of_ble_eq_true rfl⟩ hP hK hl.1 (Nat.le_of_ble_eq_true rfl) ⟨Nat.le_of_ble_eq_true rfl, Nat.le_of_ble_eq_true rfl⟩ dX9_canBe_133 ?_
  refine lv_if_eq (tgt := 152) hx hb dX9_canBe_136 (by decide) (fun c => absurd c (by decide)) (fun _ => ?_)
  refine lv_iload_n hx hb dX9_canBe_139 rfl (lv_at hl 3 rfl) ?_
  refine lv_if_ne (tgt := 152) hx hb dX9_canBe_140 (by decide) (fun _ => ?_) (fun c => absurd c ne_x3_0)
  refine lv_iconst (v := 0) hx hb dX9_canBe_152 (by decide) ?_
  exact rdEndZ S hr hlocks dX9_canBe_153 rfl rfl

set_option maxHeartbeats 8000000 in
set_option maxRecDepth 100000 in
theorem m_node_k1b (l : Launch) (D : va_G) (cI cZ cJ : ClassId) (o : Nat) (q : Nat → Nat) (sz : Nat) (x2 : Int32) (x3 : Int32) (x4 : Int32) (lo_x2 : 0 ≤ x2) (hi_x2 : x2 ≤ 15) (ne_x3_0 : ¬ x3 = 0) : Met l yX9_node (uW yX9_node cX9_node 6 (some .int)) ({ frames := 3, cells := 0, slots := 0, locals := 66 }) (va_Pc [.ref o, .int 1, .int x2, .int x3, .int x4] (wS D (tyL cI cZ cJ) (mW o 0 q cI cZ) sz)) (wQi (0) D (mW o 1 q cI cZ) (va_A (mW o 0 q cI cZ) sz)) 0 0 (va_A (mW o 0 q cI cZ) sz) := by
  refine wStart (lv := [(0, .ref o), (1, .int 1), (2, .int x2), (3, .int x3), (4, .int x4)]) (Qc := fun A => wQi (0) D (mW o 1 q cI cZ) A) (by decide) (Nat.le_of_ble_eq_true rfl) rfl ?_
  intro p e s m args below meth c ls A H S hr hlocks hnm hl hK hP hD hS hA
  have hx := S.1
  have hb := S.2.1
  refine lv_aload_n hx hb dX9_node_0 rfl (lv_at hl 0 rfl) ?_
  refine lv_iconst (v := 0) hx hb dX9_node_1 (by decide) ?_
  refine xp (ci := 9) (v := .int 0) S inX9 tyX9 tyX9_ok nmX9 rfl hK hP hD hS mW_0 0 (by decide) kw_6_147 rfl rfl rfl rfl (Nat.le_of_ble_eq_true rfl) dX9_node_2 (fun H locs hP hD hS => ?_)
  have hP : va_P D vwCl (mW o 0 q cI cZ) H := hP
  have hD : va_D A (mW o 0 q cI cZ) := hD
  refine lv_iload_n hx hb dX9_node_5 rfl (lv_at hl 1 rfl) ?_
  refine lv_iconst (v := 0) hx hb dX9_node_6 (by decide) ?_
  refine lv_bipush (v := 21) hx hb dX9_node_7 (by decide) ?_
  refine rdS (As := [.int 1, .int 0, .int 21]) S (c_X9_isIn_34 l D cI cZ cJ o q) ms_X9_isIn kw_7_100 ⟨rfl, rfl⟩ ⟨Nat.le_of_ble_eq_true rfl, Nat.le_of_ble_eq_true rfl⟩ hP hK hl.1 (Nat.le_of_ble_eq_true rfl) ⟨Nat.le_of_ble_eq_true rfl, Nat.le_of_ble_eq_true rfl⟩ dX9_node_9 ?_
  refine lv_if_eq (tgt := 27) hx hb dX9_node_12 (by decide) (fun c => absurd c (by decide)) (fun _ => ?_)
  refine lv_aload_n hx hb dX9_node_15 rfl (lv_at hl 0 rfl) ?_
  refine lv_iload_n hx hb dX9_node_16 rfl (lv_at hl 1 rfl) ?_
  refine lv_iload_n hx hb dX9_node_17 rfl (lv_at hl 2 rfl) ?_
  refine lv_iload_n hx hb dX9_node_18 rfl (lv_at hl 3 rfl) ?_
  refine lv_iload hx hb dX9_node_19 (lv_at hl 4 rfl) ?_
  refine rdV (As := [.int 1, .int x2, .int x3, .int x4]) (ci := 9) S (c_X9_canBe_5 l D cI cZ cJ o q x2 x3 x4 lo_x2 hi_x2 ne_x3_0) mi_X9_canBe kw_7_154 ⟨rfl, rfl⟩ ⟨Nat.le_of_ble_eq_true rfl, Nat.le_of_ble_eq_true rfl⟩ hP hK mW_0 rfl rfl hl.1 (Nat.le_of_ble_eq_true rfl) ⟨Nat.le_of_ble_eq_true rfl, Nat.le_of_ble_eq_true rfl⟩ dX9_node_21 ?_
  refine lv_if_ne (tgt := 33) hx hb dX9_node_24 (by decide) (fun c => absurd c (by decide)) (fun _ => ?_)
  refine lv_aload_n hx hb dX9_node_27 rfl (lv_at hl 0 rfl) ?_
  refine lv_iconst (v := 1) hx hb dX9_node_28 (by decide) ?_
  refine wrV (As := [.int 1]) (ci := 9) S (c_X9_no_0 l D cI cZ cJ o q H.size) mi_X9_no kw_7_103 rfl rfl ⟨Nat.le_of_ble_eq_true rfl, Nat.le_of_ble_eq_true rfl⟩ hP hD hK hS hA mW_0 rfl rfl hl.1 (Nat.le_of_ble_eq_true rfl) ⟨Nat.le_of_ble_eq_true rfl, Nat.le_of_ble_eq_true rfl⟩ dX9_node_29 (fun H locs hz hP hD hS => ?_)
  exact wEnd S hr hlocks hP hD hS (Nat.le_of_ble_eq_true rfl) (Nat.le_of_ble_eq_true rfl) dX9_node_32 rfl

set_option maxHeartbeats 8000000 in
set_option maxRecDepth 100000 in
theorem c_X9_canBe_6 (l : Launch) (D : va_G) (cI cZ cJ : ClassId) (o : Nat) (q : Nat → Nat) (x2 : Int32) (x4 : Int32) (lo_x2 : 0 ≤ x2) (hi_x2 : x2 ≤ 15) (ne_x4_0 : ¬ x4 = 0) : Met l yX9_canBe (uW yX9_canBe cX9_canBe 5 (some .boolean)) ({ frames := 2, cells := 0, slots := 0, locals := 42 }) (va_Pc [.ref o, .int 1, .int x2, .int 0, .int x4] (pS D (tyL cI cZ cJ) (mW o 0 q cI cZ))) (QcRead (0)) 0 0 (fun _ => False) := by
  refine rdStart (lv := [(0, .ref o), (1, .int 1), (2, .int x2), (3, .int 0), (4, .int x4)]) (by decide) (Nat.le_of_ble_eq_true rfl) rfl ?_
  intro p e s m args below meth c ls S hr hlocks hl hP hK
  have hx := S.1
  have hb := S.2.1
  refine lv_iload_n hx hb dX9_canBe_0 rfl (lv_at hl 1 rfl) ?_
  refine lv_tableIn (off := 131) (tgt := 132) hx hb dX9_canBe_1 (by decide) (by decide) (by decide) (by decide) ?_
  refine lv_iload_n hx hb dX9_canBe_132 rfl (lv_at hl 2 rfl) ?_
  refine rdS (As := [.int x2]) S (c_X9_isName_1 l D cI cZ cJ o q x2 lo_x2 hi_x2) ms_X9_isName kw_7_107 ⟨rfl, rfl⟩ ⟨Nat.le_of_ble_eq_true rfl, Nat.le_of_ble_eq_true rfl⟩ hP hK hl.1 (Nat.le_of_ble_eq_true rfl) ⟨Nat.le_of_ble_eq_true rfl, Nat.le_of_ble_eq_true rfl⟩ dX9_canBe_133 ?_
  refine lv_if_eq (tgt := 152) hx hb dX9_canBe_136 (by decide) (fun c => absurd c (by decide)) (fun _ => ?_)
  refine lv_iload_n hx hb dX9_canBe_139 rfl (lv_at hl 3 rfl) ?_
  refine lv_if_ne (tgt := 152) hx hb dX9_canBe_140 (by decide) (fun c => absurd c (by decide)) (fun _ => ?_)
  refine lv_iload hx hb dX9_canBe_143 (lv_at hl 4 rfl) ?_
  refine lv_if_ne (tgt := 152) hx hb dX9_canBe_145 (by decide) (fun _ => ?_) (fun c => absurd c ne_x4_0)
  refine lv_iconst (v := 0) hx hb dX9_canBe_152 (by decide) ?_
  exact rdEndZ S hr hlocks dX9_canBe_153 rfl rfl

set_option maxHeartbeats 8000000 in
set_option maxRecDepth 100000 in
theorem m_node_k1c (l : Launch) (D : va_G) (cI cZ cJ : ClassId) (o : Nat) (q : Nat → Nat) (sz : Nat) (x2 : Int32) (x4 : Int32) (lo_x2 : 0 ≤ x2) (hi_x2 : x2 ≤ 15) (ne_x4_0 : ¬ x4 = 0) : Met l yX9_node (uW yX9_node cX9_node 6 (some .int)) ({ frames := 3, cells := 0, slots := 0, locals := 66 }) (va_Pc [.ref o, .int 1, .int x2, .int 0, .int x4] (wS D (tyL cI cZ cJ) (mW o 0 q cI cZ) sz)) (wQi (0) D (mW o 1 q cI cZ) (va_A (mW o 0 q cI cZ) sz)) 0 0 (va_A (mW o 0 q cI cZ) sz) := by
  refine wStart (lv := [(0, .ref o), (1, .int 1), (2, .int x2), (3, .int 0), (4, .int x4)]) (Qc := fun A => wQi (0) D (mW o 1 q cI cZ) A) (by decide) (Nat.le_of_ble_eq_true rfl) rfl ?_
  intro p e s m args below meth c ls A H S hr hlocks hnm hl hK hP hD hS hA
  have hx := S.1
  have hb := S.2.1
  refine lv_aload_n hx hb dX9_node_0 rfl (lv_at hl 0 rfl) ?_
  refine lv_iconst (v := 0) hx hb dX9_node_1 (by decide) ?_
  refine xp (ci := 9) (v := .int 0) S inX9 tyX9 tyX9_ok nmX9 rfl hK hP hD hS mW_0 0 (by decide) kw_6_147 rfl rfl rfl rfl (Nat.le_of_ble_eq_true rfl) dX9_node_2 (fun H locs hP hD hS => ?_)
  have hP : va_P D vwCl (mW o 0 q cI cZ) H := hP
  have hD : va_D A (mW o 0 q cI cZ) := hD
  refine lv_iload_n hx hb dX9_node_5 rfl (lv_at hl 1 rfl) ?_
  refine lv_iconst (v := 0) hx hb dX9_node_6 (by decide) ?_
  refine lv_bipush (v := 21) hx hb dX9_node_7 (by decide) ?_
  refine rdS (As := [.int 1, .int 0, .int 21]) S (c_X9_isIn_34 l D cI cZ cJ o q) ms_X9_isIn kw_7_100 ⟨rfl, rfl⟩ ⟨Nat.le_of_ble_eq_true rfl, Nat.le_of_ble_eq_true rfl⟩ hP hK hl.1 (Nat.le_of_ble_eq_true rfl) ⟨Nat.le_of_ble_eq_true rfl, Nat.le_of_ble_eq_true rfl⟩ dX9_node_9 ?_
  refine lv_if_eq (tgt := 27) hx hb dX9_node_12 (by decide) (fun c => absurd c (by decide)) (fun _ => ?_)
  refine lv_aload_n hx hb dX9_node_15 rfl (lv_at hl 0 rfl) ?_
  refine lv_iload_n hx hb dX9_node_16 rfl (lv_at hl 1 rfl) ?_
  refine lv_iload_n hx hb dX9_node_17 rfl (lv_at hl 2 rfl) ?_
  refine lv_iload_n hx hb dX9_node_18 rfl (lv_at hl 3 rfl) ?_
  refine lv_iload hx hb dX9_node_19 (lv_at hl 4 rfl) ?_
  refine rdV (As := [.int 1, .int x2, .int 0, .int x4]) (ci := 9) S (c_X9_canBe_6 l D cI cZ cJ o q x2 x4 lo_x2 hi_x2 ne_x4_0) mi_X9_canBe kw_7_154 ⟨rfl, rfl⟩ ⟨Nat.le_of_ble_eq_true rfl, Nat.le_of_ble_eq_true rfl⟩ hP hK mW_0 rfl rfl hl.1 (Nat.le_of_ble_eq_true rfl) ⟨Nat.le_of_ble_eq_true rfl, Nat.le_of_ble_eq_true rfl⟩ dX9_node_21 ?_
  refine lv_if_ne (tgt := 33) hx hb dX9_node_24 (by decide) (fun c => absurd c (by decide)) (fun _ => ?_)
  refine lv_aload_n hx hb dX9_node_27 rfl (lv_at hl 0 rfl) ?_
  refine lv_iconst (v := 1) hx hb dX9_node_28 (by decide) ?_
  refine wrV (As := [.int 1]) (ci := 9) S (c_X9_no_0 l D cI cZ cJ o q H.size) mi_X9_no kw_7_103 rfl rfl ⟨Nat.le_of_ble_eq_true rfl, Nat.le_of_ble_eq_true rfl⟩ hP hD hK hS hA mW_0 rfl rfl hl.1 (Nat.le_of_ble_eq_true rfl) ⟨Nat.le_of_ble_eq_true rfl, Nat.le_of_ble_eq_true rfl⟩ dX9_node_29 (fun H locs hz hP hD hS => ?_)
  exact wEnd S hr hlocks hP hD hS (Nat.le_of_ble_eq_true rfl) (Nat.le_of_ble_eq_true rfl) dX9_node_32 rfl

set_option maxHeartbeats 8000000 in
set_option maxRecDepth 100000 in
theorem c_X9_canBe_7 (l : Launch) (D : va_G) (cI cZ cJ : ClassId) (o : Nat) (q : Nat → Nat) (x2 : Int32) (lo_x2 : 0 ≤ x2) (hi_x2 : x2 ≤ 15) : Met l yX9_canBe (uW yX9_canBe cX9_canBe 5 (some .boolean)) ({ frames := 2, cells := 0, slots := 0, locals := 42 }) (va_Pc [.ref o, .int 1, .int x2, .int 0, .int 0] (pS D (tyL cI cZ cJ) (mW o 0 q cI cZ))) (QcRead (1)) 0 0 (fun _ => False) := by
  refine rdStart (lv := [(0, .ref o), (1, .int 1), (2, .int x2), (3, .int 0), (4, .int 0)]) (by decide) (Nat.le_of_ble_eq_true rfl) rfl ?_
  intro p e s m args below meth c ls S hr hlocks hl hP hK
  have hx := S.1
  have hb := S.2.1
  refine lv_iload_n hx hb dX9_canBe_0 rfl (lv_at hl 1 rfl) ?_
  refine lv_tableIn (off := 131) (tgt := 132) hx hb dX9_canBe_1 (by decide) (by decide) (by decide) (by decide) ?_
  refine lv_iload_n hx hb dX9_canBe_132 rfl (lv_at hl 2 rfl) ?_
  refine rdS (As := [.int x2]) S (c_X9_isName_1 l D cI cZ cJ o q x2 lo_x2 hi_x2) ms_X9_isName kw_7_107 ⟨rfl, rfl⟩ ⟨Nat.le_of_ble_eq_true rfl, Nat.le_of_ble_eq_true rfl⟩ hP hK hl.1 (Nat.le_of_ble_eq_true rfl) ⟨Nat.le_of_ble_eq_true rfl, Nat.le_of_ble_eq_true rfl⟩ dX9_canBe_133 ?_
  refine lv_if_eq (tgt := 152) hx hb dX9_canBe_136 (by decide) (fun c => absurd c (by decide)) (fun _ => ?_)
  refine lv_iload_n hx hb dX9_canBe_139 rfl (lv_at hl 3 rfl) ?_
  refine lv_if_ne (tgt := 152) hx hb dX9_canBe_140 (by decide) (fun c => absurd c (by decide)) (fun _ => ?_)
  refine lv_iload hx hb dX9_canBe_143 (lv_at hl 4 rfl) ?_
  refine lv_if_ne (tgt := 152) hx hb dX9_canBe_145 (by decide) (fun c => absurd c (by decide)) (fun _ => ?_)
  refine lv_iconst (v := 1) hx hb dX9_canBe_148 (by decide) ?_
  refine lv_goto (tgt := 153) hx hb dX9_canBe_149 (by decide) ?_
  exact rdEndZ S hr hlocks dX9_canBe_153 rfl rfl

set_option maxHeartbeats 8000000 in
set_option maxRecDepth 100000 in
theorem c_X9_parts_1 (l : Launch) (D : va_G) (cI cZ cJ : ClassId) (o : Nat) (q : Nat → Nat) (x2 : Int32) (lo_x2 : 0 ≤ x2) (hi_x2 : x2 ≤ 15) : Met l yX9_parts (uW yX9_parts cX9_parts 1 (some .int)) ({ frames := 0, cells := 0, slots := 0, locals := 0 }) (va_Pc [.int 1] (pS D (tyL cI cZ cJ) (((((((mW o 0 q cI cZ).set 12 ((q 11), .inl (cI, 110, .inl (upd (fun _ => 0) (0 : Int32).toNatClampNeg 1)))).set 13 ((q 12), .inl (cI, 110, .inl (upd (fun _ => 0) (0 : Int32).toNatClampNeg x2)))).set 14 ((q 13), .inl (cI, 110, .inl (upd (fun _ => 0) (0 : Int32).toNatClampNeg 0)))).set 15 ((q 14), .inl (cI, 110, .inl (upd (fun _ => 0) (0 : Int32).toNatClampNeg 0)))).set 16 ((q 15), .inl (cI, 110, .inl (upd (fun _ => 0) (0 : Int32).toNatClampNeg (-1))))).set 17 ((q 16), .inl (cI, 110, .inl (upd (fun _ => 0) (0 : Int32).toNatClampNeg (-1))))))) (QcRead (0)) 0 0 (fun _ => False) := by
  refine rdStart (lv := [(0, .int 1)]) (by decide) (Nat.le_of_ble_eq_true rfl) rfl ?_
  intro p e s m args below meth c ls S hr hlocks hl hP hK
  have hx := S.1
  have hb := S.2.1
  refine lv_iload_n hx hb dX9_parts_0 rfl (lv_at hl 0 rfl) ?_
  refine lv_tableIn (off := 103) (tgt := 104) hx hb dX9_parts_1 (by decide) (by decide) (by decide) (by decide) ?_
  refine lv_iconst (v := 0) hx hb dX9_parts_104 (by decide) ?_
  exact rdEnd S hr hlocks dX9_parts_105 rfl

set_option maxHeartbeats 8000000 in
set_option maxRecDepth 100000 in
theorem c_X9_has_3 (l : Launch) (D : va_G) (cI cZ cJ : ClassId) (o : Nat) (q : Nat → Nat) (x2 : Int32) (lo_x2 : 0 ≤ x2) (hi_x2 : x2 ≤ 15) : Met l yX9_has (uW yX9_has cX9_has 2 (some .boolean)) ({ frames := 0, cells := 0, slots := 0, locals := 0 }) (va_Pc [.int 0, .int 0] (pS D (tyL cI cZ cJ) (((((((mW o 0 q cI cZ).set 12 ((q 11), .inl (cI, 110, .inl (upd (fun _ => 0) (0 : Int32).toNatClampNeg 1)))).set 13 ((q 12), .inl (cI, 110, .inl (upd (fun _ => 0) (0 : Int32).toNatClampNeg x2)))).set 14 ((q 13), .inl (cI, 110, .inl (upd (fun _ => 0) (0 : Int32).toNatClampNeg 0)))).set 15 ((q 14), .inl (cI, 110, .inl (upd (fun _ => 0) (0 : Int32).toNatClampNeg 0)))).set 16 ((q 15), .inl (cI, 110, .inl (upd (fun _ => 0) (0 : Int32).toNatClampNeg (-1))))).set 17 ((q 16), .inl (cI, 110, .inl (upd (fun _ => 0) (0 : Int32).toNatClampNeg (-1))))))) (QcRead (0)) 0 0 (fun _ => False) := by
  refine rdStart (lv := [(0, .int 0), (1, .int 0)]) (by decide) (Nat.le_of_ble_eq_true rfl) rfl ?_
  intro p e s m args below meth c ls S hr hlocks hl hP hK
  have hx := S.1
  have hb := S.2.1
  refine lv_iload_n hx hb dX9_has_0 rfl (lv_at hl 0 rfl) ?_
  refine lv_iload_n hx hb dX9_has_1 rfl (lv_at hl 1 rfl) ?_
  refine xishr (v := 0) S dX9_has_2 (by decide) ?_
  refine lv_iconst (v := 1) hx hb dX9_has_3 (by decide) ?_
  refine xiand (v := 0) S dX9_has_4 (by decide) ?_
  refine lv_iconst (v := 1) hx hb dX9_has_5 (by decide) ?_
  refine lv_icmp_ne (tgt := 13) hx hb dX9_has_6 (by decide) (fun _ => ?_) (fun c => absurd c (by decide))
  refine lv_iconst (v := 0) hx hb dX9_has_13 (by decide) ?_
  exact rdEndZ S hr hlocks dX9_has_14 rfl rfl

set_option maxHeartbeats 8000000 in
set_option maxRecDepth 100000 in
theorem c_X9_part_3 (l : Launch) (D : va_G) (cI cZ cJ : ClassId) (o : Nat) (q : Nat → Nat) (x2 : Int32) (lo_x2 : 0 ≤ x2) (hi_x2 : x2 ≤ 15) : Met l yX9_part (uW yX9_part cX9_part 3 (some .int)) ({ frames := 1, cells := 0, slots := 0, locals := 21 }) (va_Pc [.ref o, .int 0, .int 0] (pS D (tyL cI cZ cJ) (((((((mW o 0 q cI cZ).set 12 ((q 11), .inl (cI, 110, .inl (upd (fun _ => 0) (0 : Int32).toNatClampNeg 1)))).set 13 ((q 12), .inl (cI, 110, .inl (upd (fun _ => 0) (0 : Int32).toNatClampNeg x2)))).set 14 ((q 13), .inl (cI, 110, .inl (upd (fun _ => 0) (0 : Int32).toNatClampNeg 0)))).set 15 ((q 14), .inl (cI, 110, .inl (upd (fun _ => 0) (0 : Int32).toNatClampNeg 0)))).set 16 ((q 15), .inl (cI, 110, .inl (upd (fun _ => 0) (0 : Int32).toNatClampNeg (-1))))).set 17 ((q 16), .inl (cI, 110, .inl (upd (fun _ => 0) (0 : Int32).toNatClampNeg (-1))))))) (QcRead ((-1))) 0 0 (fun _ => False) := by
  refine rdStart (lv := [(0, .ref o), (1, .int 0), (2, .int 0)]) (by decide) (Nat.le_of_ble_eq_true rfl) rfl ?_
  intro p e s m args below meth c ls S hr hlocks hl hP hK
  have hx := S.1
  have hb := S.2.1
  refine lv_aload_n hx hb dX9_part_0 rfl (lv_at hl 0 rfl) ?_
  refine xg (ci := 9) S inX9 rfl hK hP (q0 := 0) rfl 14 (by decide) mF_14 kw_6_161 rfl dX9_part_1 ?_
  refine lv_iload_n hx hb dX9_part_4 rfl (lv_at hl 1 rfl) ?_
  refine xiald (t0 := 0) (v := 1) S hK hP (q0 := 12) rfl rfl (vin rfl) rfl dX9_part_5 ?_
  refine rdS (As := [.int 1]) S (c_X9_parts_1 l D cI cZ cJ o q x2 lo_x2 hi_x2) ms_X9_parts kw_7_188 ⟨rfl, rfl⟩ ⟨Nat.le_of_ble_eq_true rfl, Nat.le_of_ble_eq_true rfl⟩ hP hK hl.1 (Nat.le_of_ble_eq_true rfl) ⟨Nat.le_of_ble_eq_true rfl, Nat.le_of_ble_eq_true rfl⟩ dX9_part_6 ?_
  refine lv_iload_n hx hb dX9_part_9 rfl (lv_at hl 2 rfl) ?_
  refine rdS (As := [.int 0, .int 0]) S (c_X9_has_3 l D cI cZ cJ o q x2 lo_x2 hi_x2) ms_X9_has kw_7_191 ⟨rfl, rfl⟩ ⟨Nat.le_of_ble_eq_true rfl, Nat.le_of_ble_eq_true rfl⟩ hP hK hl.1 (Nat.le_of_ble_eq_true rfl) ⟨Nat.le_of_ble_eq_true rfl, Nat.le_of_ble_eq_true rfl⟩ dX9_part_10 ?_
  refine lv_if_ne (tgt := 18) hx hb dX9_part_13 (by decide) (fun c => absurd c (by decide)) (fun _ => ?_)
  refine lv_iconst (v := (-1)) hx hb dX9_part_16 (by decide) ?_
  exact rdEnd S hr hlocks dX9_part_17 rfl

set_option maxHeartbeats 8000000 in
set_option maxRecDepth 100000 in
theorem c_X9_has_4 (l : Launch) (D : va_G) (cI cZ cJ : ClassId) (o : Nat) (q : Nat → Nat) (x2 : Int32) (lo_x2 : 0 ≤ x2) (hi_x2 : x2 ≤ 15) : Met l yX9_has (uW yX9_has cX9_has 2 (some .boolean)) ({ frames := 0, cells := 0, slots := 0, locals := 0 }) (va_Pc [.int 0, .int 1] (pS D (tyL cI cZ cJ) (((((((mW o 0 q cI cZ).set 12 ((q 11), .inl (cI, 110, .inl (upd (fun _ => 0) (0 : Int32).toNatClampNeg 1)))).set 13 ((q 12), .inl (cI, 110, .inl (upd (fun _ => 0) (0 : Int32).toNatClampNeg x2)))).set 14 ((q 13), .inl (cI, 110, .inl (upd (fun _ => 0) (0 : Int32).toNatClampNeg 0)))).set 15 ((q 14), .inl (cI, 110, .inl (upd (fun _ => 0) (0 : Int32).toNatClampNeg 0)))).set 16 ((q 15), .inl (cI, 110, .inl (upd (fun _ => 0) (0 : Int32).toNatClampNeg (-1))))).set 17 ((q 16), .inl (cI, 110, .inl (upd (fun _ => 0) (0 : Int32).toNatClampNeg (-1))))))) (QcRead (0)) 0 0 (fun _ => False) := by
  refine rdStart (lv := [(0, .int 0), (1, .int 1)]) (by decide) (Nat.le_of_ble_eq_true rfl) rfl ?_
  intro p e s m args below meth c ls S hr hlocks hl hP hK
  have hx := S.1
  have hb := S.2.1
  refine lv_iload_n hx hb dX9_has_0 rfl (lv_at hl 0 rfl) ?_
  refine lv_iload_n hx hb dX9_has_1 rfl (lv_at hl 1 rfl) ?_
  refine xishr (v := 0) S dX9_has_2 (by decide) ?_
  refine lv_iconst (v := 1) hx hb dX9_has_3 (by decide) ?_
  refine xiand (v := 0) S dX9_has_4 (by decide) ?_
  refine lv_iconst (v := 1) hx hb dX9_has_5 (by decide) ?_
  refine lv_icmp_ne (tgt := 13) hx hb dX9_has_6 (by decide) (fun _ => ?_) (fun c => absurd c (by decide))
  refine lv_iconst (v := 0) hx hb dX9_has_13 (by decide) ?_
  exact rdEndZ S hr hlocks dX9_has_14 rfl rfl

set_option maxHeartbeats 8000000 in
set_option maxRecDepth 100000 in
theorem c_X9_part_4 (l : Launch) (D : va_G) (cI cZ cJ : ClassId) (o : Nat) (q : Nat → Nat) (x2 : Int32) (lo_x2 : 0 ≤ x2) (hi_x2 : x2 ≤ 15) : Met l yX9_part (uW yX9_part cX9_part 3 (some .int)) ({ frames := 1, cells := 0, slots := 0, locals := 21 }) (va_Pc [.ref o, .int 0, .int 1] (pS D (tyL cI cZ cJ) (((((((mW o 0 q cI cZ).set 12 ((q 11), .inl (cI, 110, .inl (upd (fun _ => 0) (0 : Int32).toNatClampNeg 1)))).set 13 ((q 12), .inl (cI, 110, .inl (upd (fun _ => 0) (0 : Int32).toNatClampNeg x2)))).set 14 ((q 13), .inl (cI, 110, .inl (upd (fun _ => 0) (0 : Int32).toNatClampNeg 0)))).set 15 ((q 14), .inl (cI, 110, .inl (upd (fun _ => 0) (0 : Int32).toNatClampNeg 0)))).set 16 ((q 15), .inl (cI, 110, .inl (upd (fun _ => 0) (0 : Int32).toNatClampNeg (-1))))).set 17 ((q 16), .inl (cI, 110, .inl (upd (fun _ => 0) (0 : Int32).toNatClampNeg (-1))))))) (QcRead ((-1))) 0 0 (fun _ => False) := by
  refine rdStart (lv := [(0, .ref o), (1, .int 0), (2, .int 1)]) (by decide) (Nat.le_of_ble_eq_true rfl) rfl ?_
  intro p e s m args below meth c ls S hr hlocks hl hP hK
  have hx := S.1
  have hb := S.2.1
  refine lv_aload_n hx hb dX9_part_0 rfl (lv_at hl 0 rfl) ?_
  refine xg (ci := 9) S inX9 rfl hK hP (q0 := 0) rfl 14 (by decide) mF_14 kw_6_161 rfl dX9_part_1 ?_
  refine lv_iload_n hx hb dX9_part_4 rfl (lv_at hl 1 rfl) ?_
  refine xiald (t0 := 0) (v := 1) S hK hP (q0 := 12) rfl rfl (vin rfl) rfl dX9_part_5 ?_
  refine rdS (As := [.int 1]) S (c_X9_parts_1 l D cI cZ cJ o q x2 lo_x2 hi_x2) ms_X9_parts kw_7_188 ⟨rfl, rfl⟩ ⟨Nat.le_of_ble_eq_true rfl, Nat.le_of_ble_eq_true rfl⟩ hP hK hl.1 (Nat.le_of_ble_eq_true rfl) ⟨Nat.le_of_ble_eq_true rfl, Nat.le_of_ble_eq_true rfl⟩ dX9_part_6 ?_
  refine lv_iload_n hx hb dX9_part_9 rfl (lv_at hl 2 rfl) ?_
  refine rdS (As := [.int 0, .int 1]) S (c_X9_has_4 l D cI cZ cJ o q x2 lo_x2 hi_x2) ms_X9_has kw_7_191 ⟨rfl, rfl⟩ ⟨Nat.le_of_ble_eq_true rfl, Nat.le_of_ble_eq_true rfl⟩ hP hK hl.1 (Nat.le_of_ble_eq_true rfl) ⟨Nat.le_of_ble_eq_true rfl, Nat.le_of_ble_eq_true rfl⟩ dX9_part_10 ?_
  refine lv_if_ne (tgt := 18) hx hb dX9_part_13 (by decide) (fun c => absurd c (by decide)) (fun _ => ?_)
  refine lv_iconst (v := (-1)) hx hb dX9_part_16 (by decide) ?_
  exact rdEnd S hr hlocks dX9_part_17 rfl

set_option maxHeartbeats 8000000 in
set_option maxRecDepth 100000 in
theorem c_X9_has_5 (l : Launch) (D : va_G) (cI cZ cJ : ClassId) (o : Nat) (q : Nat → Nat) (x2 : Int32) (lo_x2 : 0 ≤ x2) (hi_x2 : x2 ≤ 15) : Met l yX9_has (uW yX9_has cX9_has 2 (some .boolean)) ({ frames := 0, cells := 0, slots := 0, locals := 0 }) (va_Pc [.int 0, .int 2] (pS D (tyL cI cZ cJ) (((((((mW o 0 q cI cZ).set 12 ((q 11), .inl (cI, 110, .inl (upd (fun _ => 0) (0 : Int32).toNatClampNeg 1)))).set 13 ((q 12), .inl (cI, 110, .inl (upd (fun _ => 0) (0 : Int32).toNatClampNeg x2)))).set 14 ((q 13), .inl (cI, 110, .inl (upd (fun _ => 0) (0 : Int32).toNatClampNeg 0)))).set 15 ((q 14), .inl (cI, 110, .inl (upd (fun _ => 0) (0 : Int32).toNatClampNeg 0)))).set 16 ((q 15), .inl (cI, 110, .inl (upd (fun _ => 0) (0 : Int32).toNatClampNeg (-1))))).set 17 ((q 16), .inl (cI, 110, .inl (upd (fun _ => 0) (0 : Int32).toNatClampNeg (-1))))))) (QcRead (0)) 0 0 (fun _ => False) := by
  refine rdStart (lv := [(0, .int 0), (1, .int 2)]) (by decide) (Nat.le_of_ble_eq_true rfl) rfl ?_
  intro p e s m args below meth c ls S hr hlocks hl hP hK
  have hx := S.1
  have hb := S.2.1
  refine lv_iload_n hx hb dX9_has_0 rfl (lv_at hl 0 rfl) ?_
  refine lv_iload_n hx hb dX9_has_1 rfl (lv_at hl 1 rfl) ?_
  refine xishr (v := 0) S dX9_has_2 (by decide) ?_
  refine lv_iconst (v := 1) hx hb dX9_has_3 (by decide) ?_
  refine xiand (v := 0) S dX9_has_4 (by decide) ?_
  refine lv_iconst (v := 1) hx hb dX9_has_5 (by decide) ?_
  refine lv_icmp_ne (tgt := 13) hx hb dX9_has_6 (by decide) (fun _ => ?_) (fun c => absurd c (by decide))
  refine lv_iconst (v := 0) hx hb dX9_has_13 (by decide) ?_
  exact rdEndZ S hr hlocks dX9_has_14 rfl rfl

set_option maxHeartbeats 8000000 in
set_option maxRecDepth 100000 in
theorem c_X9_part_5 (l : Launch) (D : va_G) (cI cZ cJ : ClassId) (o : Nat) (q : Nat → Nat) (x2 : Int32) (lo_x2 : 0 ≤ x2) (hi_x2 : x2 ≤ 15) : Met l yX9_part (uW yX9_part cX9_part 3 (some .int)) ({ frames := 1, cells := 0, slots := 0, locals := 21 }) (va_Pc [.ref o, .int 0, .int 2] (pS D (tyL cI cZ cJ) (((((((mW o 0 q cI cZ).set 12 ((q 11), .inl (cI, 110, .inl (upd (fun _ => 0) (0 : Int32).toNatClampNeg 1)))).set 13 ((q 12), .inl (cI, 110, .inl (upd (fun _ => 0) (0 : Int32).toNatClampNeg x2)))).set 14 ((q 13), .inl (cI, 110, .inl (upd (fun _ => 0) (0 : Int32).toNatClampNeg 0)))).set 15 ((q 14), .inl (cI, 110, .inl (upd (fun _ => 0) (0 : Int32).toNatClampNeg 0)))).set 16 ((q 15), .inl (cI, 110, .inl (upd (fun _ => 0) (0 : Int32).toNatClampNeg (-1))))).set 17 ((q 16), .inl (cI, 110, .inl (upd (fun _ => 0) (0 : Int32).toNatClampNeg (-1))))))) (QcRead ((-1))) 0 0 (fun _ => False) := by
  refine rdStart (lv := [(0, .ref o), (1, .int 0), (2, .int 2)]) (by decide) (Nat.le_of_ble_eq_true rfl) rfl ?_
  intro p e s m args below meth c ls S hr hlocks hl hP hK
  have hx := S.1
  have hb := S.2.1
  refine lv_aload_n hx hb dX9_part_0 rfl (lv_at hl 0 rfl) ?_
  refine xg (ci := 9) S inX9 rfl hK hP (q0 := 0) rfl 14 (by decide) mF_14 kw_6_161 rfl dX9_part_1 ?_
  refine lv_iload_n hx hb dX9_part_4 rfl (lv_at hl 1 rfl) ?_
  refine xiald (t0 := 0) (v := 1) S hK hP (q0 := 12) rfl rfl (vin rfl) rfl dX9_part_5 ?_
  refine rdS (As := [.int 1]) S (c_X9_parts_1 l D cI cZ cJ o q x2 lo_x2 hi_x2) ms_X9_parts kw_7_188 ⟨rfl, rfl⟩ ⟨Nat.le_of_ble_eq_true rfl, Nat.le_of_ble_eq_true rfl⟩ hP hK hl.1 (Nat.le_of_ble_eq_true rfl) ⟨Nat.le_of_ble_eq_true rfl, Nat.le_of_ble_eq_true rfl⟩ dX9_part_6 ?_
  refine lv_iload_n hx hb dX9_part_9 rfl (lv_at hl 2 rfl) ?_
  refine rdS (As := [.int 0, .int 2]) S (c_X9_has_5 l D cI cZ cJ o q x2 lo_x2 hi_x2) ms_X9_has kw_7_191 ⟨rfl, rfl⟩ ⟨Nat.le_of_ble_eq_true rfl, Nat.le_of_ble_eq_true rfl⟩ hP hK hl.1 (Nat.le_of_ble_eq_true rfl) ⟨Nat.le_of_ble_eq_true rfl, Nat.le_of_ble_eq_true rfl⟩ dX9_part_10 ?_
  refine lv_if_ne (tgt := 18) hx hb dX9_part_13 (by decide) (fun c => absurd c (by decide)) (fun _ => ?_)
  refine lv_iconst (v := (-1)) hx hb dX9_part_16 (by decide) ?_
  exact rdEnd S hr hlocks dX9_part_17 rfl

set_option maxHeartbeats 8000000 in
set_option maxRecDepth 100000 in
theorem m_node_k1 (l : Launch) (D : va_G) (cI cZ cJ : ClassId) (o : Nat) (q : Nat → Nat) (sz : Nat) (x2 : Int32) (lo_x2 : 0 ≤ x2) (hi_x2 : x2 ≤ 15) : Met l yX9_node (uW yX9_node cX9_node 6 (some .int)) ({ frames := 3, cells := 0, slots := 0, locals := 66 }) (va_Pc [.ref o, .int 1, .int x2, .int 0, .int 0] (wS D (tyL cI cZ cJ) (mW o 0 q cI cZ) sz)) (wQi (0) D ((((((((mW o 0 q cI cZ).set 0 (o, .inr (9, ((mF 0 q).set 13 (.int 1))))).set 12 ((q 11), .inl (cI, 110, .inl (upd (fun _ => 0) (0 : Int32).toNatClampNeg 1)))).set 13 ((q 12), .inl (cI, 110, .inl (upd (fun _ => 0) (0 : Int32).toNatClampNeg x2)))).set 14 ((q 13), .inl (cI, 110, .inl (upd (fun _ => 0) (0 : Int32).toNatClampNeg 0)))).set 15 ((q 14), .inl (cI, 110, .inl (upd (fun _ => 0) (0 : Int32).toNatClampNeg 0)))).set 16 ((q 15), .inl (cI, 110, .inl (upd (fun _ => 0) (0 : Int32).toNatClampNeg (-1))))).set 17 ((q 16), .inl (cI, 110, .inl (upd (fun _ => 0) (0 : Int32).toNatClampNeg (-1))))) (va_A (mW o 0 q cI cZ) sz)) 0 0 (va_A (mW o 0 q cI cZ) sz) := by
  refine wStart (lv := [(0, .ref o), (1, .int 1), (2, .int x2), (3, .int 0), (4, .int 0)]) (Qc := fun A => wQi (0) D ((((((((mW o 0 q cI cZ).set 0 (o, .inr (9, ((mF 0 q).set 13 (.int 1))))).set 12 ((q 11), .inl (cI, 110, .inl (upd (fun _ => 0) (0 : Int32).toNatClampNeg 1)))).set 13 ((q 12), .inl (cI, 110, .inl (upd (fun _ => 0) (0 : Int32).toNatClampNeg x2)))).set 14 ((q 13), .inl (cI, 110, .inl (upd (fun _ => 0) (0 : Int32).toNatClampNeg 0)))).set 15 ((q 14), .inl (cI, 110, .inl (upd (fun _ => 0) (0 : Int32).toNatClampNeg 0)))).set 16 ((q 15), .inl (cI, 110, .inl (upd (fun _ => 0) (0 : Int32).toNatClampNeg (-1))))).set 17 ((q 16), .inl (cI, 110, .inl (upd (fun _ => 0) (0 : Int32).toNatClampNeg (-1))))) A) (by decide) (Nat.le_of_ble_eq_true rfl) rfl ?_
  intro p e s m args below meth c ls A H S hr hlocks hnm hl hK hP hD hS hA
  have hx := S.1
  have hb := S.2.1
  refine lv_aload_n hx hb dX9_node_0 rfl (lv_at hl 0 rfl) ?_
  refine lv_iconst (v := 0) hx hb dX9_node_1 (by decide) ?_
  refine xp (ci := 9) (v := .int 0) S inX9 tyX9 tyX9_ok nmX9 rfl hK hP hD hS mW_0 0 (by decide) kw_6_147 rfl rfl rfl rfl (Nat.le_of_ble_eq_true rfl) dX9_node_2 (fun H locs hP hD hS => ?_)
  have hP : va_P D vwCl (mW o 0 q cI cZ) H := hP
  have hD : va_D A (mW o 0 q cI cZ) := hD
  refine lv_iload_n hx hb dX9_node_5 rfl (lv_at hl 1 rfl) ?_
  refine lv_iconst (v := 0) hx hb dX9_node_6 (by decide) ?_
  refine lv_bipush (v := 21) hx hb dX9_node_7 (by decide) ?_
  refine rdS (As := [.int 1, .int 0, .int 21]) S (c_X9_isIn_34 l D cI cZ cJ o q) ms_X9_isIn kw_7_100 ⟨rfl, rfl⟩ ⟨Nat.le_of_ble_eq_true rfl, Nat.le_of_ble_eq_true rfl⟩ hP hK hl.1 (Nat.le_of_ble_eq_true rfl) ⟨Nat.le_of_ble_eq_true rfl, Nat.le_of_ble_eq_true rfl⟩ dX9_node_9 ?_
  refine lv_if_eq (tgt := 27) hx hb dX9_node_12 (by decide) (fun c => absurd c (by decide)) (fun _ => ?_)
  refine lv_aload_n hx hb dX9_node_15 rfl (lv_at hl 0 rfl) ?_
  refine lv_iload_n hx hb dX9_node_16 rfl (lv_at hl 1 rfl) ?_
  refine lv_iload_n hx hb dX9_node_17 rfl (lv_at hl 2 rfl) ?_
  refine lv_iload_n hx hb dX9_node_18 rfl (lv_at hl 3 rfl) ?_
  refine lv_iload hx hb dX9_node_19 (lv_at hl 4 rfl) ?_
  refine rdV (As := [.int 1, .int x2, .int 0, .int 0]) (ci := 9) S (c_X9_canBe_7 l D cI cZ cJ o q x2 lo_x2 hi_x2) mi_X9_canBe kw_7_154 ⟨rfl, rfl⟩ ⟨Nat.le_of_ble_eq_true rfl, Nat.le_of_ble_eq_true rfl⟩ hP hK mW_0 rfl rfl hl.1 (Nat.le_of_ble_eq_true rfl) ⟨Nat.le_of_ble_eq_true rfl, Nat.le_of_ble_eq_true rfl⟩ dX9_node_21 ?_
  refine lv_if_ne (tgt := 33) hx hb dX9_node_24 (by decide) (fun _ => ?_) (fun c => absurd c (by decide))
  refine lv_aload_n hx hb dX9_node_33 rfl (lv_at hl 0 rfl) ?_
  refine xg (ci := 9) S inX9 rfl hK hP mW_0 13 (by decide) mF_13 kw_6_160 rfl dX9_node_34 ?_
  refine lv_bipush (v := 110) hx hb dX9_node_37 (by decide) ?_
  refine lv_icmp_ne (tgt := 48) hx hb dX9_node_39 (by decide) (fun _ => ?_) (fun c => absurd c (by decide))
  refine lv_aload_n hx hb dX9_node_48 rfl (lv_at hl 0 rfl) ?_
  refine xg (ci := 9) S inX9 rfl hK hP mW_0 14 (by decide) mF_14 kw_6_161 rfl dX9_node_49 ?_
  refine lv_aload_n hx hb dX9_node_52 rfl (lv_at hl 0 rfl) ?_
  refine xg (ci := 9) S inX9 rfl hK hP mW_0 13 (by decide) mF_13 kw_6_160 rfl dX9_node_53 ?_
  refine lv_iload_n hx hb dX9_node_56 rfl (lv_at hl 1 rfl) ?_
  refine xiast (t0 := 0) S hK hP hD hS mW_12 rfl (vin rfl) dX9_node_57 (fun H locs hP hD hS => ?_)
  have hP : va_P D vwCl ((mW o 0 q cI cZ).set 12 ((q 11), .inl (cI, 110, .inl (upd (fun _ => 0) (0 : Int32).toNatClampNeg 1)))) H := hP
  have hD : va_D A ((mW o 0 q cI cZ).set 12 ((q 11), .inl (cI, 110, .inl (upd (fun _ => 0) (0 : Int32).toNatClampNeg 1)))) := hD
  refine lv_aload_n hx hb dX9_node_58 rfl (lv_at hl 0 rfl) ?_
  refine xg (ci := 9) S inX9 rfl hK hP (q0 := 0) rfl 15 (by decide) mF_15 kw_6_162 rfl dX9_node_59 ?_
  refine lv_aload_n hx hb dX9_node_62 rfl (lv_at hl 0 rfl) ?_
  refine xg (ci := 9) S inX9 rfl hK hP (q0 := 0) rfl 13 (by decide) mF_13 kw_6_160 rfl dX9_node_63 ?_
  refine lv_iload_n hx hb dX9_node_66 rfl (lv_at hl 2 rfl) ?_
  refine xiast (t0 := 0) S hK hP hD hS (q0 := 13) rfl rfl (vin rfl) dX9_node_67 (fun H locs hP hD hS => ?_)
  have hP : va_P D vwCl (((mW o 0 q cI cZ).set 12 ((q 11), .inl (cI, 110, .inl (upd (fun _ => 0) (0 : Int32).toNatClampNeg 1)))).set 13 ((q 12), .inl (cI, 110, .inl (upd (fun _ => 0) (0 : Int32).toNatClampNeg x2)))) H := hP
  have hD : va_D A (((mW o 0 q cI cZ).set 12 ((q 11), .inl (cI, 110, .inl (upd (fun _ => 0) (0 : Int32).toNatClampNeg 1)))).set 13 ((q 12), .inl (cI, 110, .inl (upd (fun _ => 0) (0 : Int32).toNatClampNeg x2)))) := hD
  refine lv_aload_n hx hb dX9_node_68 rfl (lv_at hl 0 rfl) ?_
  refine xg (ci := 9) S inX9 rfl hK hP (q0 := 0) rfl 16 (by decide) mF_16 kw_6_163 rfl dX9_node_69 ?_
  refine lv_aload_n hx hb dX9_node_72 rfl (lv_at hl 0 rfl) ?_
  refine xg (ci := 9) S inX9 rfl hK hP (q0 := 0) rfl 13 (by decide) mF_13 kw_6_160 rfl dX9_node_73 ?_
  refine lv_iload_n hx hb dX9_node_76 rfl (lv_at hl 3 rfl) ?_
  refine xiast (t0 := 0) S hK hP hD hS (q0 := 14) rfl rfl (vin rfl) dX9_node_77 (fun H locs hP hD hS => ?_)
  have hP : va_P D vwCl ((((mW o 0 q cI cZ).set 12 ((q 11), .inl (cI, 110, .inl (upd (fun _ => 0) (0 : Int32).toNatClampNeg 1)))).set 13 ((q 12), .inl (cI, 110, .inl (upd (fun _ => 0) (0 : Int32).toNatClampNeg x2)))).set 14 ((q 13), .inl (cI, 110, .inl (upd (fun _ => 0) (0 : Int32).toNatClampNeg 0)))) H := hP
  have hD : va_D A ((((mW o 0 q cI cZ).set 12 ((q 11), .inl (cI, 110, .inl (upd (fun _ => 0) (0 : Int32).toNatClampNeg 1)))).set 13 ((q 12), .inl (cI, 110, .inl (upd (fun _ => 0) (0 : Int32).toNatClampNeg x2)))).set 14 ((q 13), .inl (cI, 110, .inl (upd (fun _ => 0) (0 : Int32).toNatClampNeg 0)))) := hD
  refine lv_aload_n hx hb dX9_node_78 rfl (lv_at hl 0 rfl) ?_
  refine xg (ci := 9) S inX9 rfl hK hP (q0 := 0) rfl 17 (by decide) mF_17 kw_6_164 rfl dX9_node_79 ?_
  refine lv_aload_n hx hb dX9_node_82 rfl (lv_at hl 0 rfl) ?_
  refine xg (ci := 9) S inX9 rfl hK hP (q0 := 0) rfl 13 (by decide) mF_13 kw_6_160 rfl dX9_node_83 ?_
  refine lv_iload hx hb dX9_node_86 (lv_at hl 4 rfl) ?_
  refine xiast (t0 := 0) S hK hP hD hS (q0 := 15) rfl rfl (vin rfl) dX9_node_88 (fun H locs hP hD hS => ?_)
  have hP : va_P D vwCl (((((mW o 0 q cI cZ).set 12 ((q 11), .inl (cI, 110, .inl (upd (fun _ => 0) (0 : Int32).toNatClampNeg 1)))).set 13 ((q 12), .inl (cI, 110, .inl (upd (fun _ => 0) (0 : Int32).toNatClampNeg x2)))).set 14 ((q 13), .inl (cI, 110, .inl (upd (fun _ => 0) (0 : Int32).toNatClampNeg 0)))).set 15 ((q 14), .inl (cI, 110, .inl (upd (fun _ => 0) (0 : Int32).toNatClampNeg 0)))) H := hP
  have hD : va_D A (((((mW o 0 q cI cZ).set 12 ((q 11), .inl (cI, 110, .inl (upd (fun _ => 0) (0 : Int32).toNatClampNeg 1)))).set 13 ((q 12), .inl (cI, 110, .inl (upd (fun _ => 0) (0 : Int32).toNatClampNeg x2)))).set 14 ((q 13), .inl (cI, 110, .inl (upd (fun _ => 0) (0 : Int32).toNatClampNeg 0)))).set 15 ((q 14), .inl (cI, 110, .inl (upd (fun _ => 0) (0 : Int32).toNatClampNeg 0)))) := hD
  refine lv_aload_n hx hb dX9_node_89 rfl (lv_at hl 0 rfl) ?_
  refine xg (ci := 9) S inX9 rfl hK hP (q0 := 0) rfl 18 (by decide) mF_18 kw_6_165 rfl dX9_node_90 ?_
  refine lv_aload_n hx hb dX9_node_93 rfl (lv_at hl 0 rfl) ?_
  refine xg (ci := 9) S inX9 rfl hK hP (q0 := 0) rfl 13 (by decide) mF_13 kw_6_160 rfl dX9_node_94 ?_
  refine lv_iconst (v := (-1)) hx hb dX9_node_97 (by decide) ?_
  refine xiast (t0 := 0) S hK hP hD hS (q0 := 16) rfl rfl (vin rfl) dX9_node_98 (fun H locs hP hD hS => ?_)
  have hP : va_P D vwCl ((((((mW o 0 q cI cZ).set 12 ((q 11), .inl (cI, 110, .inl (upd (fun _ => 0) (0 : Int32).toNatClampNeg 1)))).set 13 ((q 12), .inl (cI, 110, .inl (upd (fun _ => 0) (0 : Int32).toNatClampNeg x2)))).set 14 ((q 13), .inl (cI, 110, .inl (upd (fun _ => 0) (0 : Int32).toNatClampNeg 0)))).set 15 ((q 14), .inl (cI, 110, .inl (upd (fun _ => 0) (0 : Int32).toNatClampNeg 0)))).set 16 ((q 15), .inl (cI, 110, .inl (upd (fun _ => 0) (0 : Int32).toNatClampNeg (-1))))) H := hP
  have hD : va_D A ((((((mW o 0 q cI cZ).set 12 ((q 11), .inl (cI, 110, .inl (upd (fun _ => 0) (0 : Int32).toNatClampNeg 1)))).set 13 ((q 12), .inl (cI, 110, .inl (upd (fun _ => 0) (0 : Int32).toNatClampNeg x2)))).set 14 ((q 13), .inl (cI, 110, .inl (upd (fun _ => 0) (0 : Int32).toNatClampNeg 0)))).set 15 ((q 14), .inl (cI, 110, .inl (upd (fun _ => 0) (0 : Int32).toNatClampNeg 0)))).set 16 ((q 15), .inl (cI, 110, .inl (upd (fun _ => 0) (0 : Int32).toNatClampNeg (-1))))) := hD
  refine lv_aload_n hx hb dX9_node_99 rfl (lv_at hl 0 rfl) ?_
  refine xg (ci := 9) S inX9 rfl hK hP (q0 := 0) rfl 19 (by decide) mF_19 kw_6_166 rfl dX9_node_100 ?_
  refine lv_aload_n hx hb dX9_node_103 rfl (lv_at hl 0 rfl) ?_
  refine xg (ci := 9) S inX9 rfl hK hP (q0 := 0) rfl 13 (by decide) mF_13 kw_6_160 rfl dX9_node_104 ?_
  refine lv_iconst (v := (-1)) hx hb dX9_node_107 (by decide) ?_
  refine xiast (t0 := 0) S hK hP hD hS (q0 := 17) rfl rfl (vin rfl) dX9_node_108 (fun H locs hP hD hS => ?_)
  have hP : va_P D vwCl (((((((mW o 0 q cI cZ).set 12 ((q 11), .inl (cI, 110, .inl (upd (fun _ => 0) (0 : Int32).toNatClampNeg 1)))).set 13 ((q 12), .inl (cI, 110, .inl (upd (fun _ => 0) (0 : Int32).toNatClampNeg x2)))).set 14 ((q 13), .inl (cI, 110, .inl (upd (fun _ => 0) (0 : Int32).toNatClampNeg 0)))).set 15 ((q 14), .inl (cI, 110, .inl (upd (fun _ => 0) (0 : Int32).toNatClampNeg 0)))).set 16 ((q 15), .inl (cI, 110, .inl (upd (fun _ => 0) (0 : Int32).toNatClampNeg (-1))))).set 17 ((q 16), .inl (cI, 110, .inl (upd (fun _ => 0) (0 : Int32).toNatClampNeg (-1))))) H := hP
  have hD : va_D A (((((((mW o 0 q cI cZ).set 12 ((q 11), .inl (cI, 110, .inl (upd (fun _ => 0) (0 : Int32).toNatClampNeg 1)))).set 13 ((q 12), .inl (cI, 110, .inl (upd (fun _ => 0) (0 : Int32).toNatClampNeg x2)))).set 14 ((q 13), .inl (cI, 110, .inl (upd (fun _ => 0) (0 : Int32).toNatClampNeg 0)))).set 15 ((q 14), .inl (cI, 110, .inl (upd (fun _ => 0) (0 : Int32).toNatClampNeg 0)))).set 16 ((q 15), .inl (cI, 110, .inl (upd (fun _ => 0) (0 : Int32).toNatClampNeg (-1))))).set 17 ((q 16), .inl (cI, 110, .inl (upd (fun _ => 0) (0 : Int32).toNatClampNeg (-1))))) := hD
  refine lv_iconst (v := 0) hx hb dX9_node_109 (by decide) ?_
  refine lv_istore (lv' := [(5, .int 0), (0, .ref o), (1, .int 1), (2, .int x2), (3, .int 0), (4, .int 0)]) hx hb dX9_node_110 hl (by decide) rfl (fun ls hl => ?_)
  refine lv_iload hx hb dX9_node_112 (lv_at hl 0 rfl) ?_
  refine lv_iconst (v := 3) hx hb dX9_node_114 (by decide) ?_
  refine lv_icmp_ge (tgt := 157) hx hb dX9_node_115 (by decide) (fun c => absurd c (by decide)) (fun _ => ?_)
  refine lv_aload_n hx hb dX9_node_118 rfl (lv_at hl 1 rfl) ?_
  refine lv_aload_n hx hb dX9_node_119 rfl (lv_at hl 1 rfl) ?_
  refine xg (ci := 9) S inX9 rfl hK hP (q0 := 0) rfl 13 (by decide) mF_13 kw_6_160 rfl dX9_node_120 ?_
  refine lv_iload hx hb dX9_node_123 (lv_at hl 0 rfl) ?_
  refine rdV (As := [.int 0, .int 0]) (ci := 9) S (c_X9_part_3 l D cI cZ cJ o q x2 lo_x2 hi_x2) mi_X9_part kw_7_184 ⟨rfl, rfl⟩ ⟨Nat.le_of_ble_eq_true rfl, Nat.le_of_ble_eq_true rfl⟩ hP hK (k := 0) rfl rfl rfl hl.1 (Nat.le_of_ble_eq_true rfl) ⟨Nat.le_of_ble_eq_true rfl, Nat.le_of_ble_eq_true rfl⟩ dX9_node_125 ?_
  refine lv_iconst (v := (-1)) hx hb dX9_node_128 (by decide) ?_
  refine lv_icmp_eq (tgt := 151) hx hb dX9_node_129 (by decide) (fun _ => ?_) (fun c => absurd c (by decide))
  refine lv_iinc (v := 1) (lv' := [(5, .int 1), (0, .ref o), (1, .int 1), (2, .int x2), (3, .int 0), (4, .int 0)]) hx hb dX9_node_151 hl (k := 0) rfl (by decide) (by decide) rfl (fun ls hl => ?_)
  refine lv_goto (tgt := 112) hx hb dX9_node_154 (by decide) ?_
  refine lv_iload hx hb dX9_node_112 (lv_at hl 0 rfl) ?_
  refine lv_iconst (v := 3) hx hb dX9_node_114 (by decide) ?_
  refine lv_icmp_ge (tgt := 157) hx hb dX9_node_115 (by decide) (fun c => absurd c (by decide)) (fun _ => ?_)
  refine lv_aload_n hx hb dX9_node_118 rfl (lv_at hl 1 rfl) ?_
  refine lv_aload_n hx hb dX9_node_119 rfl (lv_at hl 1 rfl) ?_
  refine xg (ci := 9) S inX9 rfl hK hP (q0 := 0) rfl 13 (by decide) mF_13 kw_6_160 rfl dX9_node_120 ?_
  refine lv_iload hx hb dX9_node_123 (lv_at hl 0 rfl) ?_
  refine rdV (As := [.int 0, .int 1]) (ci := 9) S (c_X9_part_4 l D cI cZ cJ o q x2 lo_x2 hi_x2) mi_X9_part kw_7_184 ⟨rfl, rfl⟩ ⟨Nat.le_of_ble_eq_true rfl, Nat.le_of_ble_eq_true rfl⟩ hP hK (k := 0) rfl rfl rfl hl.1 (Nat.le_of_ble_eq_true rfl) ⟨Nat.le_of_ble_eq_true rfl, Nat.le_of_ble_eq_true rfl⟩ dX9_node_125 ?_
  refine lv_iconst (v := (-1)) hx hb dX9_node_128 (by decide) ?_
  refine lv_icmp_eq (tgt := 151) hx hb dX9_node_129 (by decide) (fun _ => ?_) (fun c => absurd c (by decide))
  refine lv_iinc (v := 2) (lv' := [(5, .int 2), (0, .ref o), (1, .int 1), (2, .int x2), (3, .int 0), (4, .int 0)]) hx hb dX9_node_151 hl (k := 0) rfl (by decide) (by decide) rfl (fun ls hl => ?_)
  refine lv_goto (tgt := 112) hx hb dX9_node_154 (by decide) ?_
  refine lv_iload hx hb dX9_node_112 (lv_at hl 0 rfl) ?_
  refine lv_iconst (v := 3) hx hb dX9_node_114 (by decide) ?_
  refine lv_icmp_ge (tgt := 157) hx hb dX9_node_115 (by decide) (fun c => absurd c (by decide)) (fun _ => ?_)
  refine lv_aload_n hx hb dX9_node_118 rfl (lv_at hl 1 rfl) ?_
  refine lv_aload_n hx hb dX9_node_119 rfl (lv_at hl 1 rfl) ?_
  refine xg (ci := 9) S inX9 rfl hK hP (q0 := 0) rfl 13 (by decide) mF_13 kw_6_160 rfl dX9_node_120 ?_
  refine lv_iload hx hb dX9_node_123 (lv_at hl 0 rfl) ?_
  refine rdV (As := [.int 0, .int 2]) (ci := 9) S (c_X9_part_5 l D cI cZ cJ o q x2 lo_x2 hi_x2) mi_X9_part kw_7_184 ⟨rfl, rfl⟩ ⟨Nat.le_of_ble_eq_true rfl, Nat.le_of_ble_eq_true rfl⟩ hP hK (k := 0) rfl rfl rfl hl.1 (Nat.le_of_ble_eq_true rfl) ⟨Nat.le_of_ble_eq_true rfl, Nat.le_of_ble_eq_true rfl⟩ dX9_node_125 ?_
  refine lv_iconst (v := (-1)) hx hb dX9_node_128 (by decide) ?_
  refine lv_icmp_eq (tgt := 151) hx hb dX9_node_129 (by decide) (fun _ => ?_) (fun c => absurd c (by decide))
  refine lv_iinc (v := 3) (lv' := [(5, .int 3), (0, .ref o), (1, .int 1), (2, .int x2), (3, .int 0), (4, .int 0)]) hx hb dX9_node_151 hl (k := 0) rfl (by decide) (by decide) rfl (fun ls hl => ?_)
  refine lv_goto (tgt := 112) hx hb dX9_node_154 (by decide) ?_
  refine lv_iload hx hb dX9_node_112 (lv_at hl 0 rfl) ?_
  refine lv_iconst (v := 3) hx hb dX9_node_114 (by decide) ?_
  refine lv_icmp_ge (tgt := 157) hx hb dX9_node_115 (by decide) (fun _ => ?_) (fun c => absurd c (by decide))
  refine lv_aload_n hx hb dX9_node_157 rfl (lv_at hl 1 rfl) ?_
  refine lv_dup hx hb dX9_node_158 rfl ?_
  refine xg (ci := 9) S inX9 rfl hK hP (q0 := 0) rfl 13 (by decide) mF_13 kw_6_160 rfl dX9_node_159 ?_
  refine lv_dup_x1 hx hb dX9_node_162 rfl rfl ?_
  refine lv_iconst (v := 1) hx hb dX9_node_163 (by decide) ?_
  refine xiadd (v := 1) S dX9_node_164 (by decide) ?_
  refine xp (ci := 9) (v := .int 1) S inX9 tyX9 tyX9_ok nmX9 rfl hK hP hD hS (q0 := 0) rfl 13 (by decide) kw_6_160 rfl rfl rfl rfl (Nat.le_of_ble_eq_true rfl) dX9_node_165 (fun H locs hP hD hS => ?_)
  have hP : va_P D vwCl ((((((((mW o 0 q cI cZ).set 0 (o, .inr (9, ((mF 0 q).set 13 (.int 1))))).set 12 ((q 11), .inl (cI, 110, .inl (upd (fun _ => 0) (0 : Int32).toNatClampNeg 1)))).set 13 ((q 12), .inl (cI, 110, .inl (upd (fun _ => 0) (0 : Int32).toNatClampNeg x2)))).set 14 ((q 13), .inl (cI, 110, .inl (upd (fun _ => 0) (0 : Int32).toNatClampNeg 0)))).set 15 ((q 14), .inl (cI, 110, .inl (upd (fun _ => 0) (0 : Int32).toNatClampNeg 0)))).set 16 ((q 15), .inl (cI, 110, .inl (upd (fun _ => 0) (0 : Int32).toNatClampNeg (-1))))).set 17 ((q 16), .inl (cI, 110, .inl (upd (fun _ => 0) (0 : Int32).toNatClampNeg (-1))))) H := hP
  have hD : va_D A ((((((((mW o 0 q cI cZ).set 0 (o, .inr (9, ((mF 0 q).set 13 (.int 1))))).set 12 ((q 11), .inl (cI, 110, .inl (upd (fun _ => 0) (0 : Int32).toNatClampNeg 1)))).set 13 ((q 12), .inl (cI, 110, .inl (upd (fun _ => 0) (0 : Int32).toNatClampNeg x2)))).set 14 ((q 13), .inl (cI, 110, .inl (upd (fun _ => 0) (0 : Int32).toNatClampNeg 0)))).set 15 ((q 14), .inl (cI, 110, .inl (upd (fun _ => 0) (0 : Int32).toNatClampNeg 0)))).set 16 ((q 15), .inl (cI, 110, .inl (upd (fun _ => 0) (0 : Int32).toNatClampNeg (-1))))).set 17 ((q 16), .inl (cI, 110, .inl (upd (fun _ => 0) (0 : Int32).toNatClampNeg (-1))))) := hD
  exact wEnd S hr hlocks hP hD hS (Nat.le_of_ble_eq_true rfl) (Nat.le_of_ble_eq_true rfl) dX9_node_168 rfl

set_option maxHeartbeats 8000000 in
set_option maxRecDepth 100000 in
theorem c_X9_isIn_35 (l : Launch) (D : va_G) (cI cZ cJ : ClassId) (o : Nat) (q : Nat → Nat) : Met l yX9_isIn (uW yX9_isIn cX9_isIn 3 (some .boolean)) ({ frames := 0, cells := 0, slots := 0, locals := 0 }) (va_Pc [.int 10, .int 0, .int 21] (pS D (tyL cI cZ cJ) (mW o 0 q cI cZ))) (QcRead (1)) 0 0 (fun _ => False) := by
  refine rdStart (lv := [(0, .int 10), (1, .int 0), (2, .int 21)]) (by decide) (Nat.le_of_ble_eq_true rfl) rfl ?_
  intro p e s m args below meth c ls S hr hlocks hl hP hK
  have hx := S.1
  have hb := S.2.1
  refine lv_iload_n hx hb dX9_isIn_0 rfl (lv_at hl 0 rfl) ?_
  refine lv_iload_n hx hb dX9_isIn_1 rfl (lv_at hl 1 rfl) ?_
  refine lv_icmp_lt (tgt := 14) hx hb dX9_isIn_2 (by decide) (fun c => absurd c (by decide)) (fun _ => ?_)
  refine lv_iload_n hx hb dX9_isIn_5 rfl (lv_at hl 0 rfl) ?_
  refine lv_iload_n hx hb dX9_isIn_6 rfl (lv_at hl 2 rfl) ?_
  refine lv_icmp_gt (tgt := 14) hx hb dX9_isIn_7 (by decide) (fun c => absurd c (by decide)) (fun _ => ?_)
  refine lv_iconst (v := 1) hx hb dX9_isIn_10 (by decide) ?_
  refine lv_goto (tgt := 15) hx hb dX9_isIn_11 (by decide) ?_
  exact rdEndZ S hr hlocks dX9_isIn_15 rfl rfl

set_option maxHeartbeats 8000000 in
set_option maxRecDepth 100000 in
theorem c_X9_canBe_8 (l : Launch) (D : va_G) (cI cZ cJ : ClassId) (o : Nat) (q : Nat → Nat) (x2 : Int32) (x3 : Int32) (x4 : Int32) (ou_x2_0_15 : ¬ (0 ≤ x2 ∧ x2 ≤ 15)) : Met l yX9_canBe (uW yX9_canBe cX9_canBe 5 (some .boolean)) ({ frames := 2, cells := 0, slots := 0, locals := 42 }) (va_Pc [.ref o, .int 10, .int x2, .int x3, .int x4] (pS D (tyL cI cZ cJ) (mW o 0 q cI cZ))) (QcRead (0)) 0 0 (fun _ => False) := by
  refine rdStart (lv := [(0, .ref o), (1, .int 10), (2, .int x2), (3, .int x3), (4, .int x4)]) (by decide) (Nat.le_of_ble_eq_true rfl) rfl ?_
  intro p e s m args below meth c ls S hr hlocks hl hP hK
  have hx := S.1
  have hb := S.2.1
  refine lv_iload_n hx hb dX9_canBe_0 rfl (lv_at hl 1 rfl) ?_
  refine lv_tableIn (off := 131) (tgt := 132) hx hb dX9_canBe_1 (by decide) (by decide) (by decide) (by decide) ?_
  refine lv_iload_n hx hb dX9_canBe_132 rfl (lv_at hl 2 rfl) ?_
  refine rdS (As := [.int x2]) S (c_X9_isName_0 l D cI cZ cJ o q x2 ou_x2_0_15) ms_X9_isName kw_7_107 ⟨rfl, rfl⟩ ⟨Nat.le_of_ble_eq_true rfl, Nat.le_of_ble_eq_true rfl⟩ hP hK hl.1 (Nat.le_of_ble_eq_true rfl) ⟨Nat.le_of_ble_eq_true rfl, Nat.le_of_ble_eq_true rfl⟩ dX9_canBe_133 ?_
  refine lv_if_eq (tgt := 152) hx hb dX9_canBe_136 (by decide) (fun _ => ?_) (fun c => absurd c (by decide))
  refine lv_iconst (v := 0) hx hb dX9_canBe_152 (by decide) ?_
  exact rdEndZ S hr hlocks dX9_canBe_153 rfl rfl

set_option maxHeartbeats 8000000 in
set_option maxRecDepth 100000 in
theorem m_node_k10a (l : Launch) (D : va_G) (cI cZ cJ : ClassId) (o : Nat) (q : Nat → Nat) (sz : Nat) (x2 : Int32) (x3 : Int32) (x4 : Int32) (ou_x2_0_15 : ¬ (0 ≤ x2 ∧ x2 ≤ 15)) : Met l yX9_node (uW yX9_node cX9_node 6 (some .int)) ({ frames := 3, cells := 0, slots := 0, locals := 66 }) (va_Pc [.ref o, .int 10, .int x2, .int x3, .int x4] (wS D (tyL cI cZ cJ) (mW o 0 q cI cZ) sz)) (wQi (0) D (mW o 1 q cI cZ) (va_A (mW o 0 q cI cZ) sz)) 0 0 (va_A (mW o 0 q cI cZ) sz) := by
  refine wStart (lv := [(0, .ref o), (1, .int 10), (2, .int x2), (3, .int x3), (4, .int x4)]) (Qc := fun A => wQi (0) D (mW o 1 q cI cZ) A) (by decide) (Nat.le_of_ble_eq_true rfl) rfl ?_
  intro p e s m args below meth c ls A H S hr hlocks hnm hl hK hP hD hS hA
  have hx := S.1
  have hb := S.2.1
  refine lv_aload_n hx hb dX9_node_0 rfl (lv_at hl 0 rfl) ?_
  refine lv_iconst (v := 0) hx hb dX9_node_1 (by decide) ?_
  refine xp (ci := 9) (v := .int 0) S inX9 tyX9 tyX9_ok nmX9 rfl hK hP hD hS mW_0 0 (by decide) kw_6_147 rfl rfl rfl rfl (Nat.le_of_ble_eq_true rfl) dX9_node_2 (fun H locs hP hD hS => ?_)
  have hP : va_P D vwCl (mW o 0 q cI cZ) H := hP
  have hD : va_D A (mW o 0 q cI cZ) := hD
  refine lv_iload_n hx hb dX9_node_5 rfl (lv_at hl 1 rfl) ?_
  refine lv_iconst (v := 0) hx hb dX9_node_6 (by decide) ?_
  refine lv_bipush (v := 21) hx hb dX9_node_7 (by decide) ?_
  refine rdS (As := [.int 10, .int 0, .int 21]) S (c_X9_isIn_35 l D cI cZ cJ o q) ms_X9_isIn kw_7_100 ⟨rfl, rfl⟩ ⟨Nat.le_of_ble_eq_true rfl, Nat.le_of_ble_eq_true rfl⟩ hP hK hl.1 (Nat.le_of_ble_eq_true rfl) ⟨Nat.le_of_ble_eq_true rfl, Nat.le_of_ble_eq_true rfl⟩ dX9_node_9 ?_
  refine lv_if_eq (tgt := 27) hx hb dX9_node_12 (by decide) (fun c => absurd c (by decide)) (fun _ => ?_)
  refine lv_aload_n hx hb dX9_node_15 rfl (lv_at hl 0 rfl) ?_
  refine lv_iload_n hx hb dX9_node_16 rfl (lv_at hl 1 rfl) ?_
  refine lv_iload_n hx hb dX9_node_17 rfl (lv_at hl 2 rfl) ?_
  refine lv_iload_n hx hb dX9_node_18 rfl (lv_at hl 3 rfl) ?_
  refine lv_iload hx hb dX9_node_19 (lv_at hl 4 rfl) ?_
  refine rdV (As := [.int 10, .int x2, .int x3, .int x4]) (ci := 9) S (c_X9_canBe_8 l D cI cZ cJ o q x2 x3 x4 ou_x2_0_15) mi_X9_canBe kw_7_154 ⟨rfl, rfl⟩ ⟨Nat.le_of_ble_eq_true rfl, Nat.le_of_ble_eq_true rfl⟩ hP hK mW_0 rfl rfl hl.1 (Nat.le_of_ble_eq_true rfl) ⟨Nat.le_of_ble_eq_true rfl, Nat.le_of_ble_eq_true rfl⟩ dX9_node_21 ?_
  refine lv_if_ne (tgt := 33) hx hb dX9_node_24 (by decide) (fun c => absurd c (by decide)) (fun _ => ?_)
  refine lv_aload_n hx hb dX9_node_27 rfl (lv_at hl 0 rfl) ?_
  refine lv_iconst (v := 1) hx hb dX9_node_28 (by decide) ?_
  refine wrV (As := [.int 1]) (ci := 9) S (c_X9_no_0 l D cI cZ cJ o q H.size) mi_X9_no kw_7_103 rfl rfl ⟨Nat.le_of_ble_eq_true rfl, Nat.le_of_ble_eq_true rfl⟩ hP hD hK hS hA mW_0 rfl rfl hl.1 (Nat.le_of_ble_eq_true rfl) ⟨Nat.le_of_ble_eq_true rfl, Nat.le_of_ble_eq_true rfl⟩ dX9_node_29 (fun H locs hz hP hD hS => ?_)
  exact wEnd S hr hlocks hP hD hS (Nat.le_of_ble_eq_true rfl) (Nat.le_of_ble_eq_true rfl) dX9_node_32 rfl

set_option maxHeartbeats 8000000 in
set_option maxRecDepth 100000 in
theorem c_X9_canBe_9 (l : Launch) (D : va_G) (cI cZ cJ : ClassId) (o : Nat) (q : Nat → Nat) (x2 : Int32) (x3 : Int32) (x4 : Int32) (lo_x2 : 0 ≤ x2) (hi_x2 : x2 ≤ 15) (ne_x3_0 : ¬ x3 = 0) : Met l yX9_canBe (uW yX9_canBe cX9_canBe 5 (some .boolean)) ({ frames := 2, cells := 0, slots := 0, locals := 42 }) (va_Pc [.ref o, .int 10, .int x2, .int x3, .int x4] (pS D (tyL cI cZ cJ) (mW o 0 q cI cZ))) (QcRead (0)) 0 0 (fun _ => False) := by
  refine rdStart (lv := [(0, .ref o), (1, .int 10), (2, .int x2), (3, .int x3), (4, .int x4)]) (by decide) (Nat.le_of_ble_eq_true rfl) rfl ?_
  intro p e s m args below meth c ls S hr hlocks hl hP hK
  have hx := S.1
  have hb := S.2.1
  refine lv_iload_n hx hb dX9_canBe_0 rfl (lv_at hl 1 rfl) ?_
  refine lv_tableIn (off := 131) (tgt := 132) hx hb dX9_canBe_1 (by decide) (by decide) (by decide) (by decide) ?_
  refine lv_iload_n hx hb dX9_canBe_132 rfl (lv_at hl 2 rfl) ?_
  refine rdS (As := [.int x2]) S (c_X9_isName_1 l D cI cZ cJ o q x2 lo_x2 hi_x2) ms_X9_isName kw_7_107 ⟨rfl, rfl⟩ ⟨Nat.le_of_ble_eq_true rfl, Nat.le_of_ble_eq_true rfl⟩ hP hK hl.1 (Nat.le_of_ble_eq_true rfl) ⟨Nat.le_of_ble_eq_true rfl, Nat.le_of_ble_eq_true rfl⟩ dX9_canBe_133 ?_
  refine lv_if_eq (tgt := 152) hx hb dX9_canBe_136 (by decide) (fun c => absurd c (by decide)) (fun _ => ?_)
  refine lv_iload_n hx hb dX9_canBe_139 rfl (lv_at hl 3 rfl) ?_
  refine lv_if_ne (tgt := 152) hx hb dX9_canBe_140 (by decide) (fun _ => ?_) (fun c => absurd c ne_x3_0)
  refine lv_iconst (v := 0) hx hb dX9_canBe_152 (by decide) ?_
  exact rdEndZ S hr hlocks dX9_canBe_153 rfl rfl

set_option maxHeartbeats 8000000 in
set_option maxRecDepth 100000 in
theorem m_node_k10b (l : Launch) (D : va_G) (cI cZ cJ : ClassId) (o : Nat) (q : Nat → Nat) (sz : Nat) (x2 : Int32) (x3 : Int32) (x4 : Int32) (lo_x2 : 0 ≤ x2) (hi_x2 : x2 ≤ 15) (ne_x3_0 : ¬ x3 = 0) : Met l yX9_node (uW yX9_node cX9_node 6 (some .int)) ({ frames := 3, cells := 0, slots := 0, locals := 66 }) (va_Pc [.ref o, .int 10, .int x2, .int x3, .int x4] (wS D (tyL cI cZ cJ) (mW o 0 q cI cZ) sz)) (wQi (0) D (mW o 1 q cI cZ) (va_A (mW o 0 q cI cZ) sz)) 0 0 (va_A (mW o 0 q cI cZ) sz) := by
  refine wStart (lv := [(0, .ref o), (1, .int 10), (2, .int x2), (3, .int x3), (4, .int x4)]) (Qc := fun A => wQi (0) D (mW o 1 q cI cZ) A) (by decide) (Nat.le_of_ble_eq_true rfl) rfl ?_
  intro p e s m args below meth c ls A H S hr hlocks hnm hl hK hP hD hS hA
  have hx := S.1
  have hb := S.2.1
  refine lv_aload_n hx hb dX9_node_0 rfl (lv_at hl 0 rfl) ?_
  refine lv_iconst (v := 0) hx hb dX9_node_1 (by decide) ?_
  refine xp (ci := 9) (v := .int 0) S inX9 tyX9 tyX9_ok nmX9 rfl hK hP hD hS mW_0 0 (by decide) kw_6_147 rfl rfl rfl rfl (Nat.le_of_ble_eq_true rfl) dX9_node_2 (fun H locs hP hD hS => ?_)
  have hP : va_P D vwCl (mW o 0 q cI cZ) H := hP
  have hD : va_D A (mW o 0 q cI cZ) := hD
  refine lv_iload_n hx hb dX9_node_5 rfl (lv_at hl 1 rfl) ?_
  refine lv_iconst (v := 0) hx hb dX9_node_6 (by decide) ?_
  refine lv_bipush (v := 21) hx hb dX9_node_7 (by decide) ?_
  refine rdS (As := [.int 10, .int 0, .int 21]) S (c_X9_isIn_35 l D cI cZ cJ o q) ms_X9_isIn kw_7_100 ⟨rfl, rfl⟩ ⟨Nat.le_of_ble_eq_true rfl, Nat.le_of_ble_eq_true rfl⟩ hP hK hl.1 (Nat.le_of_ble_eq_true rfl) ⟨Nat.le_of_ble_eq_true rfl, Nat.le_of_ble_eq_true rfl⟩ dX9_node_9 ?_
  refine lv_if_eq (tgt := 27) hx hb dX9_node_12 (by decide) (fun c => absurd c (by decide)) (fun _ => ?_)
  refine lv_aload_n hx hb dX9_node_15 rfl (lv_at hl 0 rfl) ?_
  refine lv_iload_n hx hb dX9_node_16 rfl (lv_at hl 1 rfl) ?_
  refine lv_iload_n hx hb dX9_node_17 rfl (lv_at hl 2 rfl) ?_
  refine lv_iload_n hx hb dX9_node_18 rfl (lv_at hl 3 rfl) ?_
  refine lv_iload hx hb dX9_node_19 (lv_at hl 4 rfl) ?_
  refine rdV (As := [.int 10, .int x2, .int x3, .int x4]) (ci := 9) S (c_X9_canBe_9 l D cI cZ cJ o q x2 x3 x4 lo_x2 hi_x2 ne_x3_0) mi_X9_canBe kw_7_154 ⟨rfl, rfl⟩ ⟨Nat.le_of_ble_eq_true rfl, Nat.le_of_ble_eq_true rfl⟩ hP hK mW_0 rfl rfl hl.1 (Nat.le_of_ble_eq_true rfl) ⟨Nat.le_of_ble_eq_true rfl, Nat.le_of_ble_eq_true rfl⟩ dX9_node_21 ?_
  refine lv_if_ne (tgt := 33) hx hb dX9_node_24 (by decide) (fun c => absurd c (by decide)) (fun _ => ?_)
  refine lv_aload_n hx hb dX9_node_27 rfl (lv_at hl 0 rfl) ?_
  refine lv_iconst (v := 1) hx hb dX9_node_28 (by decide) ?_
  refine wrV (As := [.int 1]) (ci := 9) S (c_X9_no_0 l D cI cZ cJ o q H.size) mi_X9_no kw_7_103 rfl rfl ⟨Nat.le_of_ble_eq_true rfl, Nat.le_of_ble_eq_true rfl⟩ hP hD hK hS hA mW_0 rfl rfl hl.1 (Nat.le_of_ble_eq_true rfl) ⟨Nat.le_of_ble_eq_true rfl, Nat.le_of_ble_eq_true rfl⟩ dX9_node_29 (fun H locs hz hP hD hS => ?_)
  exact wEnd S hr hlocks hP hD hS (Nat.le_of_ble_eq_true rfl) (Nat.le_of_ble_eq_true rfl) dX9_node_32 rfl

set_option maxHeartbeats 8000000 in
set_option maxRecDepth 100000 in
theorem c_X9_canBe_10 (l : Launch) (D : va_G) (cI cZ cJ : ClassId) (o : Nat) (q : Nat → Nat) (x2 : Int32) (x4 : Int32) (lo_x2 : 0 ≤ x2) (hi_x2 : x2 ≤ 15) (ne_x4_0 : ¬ x4 = 0) : Met l yX9_canBe (uW yX9_canBe cX9_canBe 5 (some .boolean)) ({ frames := 2, cells := 0, slots := 0, locals := 42 }) (va_Pc [.ref o, .int 10, .int x2, .int 0, .int x4] (pS D (tyL cI cZ cJ) (mW o 0 q cI cZ))) (QcRead (0)) 0 0 (fun _ => False) := by
  refine rdStart (lv := [(0, .ref o), (1, .int 10), (2, .int x2), (3, .int 0), (4, .int x4)]) (by decide) (Nat.le_of_ble_eq_true rfl) rfl ?_
  intro p e s m args below meth c ls S hr hlocks hl hP hK
  have hx := S.1
  have hb := S.2.1
  refine lv_iload_n hx hb dX9_canBe_0 rfl (lv_at hl 1 rfl) ?_
  refine lv_tableIn (off := 131) (tgt := 132) hx hb dX9_canBe_1 (by decide) (by decide) (by decide) (by decide) ?_
  refine lv_iload_n hx hb dX9_canBe_132 rfl (lv_at hl 2 rfl) ?_
  refine rdS (As := [.int x2]) S (c_X9_isName_1 l D cI cZ cJ o q x2 lo_x2 hi_x2) ms_X9_isName kw_7_107 ⟨rfl, rfl⟩ ⟨Nat.le_of_ble_eq_true rfl, Nat.le_of_ble_eq_true rfl⟩ hP hK hl.1 (Nat.le_of_ble_eq_true rfl) ⟨Nat.le_of_ble_eq_true rfl, Nat.le_of_ble_eq_true rfl⟩ dX9_canBe_133 ?_
  refine lv_if_eq (tgt := 152) hx hb dX9_canBe_136 (by decide) (fun c => absurd c (by decide)) (fun _ => ?_)
  refine lv_iload_n hx hb dX9_canBe_139 rfl (lv_at hl 3 rfl) ?_
  refine lv_if_ne (tgt := 152) hx hb dX9_canBe_140 (by decide) (fun c => absurd c (by decide)) (fun _ => ?_)
  refine lv_iload hx hb dX9_canBe_143 (lv_at hl 4 rfl) ?_
  refine lv_if_ne (tgt := 152) hx hb dX9_canBe_145 (by decide) (fun _ => ?_) (fun c => absurd c ne_x4_0)
  refine lv_iconst (v := 0) hx hb dX9_canBe_152 (by decide) ?_
  exact rdEndZ S hr hlocks dX9_canBe_153 rfl rfl

set_option maxHeartbeats 8000000 in
set_option maxRecDepth 100000 in
theorem m_node_k10c (l : Launch) (D : va_G) (cI cZ cJ : ClassId) (o : Nat) (q : Nat → Nat) (sz : Nat) (x2 : Int32) (x4 : Int32) (lo_x2 : 0 ≤ x2) (hi_x2 : x2 ≤ 15) (ne_x4_0 : ¬ x4 = 0) : Met l yX9_node (uW yX9_node cX9_node 6 (some .int)) ({ frames := 3, cells := 0, slots := 0, locals := 66 }) (va_Pc [.ref o, .int 10, .int x2, .int 0, .int x4] (wS D (tyL cI cZ cJ) (mW o 0 q cI cZ) sz)) (wQi (0) D (mW o 1 q cI cZ) (va_A (mW o 0 q cI cZ) sz)) 0 0 (va_A (mW o 0 q cI cZ) sz) := by
  refine wStart (lv := [(0, .ref o), (1, .int 10), (2, .int x2), (3, .int 0), (4, .int x4)]) (Qc := fun A => wQi (0) D (mW o 1 q cI cZ) A) (by decide) (Nat.le_of_ble_eq_true rfl) rfl ?_
  intro p e s m args below meth c ls A H S hr hlocks hnm hl hK hP hD hS hA
  have hx := S.1
  have hb := S.2.1
  refine lv_aload_n hx hb dX9_node_0 rfl (lv_at hl 0 rfl) ?_
  refine lv_iconst (v := 0) hx hb dX9_node_1 (by decide) ?_
  refine xp (ci := 9) (v := .int 0) S inX9 tyX9 tyX9_ok nmX9 rfl hK hP hD hS mW_0 0 (by decide) kw_6_147 rfl rfl rfl rfl (Nat.le_of_ble_eq_true rfl) dX9_node_2 (fun H locs hP hD hS => ?_)
  have hP : va_P D vwCl (mW o 0 q cI cZ) H := hP
  have hD : va_D A (mW o 0 q cI cZ) := hD
  refine lv_iload_n hx hb dX9_node_5 rfl (lv_at hl 1 rfl) ?_
  refine lv_iconst (v := 0) hx hb dX9_node_6 (by decide) ?_
  refine lv_bipush (v := 21) hx hb dX9_node_7 (by decide) ?_
  refine rdS (As := [.int 10, .int 0, .int 21]) S (c_X9_isIn_35 l D cI cZ cJ o q) ms_X9_isIn kw_7_100 ⟨rfl, rfl⟩ ⟨Nat.le_of_ble_eq_true rfl, Nat.le_of_ble_eq_true rfl⟩ hP hK hl.1 (Nat.le_of_ble_eq_true rfl) ⟨Nat.le_of_ble_eq_true rfl, Nat.le_of_ble_eq_true rfl⟩ dX9_node_9 ?_
  refine lv_if_eq (tgt := 27) hx hb dX9_node_12 (by decide) (fun c => absurd c (by decide)) (fun _ => ?_)
  refine lv_aload_n hx hb dX9_node_15 rfl (lv_at hl 0 rfl) ?_
  refine lv_iload_n hx hb dX9_node_16 rfl (lv_at hl 1 rfl) ?_
  refine lv_iload_n hx hb dX9_node_17 rfl (lv_at hl 2 rfl) ?_
  refine lv_iload_n hx hb dX9_node_18 rfl (lv_at hl 3 rfl) ?_
  refine lv_iload hx hb dX9_node_19 (lv_at hl 4 rfl) ?_
  refine rdV (As := [.int 10, .int x2, .int 0, .int x4]) (ci := 9) S (c_X9_canBe_10 l D cI cZ cJ o q x2 x4 lo_x2 hi_x2 ne_x4_0) mi_X9_canBe kw_7_154 ⟨rfl, rfl⟩ ⟨Nat.le_of_ble_eq_true rfl, Nat.le_of_ble_eq_true rfl⟩ hP hK mW_0 rfl rfl hl.1 (Nat.le_of_ble_eq_true rfl) ⟨Nat.le_of_ble_eq_true rfl, Nat.le_of_ble_eq_true rfl⟩ dX9_node_21 ?_
  refine lv_if_ne (tgt := 33) hx hb dX9_node_24 (by decide) (fun c => absurd c (by decide)) (fun _ => ?_)
  refine lv_aload_n hx hb dX9_node_27 rfl (lv_at hl 0 rfl) ?_
  refine lv_iconst (v := 1) hx hb dX9_node_28 (by decide) ?_
  refine wrV (As := [.int 1]) (ci := 9) S (c_X9_no_0 l D cI cZ cJ o q H.size) mi_X9_no kw_7_103 rfl rfl ⟨Nat.le_of_ble_eq_true rfl, Nat.le_of_ble_eq_true rfl⟩ hP hD hK hS hA mW_0 rfl rfl hl.1 (Nat.le_of_ble_eq_true rfl) ⟨Nat.le_of_ble_eq_true rfl, Nat.le_of_ble_eq_true rfl⟩ dX9_node_29 (fun H locs hz hP hD hS => ?_)
  exact wEnd S hr hlocks hP hD hS (Nat.le_of_ble_eq_true rfl) (Nat.le_of_ble_eq_true rfl) dX9_node_32 rfl

set_option maxHeartbeats 8000000 in
set_option maxRecDepth 100000 in
theorem c_X9_canBe_11 (l : Launch) (D : va_G) (cI cZ cJ : ClassId) (o : Nat) (q : Nat → Nat) (x2 : Int32) (lo_x2 : 0 ≤ x2) (hi_x2 : x2 ≤ 15) : Met l yX9_canBe (uW yX9_canBe cX9_canBe 5 (some .boolean)) ({ frames := 2, cells := 0, slots := 0, locals := 42 }) (va_Pc [.ref o, .int 10, .int x2, .int 0, .int 0] (pS D (tyL cI cZ cJ) (mW o 0 q cI cZ))) (QcRead (1)) 0 0 (fun _ => False) := by
  refine rdStart (lv := [(0, .ref o), (1, .int 10), (2, .int x2), (3, .int 0), (4, .int 0)]) (by decide) (Nat.le_of_ble_eq_true rfl) rfl ?_
  intro p e s m args below meth c ls S hr hlocks hl hP hK
  have hx := S.1
  have hb := S.2.1
  refine lv_iload_n hx hb dX9_canBe_0 rfl (lv_at hl 1 rfl) ?_
  refine lv_tableIn (off := 131) (tgt := 132) hx hb dX9_canBe_1 (by decide) (by decide) (by decide) (by decide) ?_
  refine lv_iload_n hx hb dX9_canBe_132 rfl (lv_at hl 2 rfl) ?_
  refine rdS (As := [.int x2]) S (c_X9_isName_1 l D cI cZ cJ o q x2 lo_x2 hi_x2) ms_X9_isName kw_7_107 ⟨rfl, rfl⟩ ⟨Nat.le_of_ble_eq_true rfl, Nat.le_of_ble_eq_true rfl⟩ hP hK hl.1 (Nat.le_of_ble_eq_true rfl) ⟨Nat.le_of_ble_eq_true rfl, Nat.le_of_ble_eq_true rfl⟩ dX9_canBe_133 ?_
  refine lv_if_eq (tgt := 152) hx hb dX9_canBe_136 (by decide) (fun c => absurd c (by decide)) (fun _ => ?_)
  refine lv_iload_n hx hb dX9_canBe_139 rfl (lv_at hl 3 rfl) ?_
  refine lv_if_ne (tgt := 152) hx hb dX9_canBe_140 (by decide) (fun c => absurd c (by decide)) (fun _ => ?_)
  refine lv_iload hx hb dX9_canBe_143 (lv_at hl 4 rfl) ?_
  refine lv_if_ne (tgt := 152) hx hb dX9_canBe_145 (by decide) (fun c => absurd c (by decide)) (fun _ => ?_)
  refine lv_iconst (v := 1) hx hb dX9_canBe_148 (by decide) ?_
  refine lv_goto (tgt := 153) hx hb dX9_canBe_149 (by decide) ?_
  exact rdEndZ S hr hlocks dX9_canBe_153 rfl rfl

set_option maxHeartbeats 8000000 in
set_option maxRecDepth 100000 in
theorem c_X9_parts_2 (l : Launch) (D : va_G) (cI cZ cJ : ClassId) (o : Nat) (q : Nat → Nat) (x2 : Int32) (lo_x2 : 0 ≤ x2) (hi_x2 : x2 ≤ 15) : Met l yX9_parts (uW yX9_parts cX9_parts 1 (some .int)) ({ frames := 0, cells := 0, slots := 0, locals := 0 }) (va_Pc [.int 10] (pS D (tyL cI cZ cJ) (((((((mW o 0 q cI cZ).set 12 ((q 11), .inl (cI, 110, .inl (upd (fun _ => 0) (0 : Int32).toNatClampNeg 10)))).set 13 ((q 12), .inl (cI, 110, .inl (upd (fun _ => 0) (0 : Int32).toNatClampNeg x2)))).set 14 ((q 13), .inl (cI, 110, .inl (upd (fun _ => 0) (0 : Int32).toNatClampNeg 0)))).set 15 ((q 14), .inl (cI, 110, .inl (upd (fun _ => 0) (0 : Int32).toNatClampNeg 0)))).set 16 ((q 15), .inl (cI, 110, .inl (upd (fun _ => 0) (0 : Int32).toNatClampNeg (-1))))).set 17 ((q 16), .inl (cI, 110, .inl (upd (fun _ => 0) (0 : Int32).toNatClampNeg (-1))))))) (QcRead (0)) 0 0 (fun _ => False) := by
  refine rdStart (lv := [(0, .int 10)]) (by decide) (Nat.le_of_ble_eq_true rfl) rfl ?_
  intro p e s m args below meth c ls S hr hlocks hl hP hK
  have hx := S.1
  have hb := S.2.1
  refine lv_iload_n hx hb dX9_parts_0 rfl (lv_at hl 0 rfl) ?_
  refine lv_tableIn (off := 103) (tgt := 104) hx hb dX9_parts_1 (by decide) (by decide) (by decide) (by decide) ?_
  refine lv_iconst (v := 0) hx hb dX9_parts_104 (by decide) ?_
  exact rdEnd S hr hlocks dX9_parts_105 rfl

set_option maxHeartbeats 8000000 in
set_option maxRecDepth 100000 in
theorem c_X9_has_6 (l : Launch) (D : va_G) (cI cZ cJ : ClassId) (o : Nat) (q : Nat → Nat) (x2 : Int32) (lo_x2 : 0 ≤ x2) (hi_x2 : x2 ≤ 15) : Met l yX9_has (uW yX9_has cX9_has 2 (some .boolean)) ({ frames := 0, cells := 0, slots := 0, locals := 0 }) (va_Pc [.int 0, .int 0] (pS D (tyL cI cZ cJ) (((((((mW o 0 q cI cZ).set 12 ((q 11), .inl (cI, 110, .inl (upd (fun _ => 0) (0 : Int32).toNatClampNeg 10)))).set 13 ((q 12), .inl (cI, 110, .inl (upd (fun _ => 0) (0 : Int32).toNatClampNeg x2)))).set 14 ((q 13), .inl (cI, 110, .inl (upd (fun _ => 0) (0 : Int32).toNatClampNeg 0)))).set 15 ((q 14), .inl (cI, 110, .inl (upd (fun _ => 0) (0 : Int32).toNatClampNeg 0)))).set 16 ((q 15), .inl (cI, 110, .inl (upd (fun _ => 0) (0 : Int32).toNatClampNeg (-1))))).set 17 ((q 16), .inl (cI, 110, .inl (upd (fun _ => 0) (0 : Int32).toNatClampNeg (-1))))))) (QcRead (0)) 0 0 (fun _ => False) := by
  refine rdStart (lv := [(0, .int 0), (1, .int 0)]) (by decide) (Nat.le_of_ble_eq_true rfl) rfl ?_
  intro p e s m args below meth c ls S hr hlocks hl hP hK
  have hx := S.1
  have hb := S.2.1
  refine lv_iload_n hx hb dX9_has_0 rfl (lv_at hl 0 rfl) ?_
  refine lv_iload_n hx hb dX9_has_1 rfl (lv_at hl 1 rfl) ?_
  refine xishr (v := 0) S dX9_has_2 (by decide) ?_
  refine lv_iconst (v := 1) hx hb dX9_has_3 (by decide) ?_
  refine xiand (v := 0) S dX9_has_4 (by decide) ?_
  refine lv_iconst (v := 1) hx hb dX9_has_5 (by decide) ?_
  refine lv_icmp_ne (tgt := 13) hx hb dX9_has_6 (by decide) (fun _ => ?_) (fun c => absurd c (by decide))
  refine lv_iconst (v := 0) hx hb dX9_has_13 (by decide) ?_
  exact rdEndZ S hr hlocks dX9_has_14 rfl rfl

set_option maxHeartbeats 8000000 in
set_option maxRecDepth 100000 in
theorem c_X9_part_6 (l : Launch) (D : va_G) (cI cZ cJ : ClassId) (o : Nat) (q : Nat → Nat) (x2 : Int32) (lo_x2 : 0 ≤ x2) (hi_x2 : x2 ≤ 15) : Met l yX9_part (uW yX9_part cX9_part 3 (some .int)) ({ frames := 1, cells := 0, slots := 0, locals := 21 }) (va_Pc [.ref o, .int 0, .int 0] (pS D (tyL cI cZ cJ) (((((((mW o 0 q cI cZ).set 12 ((q 11), .inl (cI, 110, .inl (upd (fun _ => 0) (0 : Int32).toNatClampNeg 10)))).set 13 ((q 12), .inl (cI, 110, .inl (upd (fun _ => 0) (0 : Int32).toNatClampNeg x2)))).set 14 ((q 13), .inl (cI, 110, .inl (upd (fun _ => 0) (0 : Int32).toNatClampNeg 0)))).set 15 ((q 14), .inl (cI, 110, .inl (upd (fun _ => 0) (0 : Int32).toNatClampNeg 0)))).set 16 ((q 15), .inl (cI, 110, .inl (upd (fun _ => 0) (0 : Int32).toNatClampNeg (-1))))).set 17 ((q 16), .inl (cI, 110, .inl (upd (fun _ => 0) (0 : Int32).toNatClampNeg (-1))))))) (QcRead ((-1))) 0 0 (fun _ => False) := by
  refine rdStart (lv := [(0, .ref o), (1, .int 0), (2, .int 0)]) (by decide) (Nat.le_of_ble_eq_true rfl) rfl ?_
  intro p e s m args below meth c ls S hr hlocks hl hP hK
  have hx := S.1
  have hb := S.2.1
  refine lv_aload_n hx hb dX9_part_0 rfl (lv_at hl 0 rfl) ?_
  refine xg (ci := 9) S inX9 rfl hK hP (q0 := 0) rfl 14 (by decide) mF_14 kw_6_161 rfl dX9_part_1 ?_
  refine lv_iload_n hx hb dX9_part_4 rfl (lv_at hl 1 rfl) ?_
  refine xiald (t0 := 0) (v := 10) S hK hP (q0 := 12) rfl rfl (vin rfl) rfl dX9_part_5 ?_
  refine rdS (As := [.int 10]) S (c_X9_parts_2 l D cI cZ cJ o q x2 lo_x2 hi_x2) ms_X9_parts kw_7_188 ⟨rfl, rfl⟩ ⟨Nat.le_of_ble_eq_true rfl, Nat.le_of_ble_eq_true rfl⟩ hP hK hl.1 (Nat.le_of_ble_eq_true rfl) ⟨Nat.le_of_ble_eq_true rfl, Nat.le_of_ble_eq_true rfl⟩ dX9_part_6 ?_
  refine lv_iload_n hx hb dX9_part_9 rfl (lv_at hl 2 rfl) ?_
  refine rdS (As := [.int 0, .int 0]) S (c_X9_has_6 l D cI cZ cJ o q x2 lo_x2 hi_x2) ms_X9_has kw_7_191 ⟨rfl, rfl⟩ ⟨Nat.le_of_ble_eq_true rfl, Nat.le_of_ble_eq_true rfl⟩ hP hK hl.1 (Nat.le_of_ble_eq_true rfl) ⟨Nat.le_of_ble_eq_true rfl, Nat.le_of_ble_eq_true rfl⟩ dX9_part_10 ?_
  refine lv_if_ne (tgt := 18) hx hb dX9_part_13 (by decide) (fun c => absurd c (by decide)) (fun _ => ?_)
  refine lv_iconst (v := (-1)) hx hb dX9_part_16 (by decide) ?_
  exact rdEnd S hr hlocks dX9_part_17 rfl
