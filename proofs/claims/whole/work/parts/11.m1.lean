set_option maxHeartbeats 8000000 in
set_option maxRecDepth 100000 in
theorem c_X9_isIn_0 (l : Launch) (D : va_G) (cI cZ cJ : ClassId) (o : Nat) (q : Nat → Nat) (x1 : Int32) (ne_x1_0 : ¬ x1 = 0) : Met l yX9_isIn (uW yX9_isIn cX9_isIn 3 (some .boolean)) ({ frames := 0, cells := 0, slots := 0, locals := 0 }) (va_Pc [.int x1, .int 0, .int 0] (pS D (tyL cI cZ cJ) (mW o 0 q cI cZ))) (QcRead (0)) 0 0 (fun _ => False) := by
  refine rdStart (lv := [(0, .int x1), (1, .int 0), (2, .int 0)]) (by decide) (Nat.le_of_ble_eq_true rfl) rfl ?_
  intro p e s m args below meth c ls S hr hlocks hl hP hK
  have hx := S.1
  have hb := S.2.1
  refine lv_iload_n hx hb dX9_isIn_0 rfl (lv_at hl 0 rfl) ?_
  refine lv_iload_n hx hb dX9_isIn_1 rfl (lv_at hl 1 rfl) ?_
  refine lv_icmp_lt (tgt := 14) hx hb dX9_isIn_2 (by decide) (fun c_2 => ?_) (fun c_2 => ?_)
  · have hi_x1 : x1 ≤ (-1) := u_lt c_2 (by decide)
    refine lv_iconst (v := 0) hx hb dX9_isIn_14 (by decide) ?_
    exact rdEndZ S hr hlocks dX9_isIn_15 rfl rfl
  · have lo_x1 : 0 ≤ x1 := l_nlt c_2
    have lo_x1 : 1 ≤ x1 := l_ne ne_x1_0 lo_x1 (by decide)
    refine lv_iload_n hx hb dX9_isIn_5 rfl (lv_at hl 0 rfl) ?_
    refine lv_iload_n hx hb dX9_isIn_6 rfl (lv_at hl 2 rfl) ?_
    refine lv_icmp_gt (tgt := 14) hx hb dX9_isIn_7 (by decide) (fun _ => ?_) (fun c => absurd (b_gt lo_x1 (by decide)) c)
    refine lv_iconst (v := 0) hx hb dX9_isIn_14 (by decide) ?_
    exact rdEndZ S hr hlocks dX9_isIn_15 rfl rfl

set_option maxHeartbeats 8000000 in
set_option maxRecDepth 100000 in
theorem c_X9_isProcedure_0 (l : Launch) (D : va_G) (cI cZ cJ : ClassId) (o : Nat) (q : Nat → Nat) (x1 : Int32) (ne_x1_0 : ¬ x1 = 0) : Met l yX9_isProcedure (uW yX9_isProcedure cX9_isProcedure 2 (some .boolean)) ({ frames := 1, cells := 0, slots := 0, locals := 22 }) (va_Pc [.ref o, .int x1] (pS D (tyL cI cZ cJ) (mW o 0 q cI cZ))) (QcRead (0)) 0 0 (fun _ => False) := by
  refine rdStart (lv := [(0, .ref o), (1, .int x1)]) (by decide) (Nat.le_of_ble_eq_true rfl) rfl ?_
  intro p e s m args below meth c ls S hr hlocks hl hP hK
  have hx := S.1
  have hb := S.2.1
  refine lv_iload_n hx hb dX9_isProcedure_0 rfl (lv_at hl 1 rfl) ?_
  refine lv_iconst (v := 0) hx hb dX9_isProcedure_1 (by decide) ?_
  refine lv_aload_n hx hb dX9_isProcedure_2 rfl (lv_at hl 0 rfl) ?_
  refine xg (ci := 9) S inX9 rfl hK hP mW_0 1 (by decide) mF_1 kw_6_148 rfl dX9_isProcedure_3 ?_
  refine lv_iconst (v := 1) hx hb dX9_isProcedure_6 (by decide) ?_
  refine xisub (v := 0) S dX9_isProcedure_7 (by decide) ?_
  refine rdS (As := [.int x1, .int 0, .int 0]) S (c_X9_isIn_0 l D cI cZ cJ o q x1 ne_x1_0) ms_X9_isIn kw_7_100 ⟨rfl, rfl⟩ ⟨Nat.le_of_ble_eq_true rfl, Nat.le_of_ble_eq_true rfl⟩ hP hK hl.1 (Nat.le_of_ble_eq_true rfl) ⟨Nat.le_of_ble_eq_true rfl, Nat.le_of_ble_eq_true rfl⟩ dX9_isProcedure_8 ?_
  exact rdEndZ S hr hlocks dX9_isProcedure_11 rfl rfl

set_option maxHeartbeats 8000000 in
set_option maxRecDepth 100000 in
theorem c_X9_no_0 (l : Launch) (D : va_G) (cI cZ cJ : ClassId) (o : Nat) (q : Nat → Nat) (sz : Nat) : Met l yX9_no (uW yX9_no cX9_no 2 (some .int)) ({ frames := 0, cells := 0, slots := 0, locals := 0 }) (va_Pc [.ref o, .int 1] (wS D (tyL cI cZ cJ) (mW o 0 q cI cZ) sz)) (wQi (0) D (mW o 1 q cI cZ) (va_A (mW o 0 q cI cZ) sz)) 0 0 (va_A (mW o 0 q cI cZ) sz) := by
  refine wStart (lv := [(0, .ref o), (1, .int 1)]) (Qc := fun A => wQi (0) D (mW o 1 q cI cZ) A) (by decide) (Nat.le_of_ble_eq_true rfl) rfl ?_
  intro p e s m args below meth c ls A H S hr hlocks hnm hl hK hP hD hS hA
  have hx := S.1
  have hb := S.2.1
  refine lv_aload_n hx hb dX9_no_0 rfl (lv_at hl 0 rfl) ?_
  refine lv_iload_n hx hb dX9_no_1 rfl (lv_at hl 1 rfl) ?_
  refine xp (ci := 9) (v := .int 1) S inX9 tyX9 tyX9_ok nmX9 rfl hK hP hD hS mW_0 0 (by decide) kw_6_147 rfl rfl rfl rfl (Nat.le_of_ble_eq_true rfl) dX9_no_2 (fun H locs hP hD hS => ?_)
  have hP : va_P D vwCl (mW o 1 q cI cZ) H := hP
  have hD : va_D A (mW o 1 q cI cZ) := hD
  refine lv_iconst (v := 0) hx hb dX9_no_5 (by decide) ?_
  exact wEnd S hr hlocks hP hD hS (Nat.le_of_ble_eq_true rfl) (Nat.le_of_ble_eq_true rfl) dX9_no_6 rfl

set_option maxHeartbeats 8000000 in
set_option maxRecDepth 100000 in
theorem m_procedure_p (l : Launch) (D : va_G) (cI cZ cJ : ClassId) (o : Nat) (q : Nat → Nat) (sz : Nat) (x1 : Int32) (x2 : Int32) (ne_x1_0 : ¬ x1 = 0) : Met l yX9_procedure (uW yX9_procedure cX9_procedure 3 (some .int)) ({ frames := 2, cells := 0, slots := 0, locals := 43 }) (va_Pc [.ref o, .int x1, .int x2] (wS D (tyL cI cZ cJ) (mW o 0 q cI cZ) sz)) (wQi (0) D (mW o 1 q cI cZ) (va_A (mW o 0 q cI cZ) sz)) 0 0 (va_A (mW o 0 q cI cZ) sz) := by
  refine wStart (lv := [(0, .ref o), (1, .int x1), (2, .int x2)]) (Qc := fun A => wQi (0) D (mW o 1 q cI cZ) A) (by decide) (Nat.le_of_ble_eq_true rfl) rfl ?_
  intro p e s m args below meth c ls A H S hr hlocks hnm hl hK hP hD hS hA
  have hx := S.1
  have hb := S.2.1
  refine lv_aload_n hx hb dX9_procedure_0 rfl (lv_at hl 0 rfl) ?_
  refine lv_iconst (v := 0) hx hb dX9_procedure_1 (by decide) ?_
  refine xp (ci := 9) (v := .int 0) S inX9 tyX9 tyX9_ok nmX9 rfl hK hP hD hS mW_0 0 (by decide) kw_6_147 rfl rfl rfl rfl (Nat.le_of_ble_eq_true rfl) dX9_procedure_2 (fun H locs hP hD hS => ?_)
  have hP : va_P D vwCl (mW o 0 q cI cZ) H := hP
  have hD : va_D A (mW o 0 q cI cZ) := hD
  refine lv_aload_n hx hb dX9_procedure_5 rfl (lv_at hl 0 rfl) ?_
  refine lv_iload_n hx hb dX9_procedure_6 rfl (lv_at hl 1 rfl) ?_
  refine rdV (As := [.int x1]) (ci := 9) S (c_X9_isProcedure_0 l D cI cZ cJ o q x1 ne_x1_0) mi_X9_isProcedure kw_7_96 ⟨rfl, rfl⟩ ⟨Nat.le_of_ble_eq_true rfl, Nat.le_of_ble_eq_true rfl⟩ hP hK mW_0 rfl rfl hl.1 (Nat.le_of_ble_eq_true rfl) ⟨Nat.le_of_ble_eq_true rfl, Nat.le_of_ble_eq_true rfl⟩ dX9_procedure_7 ?_
  refine lv_if_ne (tgt := 19) hx hb dX9_procedure_10 (by decide) (fun c => absurd c (by decide)) (fun _ => ?_)
  refine lv_aload_n hx hb dX9_procedure_13 rfl (lv_at hl 0 rfl) ?_
  refine lv_iconst (v := 1) hx hb dX9_procedure_14 (by decide) ?_
  refine wrV (As := [.int 1]) (ci := 9) S (c_X9_no_0 l D cI cZ cJ o q H.size) mi_X9_no kw_7_103 rfl rfl ⟨Nat.le_of_ble_eq_true rfl, Nat.le_of_ble_eq_true rfl⟩ hP hD hK hS hA mW_0 rfl rfl hl.1 (Nat.le_of_ble_eq_true rfl) ⟨Nat.le_of_ble_eq_true rfl, Nat.le_of_ble_eq_true rfl⟩ dX9_procedure_15 (fun H locs hz hP hD hS => ?_)
  exact wEnd S hr hlocks hP hD hS (Nat.le_of_ble_eq_true rfl) (Nat.le_of_ble_eq_true rfl) dX9_procedure_18 rfl

set_option maxHeartbeats 8000000 in
set_option maxRecDepth 100000 in
theorem c_X9_isIn_1 (l : Launch) (D : va_G) (cI cZ cJ : ClassId) (o : Nat) (q : Nat → Nat) : Met l yX9_isIn (uW yX9_isIn cX9_isIn 3 (some .boolean)) ({ frames := 0, cells := 0, slots := 0, locals := 0 }) (va_Pc [.int 0, .int 0, .int 0] (pS D (tyL cI cZ cJ) (mW o 0 q cI cZ))) (QcRead (1)) 0 0 (fun _ => False) := by
  refine rdStart (lv := [(0, .int 0), (1, .int 0), (2, .int 0)]) (by decide) (Nat.le_of_ble_eq_true rfl) rfl ?_
  intro p e s m args below meth c ls S hr hlocks hl hP hK
  have hx := S.1
  have hb := S.2.1
  refine lv_iload_n hx hb dX9_isIn_0 rfl (lv_at hl 0 rfl) ?_
  refine lv_iload_n hx hb dX9_isIn_1 rfl (lv_at hl 1 rfl) ?_
  refine lv_icmp_lt (tgt := 14) hx hb dX9_isIn_2 (by decide) (fun c => absurd c (by decide)) (fun _ => ?_)
  refine lv_iload_n hx hb dX9_isIn_5 rfl (lv_at hl 0 rfl) ?_
  refine lv_iload_n hx hb dX9_isIn_6 rfl (lv_at hl 2 rfl) ?_
  refine lv_icmp_gt (tgt := 14) hx hb dX9_isIn_7 (by decide) (fun c => absurd c (by decide)) (fun _ => ?_)
  refine lv_iconst (v := 1) hx hb dX9_isIn_10 (by decide) ?_
  refine lv_goto (tgt := 15) hx hb dX9_isIn_11 (by decide) ?_
  exact rdEndZ S hr hlocks dX9_isIn_15 rfl rfl

set_option maxHeartbeats 8000000 in
set_option maxRecDepth 100000 in
theorem c_X9_isProcedure_1 (l : Launch) (D : va_G) (cI cZ cJ : ClassId) (o : Nat) (q : Nat → Nat) : Met l yX9_isProcedure (uW yX9_isProcedure cX9_isProcedure 2 (some .boolean)) ({ frames := 1, cells := 0, slots := 0, locals := 22 }) (va_Pc [.ref o, .int 0] (pS D (tyL cI cZ cJ) (mW o 0 q cI cZ))) (QcRead (1)) 0 0 (fun _ => False) := by
  refine rdStart (lv := [(0, .ref o), (1, .int 0)]) (by decide) (Nat.le_of_ble_eq_true rfl) rfl ?_
  intro p e s m args below meth c ls S hr hlocks hl hP hK
  have hx := S.1
  have hb := S.2.1
  refine lv_iload_n hx hb dX9_isProcedure_0 rfl (lv_at hl 1 rfl) ?_
  refine lv_iconst (v := 0) hx hb dX9_isProcedure_1 (by decide) ?_
  refine lv_aload_n hx hb dX9_isProcedure_2 rfl (lv_at hl 0 rfl) ?_
  refine xg (ci := 9) S inX9 rfl hK hP mW_0 1 (by decide) mF_1 kw_6_148 rfl dX9_isProcedure_3 ?_
  refine lv_iconst (v := 1) hx hb dX9_isProcedure_6 (by decide) ?_
  refine xisub (v := 0) S dX9_isProcedure_7 (by decide) ?_
  refine rdS (As := [.int 0, .int 0, .int 0]) S (c_X9_isIn_1 l D cI cZ cJ o q) ms_X9_isIn kw_7_100 ⟨rfl, rfl⟩ ⟨Nat.le_of_ble_eq_true rfl, Nat.le_of_ble_eq_true rfl⟩ hP hK hl.1 (Nat.le_of_ble_eq_true rfl) ⟨Nat.le_of_ble_eq_true rfl, Nat.le_of_ble_eq_true rfl⟩ dX9_isProcedure_8 ?_
  exact rdEndZ S hr hlocks dX9_isProcedure_11 rfl rfl

set_option maxHeartbeats 8000000 in
set_option maxRecDepth 100000 in
theorem c_X9_isIn_2 (l : Launch) (D : va_G) (cI cZ cJ : ClassId) (o : Nat) (q : Nat → Nat) (x2 : Int32) (ou_x2_0_15 : ¬ (0 ≤ x2 ∧ x2 ≤ 15)) : Met l yX9_isIn (uW yX9_isIn cX9_isIn 3 (some .boolean)) ({ frames := 0, cells := 0, slots := 0, locals := 0 }) (va_Pc [.int x2, .int 0, .int 15] (pS D (tyL cI cZ cJ) (mW o 0 q cI cZ))) (QcRead (0)) 0 0 (fun _ => False) := by
  refine rdStart (lv := [(0, .int x2), (1, .int 0), (2, .int 15)]) (by decide) (Nat.le_of_ble_eq_true rfl) rfl ?_
  intro p e s m args below meth c ls S hr hlocks hl hP hK
  have hx := S.1
  have hb := S.2.1
  refine lv_iload_n hx hb dX9_isIn_0 rfl (lv_at hl 0 rfl) ?_
  refine lv_iload_n hx hb dX9_isIn_1 rfl (lv_at hl 1 rfl) ?_
  refine lv_icmp_lt (tgt := 14) hx hb dX9_isIn_2 (by decide) (fun c_2 => ?_) (fun c_2 => ?_)
  · have hi_x2 : x2 ≤ (-1) := u_lt c_2 (by decide)
    refine lv_iconst (v := 0) hx hb dX9_isIn_14 (by decide) ?_
    exact rdEndZ S hr hlocks dX9_isIn_15 rfl rfl
  · have lo_x2 : 0 ≤ x2 := l_nlt c_2
    have lo_x2 : 16 ≤ x2 := o_l ou_x2_0_15 (b_ge lo_x2 (by decide)) (by decide)
    refine lv_iload_n hx hb dX9_isIn_5 rfl (lv_at hl 0 rfl) ?_
    refine lv_iload_n hx hb dX9_isIn_6 rfl (lv_at hl 2 rfl) ?_
    refine lv_icmp_gt (tgt := 14) hx hb dX9_isIn_7 (by decide) (fun _ => ?_) (fun c => absurd (b_gt lo_x2 (by decide)) c)
    refine lv_iconst (v := 0) hx hb dX9_isIn_14 (by decide) ?_
    exact rdEndZ S hr hlocks dX9_isIn_15 rfl rfl

set_option maxHeartbeats 8000000 in
set_option maxRecDepth 100000 in
theorem c_X9_isName_0 (l : Launch) (D : va_G) (cI cZ cJ : ClassId) (o : Nat) (q : Nat → Nat) (x2 : Int32) (ou_x2_0_15 : ¬ (0 ≤ x2 ∧ x2 ≤ 15)) : Met l yX9_isName (uW yX9_isName cX9_isName 1 (some .boolean)) ({ frames := 1, cells := 0, slots := 0, locals := 22 }) (va_Pc [.int x2] (pS D (tyL cI cZ cJ) (mW o 0 q cI cZ))) (QcRead (0)) 0 0 (fun _ => False) := by
  refine rdStart (lv := [(0, .int x2)]) (by decide) (Nat.le_of_ble_eq_true rfl) rfl ?_
  intro p e s m args below meth c ls S hr hlocks hl hP hK
  have hx := S.1
  have hb := S.2.1
  refine lv_iload_n hx hb dX9_isName_0 rfl (lv_at hl 0 rfl) ?_
  refine lv_iconst (v := 0) hx hb dX9_isName_1 (by decide) ?_
  refine lv_bipush (v := 15) hx hb dX9_isName_2 (by decide) ?_
  refine rdS (As := [.int x2, .int 0, .int 15]) S (c_X9_isIn_2 l D cI cZ cJ o q x2 ou_x2_0_15) ms_X9_isIn kw_7_100 ⟨rfl, rfl⟩ ⟨Nat.le_of_ble_eq_true rfl, Nat.le_of_ble_eq_true rfl⟩ hP hK hl.1 (Nat.le_of_ble_eq_true rfl) ⟨Nat.le_of_ble_eq_true rfl, Nat.le_of_ble_eq_true rfl⟩ dX9_isName_4 ?_
  exact rdEndZ S hr hlocks dX9_isName_7 rfl rfl

set_option maxHeartbeats 8000000 in
set_option maxRecDepth 100000 in
theorem c_X9_no_1 (l : Launch) (D : va_G) (cI cZ cJ : ClassId) (o : Nat) (q : Nat → Nat) (sz : Nat) : Met l yX9_no (uW yX9_no cX9_no 2 (some .int)) ({ frames := 0, cells := 0, slots := 0, locals := 0 }) (va_Pc [.ref o, .int 2] (wS D (tyL cI cZ cJ) (mW o 0 q cI cZ) sz)) (wQi (0) D (mW o 2 q cI cZ) (va_A (mW o 0 q cI cZ) sz)) 0 0 (va_A (mW o 0 q cI cZ) sz) := by
  refine wStart (lv := [(0, .ref o), (1, .int 2)]) (Qc := fun A => wQi (0) D (mW o 2 q cI cZ) A) (by decide) (Nat.le_of_ble_eq_true rfl) rfl ?_
  intro p e s m args below meth c ls A H S hr hlocks hnm hl hK hP hD hS hA
  have hx := S.1
  have hb := S.2.1
  refine lv_aload_n hx hb dX9_no_0 rfl (lv_at hl 0 rfl) ?_
  refine lv_iload_n hx hb dX9_no_1 rfl (lv_at hl 1 rfl) ?_
  refine xp (ci := 9) (v := .int 2) S inX9 tyX9 tyX9_ok nmX9 rfl hK hP hD hS mW_0 0 (by decide) kw_6_147 rfl rfl rfl rfl (Nat.le_of_ble_eq_true rfl) dX9_no_2 (fun H locs hP hD hS => ?_)
  have hP : va_P D vwCl (mW o 2 q cI cZ) H := hP
  have hD : va_D A (mW o 2 q cI cZ) := hD
  refine lv_iconst (v := 0) hx hb dX9_no_5 (by decide) ?_
  exact wEnd S hr hlocks hP hD hS (Nat.le_of_ble_eq_true rfl) (Nat.le_of_ble_eq_true rfl) dX9_no_6 rfl

set_option maxHeartbeats 8000000 in
set_option maxRecDepth 100000 in
theorem m_procedure_n (l : Launch) (D : va_G) (cI cZ cJ : ClassId) (o : Nat) (q : Nat → Nat) (sz : Nat) (x2 : Int32) (ou_x2_0_15 : ¬ (0 ≤ x2 ∧ x2 ≤ 15)) : Met l yX9_procedure (uW yX9_procedure cX9_procedure 3 (some .int)) ({ frames := 2, cells := 0, slots := 0, locals := 43 }) (va_Pc [.ref o, .int 0, .int x2] (wS D (tyL cI cZ cJ) (mW o 0 q cI cZ) sz)) (wQi (0) D (mW o 2 q cI cZ) (va_A (mW o 0 q cI cZ) sz)) 0 0 (va_A (mW o 0 q cI cZ) sz) := by
  refine wStart (lv := [(0, .ref o), (1, .int 0), (2, .int x2)]) (Qc := fun A => wQi (0) D (mW o 2 q cI cZ) A) (by decide) (Nat.le_of_ble_eq_true rfl) rfl ?_
  intro p e s m args below meth c ls A H S hr hlocks hnm hl hK hP hD hS hA
  have hx := S.1
  have hb := S.2.1
  refine lv_aload_n hx hb dX9_procedure_0 rfl (lv_at hl 0 rfl) ?_
  refine lv_iconst (v := 0) hx hb dX9_procedure_1 (by decide) ?_
  refine xp (ci := 9) (v := .int 0) S inX9 tyX9 tyX9_ok nmX9 rfl hK hP hD hS mW_0 0 (by decide) kw_6_147 rfl rfl rfl rfl (Nat.le_of_ble_eq_true rfl) dX9_procedure_2 (fun H locs hP hD hS => ?_)
  have hP : va_P D vwCl (mW o 0 q cI cZ) H := hP
  have hD : va_D A (mW o 0 q cI cZ) := hD
  refine lv_aload_n hx hb dX9_procedure_5 rfl (lv_at hl 0 rfl) ?_
  refine lv_iload_n hx hb dX9_procedure_6 rfl (lv_at hl 1 rfl) ?_
  refine rdV (As := [.int 0]) (ci := 9) S (c_X9_isProcedure_1 l D cI cZ cJ o q) mi_X9_isProcedure kw_7_96 ⟨rfl, rfl⟩ ⟨Nat.le_of_ble_eq_true rfl, Nat.le_of_ble_eq_true rfl⟩ hP hK mW_0 rfl rfl hl.1 (Nat.le_of_ble_eq_true rfl) ⟨Nat.le_of_ble_eq_true rfl, Nat.le_of_ble_eq_true rfl⟩ dX9_procedure_7 ?_
  refine lv_if_ne (tgt := 19) hx hb dX9_procedure_10 (by decide) (fun _ => ?_) (fun c => absurd c (by decide))
  refine lv_iload_n hx hb dX9_procedure_19 rfl (lv_at hl 2 rfl) ?_
  refine rdS (As := [.int x2]) S (c_X9_isName_0 l D cI cZ cJ o q x2 ou_x2_0_15) ms_X9_isName kw_7_107 ⟨rfl, rfl⟩ ⟨Nat.le_of_ble_eq_true rfl, Nat.le_of_ble_eq_true rfl⟩ hP hK hl.1 (Nat.le_of_ble_eq_true rfl) ⟨Nat.le_of_ble_eq_true rfl, Nat.le_of_ble_eq_true rfl⟩ dX9_procedure_20 ?_
  refine lv_if_ne (tgt := 32) hx hb dX9_procedure_23 (by decide) (fun c => absurd c (by decide)) (fun _ => ?_)
  refine lv_aload_n hx hb dX9_procedure_26 rfl (lv_at hl 0 rfl) ?_
  refine lv_iconst (v := 2) hx hb dX9_procedure_27 (by decide) ?_
  refine wrV (As := [.int 2]) (ci := 9) S (c_X9_no_1 l D cI cZ cJ o q H.size) mi_X9_no kw_7_103 rfl rfl ⟨Nat.le_of_ble_eq_true rfl, Nat.le_of_ble_eq_true rfl⟩ hP hD hK hS hA mW_0 rfl rfl hl.1 (Nat.le_of_ble_eq_true rfl) ⟨Nat.le_of_ble_eq_true rfl, Nat.le_of_ble_eq_true rfl⟩ dX9_procedure_28 (fun H locs hz hP hD hS => ?_)
  exact wEnd S hr hlocks hP hD hS (Nat.le_of_ble_eq_true rfl) (Nat.le_of_ble_eq_true rfl) dX9_procedure_31 rfl

set_option maxHeartbeats 8000000 in
set_option maxRecDepth 100000 in
theorem c_X9_isIn_3 (l : Launch) (D : va_G) (cI cZ cJ : ClassId) (o : Nat) (q : Nat → Nat) (x2 : Int32) (lo_x2 : 0 ≤ x2) (hi_x2 : x2 ≤ 15) : Met l yX9_isIn (uW yX9_isIn cX9_isIn 3 (some .boolean)) ({ frames := 0, cells := 0, slots := 0, locals := 0 }) (va_Pc [.int x2, .int 0, .int 15] (pS D (tyL cI cZ cJ) (mW o 0 q cI cZ))) (QcRead (1)) 0 0 (fun _ => False) := by
  refine rdStart (lv := [(0, .int x2), (1, .int 0), (2, .int 15)]) (by decide) (Nat.le_of_ble_eq_true rfl) rfl ?_
  intro p e s m args below meth c ls S hr hlocks hl hP hK
  have hx := S.1
  have hb := S.2.1
  refine lv_iload_n hx hb dX9_isIn_0 rfl (lv_at hl 0 rfl) ?_
  refine lv_iload_n hx hb dX9_isIn_1 rfl (lv_at hl 1 rfl) ?_
  refine lv_icmp_lt (tgt := 14) hx hb dX9_isIn_2 (by decide) (fun c => absurd c (b_nlt lo_x2 (by decide))) (fun _ => ?_)
  refine lv_iload_n hx hb dX9_isIn_5 rfl (lv_at hl 0 rfl) ?_
  refine lv_iload_n hx hb dX9_isIn_6 rfl (lv_at hl 2 rfl) ?_
  refine lv_icmp_gt (tgt := 14) hx hb dX9_isIn_7 (by decide) (fun c => absurd c (b_ngt hi_x2 (by decide))) (fun _ => ?_)
  refine lv_iconst (v := 1) hx hb dX9_isIn_10 (by decide) ?_
  refine lv_goto (tgt := 15) hx hb dX9_isIn_11 (by decide) ?_
  exact rdEndZ S hr hlocks dX9_isIn_15 rfl rfl

set_option maxHeartbeats 8000000 in
set_option maxRecDepth 100000 in
theorem c_X9_isName_1 (l : Launch) (D : va_G) (cI cZ cJ : ClassId) (o : Nat) (q : Nat → Nat) (x2 : Int32) (lo_x2 : 0 ≤ x2) (hi_x2 : x2 ≤ 15) : Met l yX9_isName (uW yX9_isName cX9_isName 1 (some .boolean)) ({ frames := 1, cells := 0, slots := 0, locals := 22 }) (va_Pc [.int x2] (pS D (tyL cI cZ cJ) (mW o 0 q cI cZ))) (QcRead (1)) 0 0 (fun _ => False) := by
  refine rdStart (lv := [(0, .int x2)]) (by decide) (Nat.le_of_ble_eq_true rfl) rfl ?_
  intro p e s m args below meth c ls S hr hlocks hl hP hK
  have hx := S.1
  have hb := S.2.1
  refine lv_iload_n hx hb dX9_isName_0 rfl (lv_at hl 0 rfl) ?_
  refine lv_iconst (v := 0) hx hb dX9_isName_1 (by decide) ?_
  refine lv_bipush (v := 15) hx hb dX9_isName_2 (by decide) ?_
  refine rdS (As := [.int x2, .int 0, .int 15]) S (c_X9_isIn_3 l D cI cZ cJ o q x2 lo_x2 hi_x2) ms_X9_isIn kw_7_100 ⟨rfl, rfl⟩ ⟨Nat.le_of_ble_eq_true rfl, Nat.le_of_ble_eq_true rfl⟩ hP hK hl.1 (Nat.le_of_ble_eq_true rfl) ⟨Nat.le_of_ble_eq_true rfl, Nat.le_of_ble_eq_true rfl⟩ dX9_isName_4 ?_
  exact rdEndZ S hr hlocks dX9_isName_7 rfl rfl

set_option maxHeartbeats 8000000 in
set_option maxRecDepth 100000 in
theorem c_X9_declare_0 (l : Launch) (D : va_G) (cI cZ cJ : ClassId) (o : Nat) (q : Nat → Nat) (sz : Nat) (x2 : Int32) (lo_x2 : 0 ≤ x2) (hi_x2 : x2 ≤ 15) : Met l yX9_declare (uW yX9_declare cX9_declare 6 (some .int)) ({ frames := 0, cells := 0, slots := 0, locals := 0 }) (va_Pc [.ref o, .int 0, .int x2, .int 10, .int (-1), .int 1] (wS D (tyL cI cZ cJ) (((mW o 0 q cI cZ).set 1 ((q 0), .inl (cI, 10, .inl (upd (upd (fun _ => 0) 0 (-1)) (1 : Int32).toNatClampNeg 0)))).set 2 ((q 1), .inl (cI, 10, .inl (upd (upd (fun _ => 0) 0 (-1)) (1 : Int32).toNatClampNeg x2)))) sz)) (wQi ((-1)) D ((((((mW o 0 q cI cZ).set 1 ((q 0), .inl (cI, 10, .inl (upd (upd (fun _ => 0) 0 (-1)) (1 : Int32).toNatClampNeg 0)))).set 2 ((q 1), .inl (cI, 10, .inl (upd (upd (fun _ => 0) 0 (-1)) (1 : Int32).toNatClampNeg x2)))).set 7 ((q 6), .inl (cI, 160, .inl (upd (fun _ => -1) (x2 : Int32).toNatClampNeg 10)))).set 8 ((q 7), .inl (cI, 160, .inl (upd (fun _ => 0) (x2 : Int32).toNatClampNeg (-1))))).set 9 ((q 8), .inl (cI, 160, .inl (upd (fun _ => 0) (x2 : Int32).toNatClampNeg 1)))) (va_A (((mW o 0 q cI cZ).set 1 ((q 0), .inl (cI, 10, .inl (upd (upd (fun _ => 0) 0 (-1)) (1 : Int32).toNatClampNeg 0)))).set 2 ((q 1), .inl (cI, 10, .inl (upd (upd (fun _ => 0) 0 (-1)) (1 : Int32).toNatClampNeg x2)))) sz)) 0 0 (va_A (((mW o 0 q cI cZ).set 1 ((q 0), .inl (cI, 10, .inl (upd (upd (fun _ => 0) 0 (-1)) (1 : Int32).toNatClampNeg 0)))).set 2 ((q 1), .inl (cI, 10, .inl (upd (upd (fun _ => 0) 0 (-1)) (1 : Int32).toNatClampNeg x2)))) sz) := by
  refine wStart (lv := [(0, .ref o), (1, .int 0), (2, .int x2), (3, .int 10), (4, .int (-1)), (5, .int 1)]) (Qc := fun A => wQi ((-1)) D ((((((mW o 0 q cI cZ).set 1 ((q 0), .inl (cI, 10, .inl (upd (upd (fun _ => 0) 0 (-1)) (1 : Int32).toNatClampNeg 0)))).set 2 ((q 1), .inl (cI, 10, .inl (upd (upd (fun _ => 0) 0 (-1)) (1 : Int32).toNatClampNeg x2)))).set 7 ((q 6), .inl (cI, 160, .inl (upd (fun _ => -1) (x2 : Int32).toNatClampNeg 10)))).set 8 ((q 7), .inl (cI, 160, .inl (upd (fun _ => 0) (x2 : Int32).toNatClampNeg (-1))))).set 9 ((q 8), .inl (cI, 160, .inl (upd (fun _ => 0) (x2 : Int32).toNatClampNeg 1)))) A) (by decide) (Nat.le_of_ble_eq_true rfl) rfl ?_
  intro p e s m args below meth c ls A H S hr hlocks hnm hl hK hP hD hS hA
  have hx := S.1
  have hb := S.2.1
  refine lv_aload_n hx hb dX9_declare_0 rfl (lv_at hl 0 rfl) ?_
  refine xg (ci := 9) S inX9 rfl hK hP (q0 := 0) rfl 8 (by decide) mF_8 kw_6_155 rfl dX9_declare_1 ?_
  refine lv_iload_n hx hb dX9_declare_4 rfl (lv_at hl 1 rfl) ?_
  refine lv_bipush (v := 16) hx hb dX9_declare_5 (by decide) ?_
  refine ximul (v := 0) S dX9_declare_7 (by decide) ?_
  refine lv_iload_n hx hb dX9_declare_8 rfl (lv_at hl 2 rfl) ?_
  refine xiadd (v := x2) S dX9_declare_9 (Int32.zero_add _) ?_
  refine lv_iload_n hx hb dX9_declare_10 rfl (lv_at hl 3 rfl) ?_
  refine xiast (t0 := 0) S hK hP hD hS (q0 := 7) rfl rfl (b_in lo_x2 hi_x2 (by decide) (by decide)) dX9_declare_11 (fun H locs hP hD hS => ?_)
  have hP : va_P D vwCl ((((mW o 0 q cI cZ).set 1 ((q 0), .inl (cI, 10, .inl (upd (upd (fun _ => 0) 0 (-1)) (1 : Int32).toNatClampNeg 0)))).set 2 ((q 1), .inl (cI, 10, .inl (upd (upd (fun _ => 0) 0 (-1)) (1 : Int32).toNatClampNeg x2)))).set 7 ((q 6), .inl (cI, 160, .inl (upd (fun _ => -1) (x2 : Int32).toNatClampNeg 10)))) H := hP
  have hD : va_D A ((((mW o 0 q cI cZ).set 1 ((q 0), .inl (cI, 10, .inl (upd (upd (fun _ => 0) 0 (-1)) (1 : Int32).toNatClampNeg 0)))).set 2 ((q 1), .inl (cI, 10, .inl (upd (upd (fun _ => 0) 0 (-1)) (1 : Int32).toNatClampNeg x2)))).set 7 ((q 6), .inl (cI, 160, .inl (upd (fun _ => -1) (x2 : Int32).toNatClampNeg 10)))) := hD
  refine lv_aload_n hx hb dX9_declare_12 rfl (lv_at hl 0 rfl) ?_
  refine xg (ci := 9) S inX9 rfl hK hP (q0 := 0) rfl 9 (by decide) mF_9 kw_6_156 rfl dX9_declare_13 ?_
  refine lv_iload_n hx hb dX9_declare_16 rfl (lv_at hl 1 rfl) ?_
  refine lv_bipush (v := 16) hx hb dX9_declare_17 (by decide) ?_
  refine ximul (v := 0) S dX9_declare_19 (by decide) ?_
  refine lv_iload_n hx hb dX9_declare_20 rfl (lv_at hl 2 rfl) ?_
  refine xiadd (v := x2) S dX9_declare_21 (Int32.zero_add _) ?_
  refine lv_iload hx hb dX9_declare_22 (lv_at hl 4 rfl) ?_
  refine xiast (t0 := 0) S hK hP hD hS (q0 := 8) rfl rfl (b_in lo_x2 hi_x2 (by decide) (by decide)) dX9_declare_24 (fun H locs hP hD hS => ?_)
  have hP : va_P D vwCl (((((mW o 0 q cI cZ).set 1 ((q 0), .inl (cI, 10, .inl (upd (upd (fun _ => 0) 0 (-1)) (1 : Int32).toNatClampNeg 0)))).set 2 ((q 1), .inl (cI, 10, .inl (upd (upd (fun _ => 0) 0 (-1)) (1 : Int32).toNatClampNeg x2)))).set 7 ((q 6), .inl (cI, 160, .inl (upd (fun _ => -1) (x2 : Int32).toNatClampNeg 10)))).set 8 ((q 7), .inl (cI, 160, .inl (upd (fun _ => 0) (x2 : Int32).toNatClampNeg (-1))))) H := hP
  have hD : va_D A (((((mW o 0 q cI cZ).set 1 ((q 0), .inl (cI, 10, .inl (upd (upd (fun _ => 0) 0 (-1)) (1 : Int32).toNatClampNeg 0)))).set 2 ((q 1), .inl (cI, 10, .inl (upd (upd (fun _ => 0) 0 (-1)) (1 : Int32).toNatClampNeg x2)))).set 7 ((q 6), .inl (cI, 160, .inl (upd (fun _ => -1) (x2 : Int32).toNatClampNeg 10)))).set 8 ((q 7), .inl (cI, 160, .inl (upd (fun _ => 0) (x2 : Int32).toNatClampNeg (-1))))) := hD
  refine lv_aload_n hx hb dX9_declare_25 rfl (lv_at hl 0 rfl) ?_
  refine xg (ci := 9) S inX9 rfl hK hP (q0 := 0) rfl 10 (by decide) mF_10 kw_6_157 rfl dX9_declare_26 ?_
  refine lv_iload_n hx hb dX9_declare_29 rfl (lv_at hl 1 rfl) ?_
  refine lv_bipush (v := 16) hx hb dX9_declare_30 (by decide) ?_
  refine ximul (v := 0) S dX9_declare_32 (by decide) ?_
  refine lv_iload_n hx hb dX9_declare_33 rfl (lv_at hl 2 rfl) ?_
  refine xiadd (v := x2) S dX9_declare_34 (Int32.zero_add _) ?_
  refine lv_iload hx hb dX9_declare_35 (lv_at hl 5 rfl) ?_
  refine xiast (t0 := 0) S hK hP hD hS (q0 := 9) rfl rfl (b_in lo_x2 hi_x2 (by decide) (by decide)) dX9_declare_37 (fun H locs hP hD hS => ?_)
  have hP : va_P D vwCl ((((((mW o 0 q cI cZ).set 1 ((q 0), .inl (cI, 10, .inl (upd (upd (fun _ => 0) 0 (-1)) (1 : Int32).toNatClampNeg 0)))).set 2 ((q 1), .inl (cI, 10, .inl (upd (upd (fun _ => 0) 0 (-1)) (1 : Int32).toNatClampNeg x2)))).set 7 ((q 6), .inl (cI, 160, .inl (upd (fun _ => -1) (x2 : Int32).toNatClampNeg 10)))).set 8 ((q 7), .inl (cI, 160, .inl (upd (fun _ => 0) (x2 : Int32).toNatClampNeg (-1))))).set 9 ((q 8), .inl (cI, 160, .inl (upd (fun _ => 0) (x2 : Int32).toNatClampNeg 1)))) H := hP
  have hD : va_D A ((((((mW o 0 q cI cZ).set 1 ((q 0), .inl (cI, 10, .inl (upd (upd (fun _ => 0) 0 (-1)) (1 : Int32).toNatClampNeg 0)))).set 2 ((q 1), .inl (cI, 10, .inl (upd (upd (fun _ => 0) 0 (-1)) (1 : Int32).toNatClampNeg x2)))).set 7 ((q 6), .inl (cI, 160, .inl (upd (fun _ => -1) (x2 : Int32).toNatClampNeg 10)))).set 8 ((q 7), .inl (cI, 160, .inl (upd (fun _ => 0) (x2 : Int32).toNatClampNeg (-1))))).set 9 ((q 8), .inl (cI, 160, .inl (upd (fun _ => 0) (x2 : Int32).toNatClampNeg 1)))) := hD
  refine lv_iload hx hb dX9_declare_38 (lv_at hl 4 rfl) ?_
  exact wEnd S hr hlocks hP hD hS (Nat.le_of_ble_eq_true rfl) (Nat.le_of_ble_eq_true rfl) dX9_declare_40 rfl

set_option maxHeartbeats 8000000 in
set_option maxRecDepth 100000 in
theorem m_procedure_ok (l : Launch) (D : va_G) (cI cZ cJ : ClassId) (o : Nat) (q : Nat → Nat) (sz : Nat) (x2 : Int32) (lo_x2 : 0 ≤ x2) (hi_x2 : x2 ≤ 15) : Met l yX9_procedure (uW yX9_procedure cX9_procedure 3 (some .int)) ({ frames := 2, cells := 0, slots := 0, locals := 43 }) (va_Pc [.ref o, .int 0, .int x2] (wS D (tyL cI cZ cJ) (mW o 0 q cI cZ) sz)) (wQi (1) D (((((((mW o 0 q cI cZ).set 0 (o, .inr (9, ((mF 0 q).set 1 (.int 2))))).set 1 ((q 0), .inl (cI, 10, .inl (upd (upd (fun _ => 0) 0 (-1)) (1 : Int32).toNatClampNeg 0)))).set 2 ((q 1), .inl (cI, 10, .inl (upd (upd (fun _ => 0) 0 (-1)) (1 : Int32).toNatClampNeg x2)))).set 7 ((q 6), .inl (cI, 160, .inl (upd (fun _ => -1) (x2 : Int32).toNatClampNeg 10)))).set 8 ((q 7), .inl (cI, 160, .inl (upd (fun _ => 0) (x2 : Int32).toNatClampNeg (-1))))).set 9 ((q 8), .inl (cI, 160, .inl (upd (fun _ => 0) (x2 : Int32).toNatClampNeg 1)))) (va_A (mW o 0 q cI cZ) sz)) 0 0 (va_A (mW o 0 q cI cZ) sz) := by
  refine wStart (lv := [(0, .ref o), (1, .int 0), (2, .int x2)]) (Qc := fun A => wQi (1) D (((((((mW o 0 q cI cZ).set 0 (o, .inr (9, ((mF 0 q).set 1 (.int 2))))).set 1 ((q 0), .inl (cI, 10, .inl (upd (upd (fun _ => 0) 0 (-1)) (1 : Int32).toNatClampNeg 0)))).set 2 ((q 1), .inl (cI, 10, .inl (upd (upd (fun _ => 0) 0 (-1)) (1 : Int32).toNatClampNeg x2)))).set 7 ((q 6), .inl (cI, 160, .inl (upd (fun _ => -1) (x2 : Int32).toNatClampNeg 10)))).set 8 ((q 7), .inl (cI, 160, .inl (upd (fun _ => 0) (x2 : Int32).toNatClampNeg (-1))))).set 9 ((q 8), .inl (cI, 160, .inl (upd (fun _ => 0) (x2 : Int32).toNatClampNeg 1)))) A) (by decide) (Nat.le_of_ble_eq_true rfl) rfl ?_
  intro p e s m args below meth c ls A H S hr hlocks hnm hl hK hP hD hS hA
  have hx := S.1
  have hb := S.2.1
  refine lv_aload_n hx hb dX9_procedure_0 rfl (lv_at hl 0 rfl) ?_
  refine lv_iconst (v := 0) hx hb dX9_procedure_1 (by decide) ?_
  refine xp (ci := 9) (v := .int 0) S inX9 tyX9 tyX9_ok nmX9 rfl hK hP hD hS mW_0 0 (by decide) kw_6_147 rfl rfl rfl rfl (Nat.le_of_ble_eq_true rfl) dX9_procedure_2 (fun H locs hP hD hS => ?_)
  have hP : va_P D vwCl (mW o 0 q cI cZ) H := hP
  have hD : va_D A (mW o 0 q cI cZ) := hD
  refine lv_aload_n hx hb dX9_procedure_5 rfl (lv_at hl 0 rfl) ?_
  refine lv_iload_n hx hb dX9_procedure_6 rfl (lv_at hl 1 rfl) ?_
  refine rdV (As := [.int 0]) (ci := 9) S (c_X9_isProcedure_1 l D cI cZ cJ o q) mi_X9_isProcedure kw_7_96 ⟨rfl, rfl⟩ ⟨Nat.le_of_ble_eq_true rfl, Nat.le_of_ble_eq_true rfl⟩ hP hK mW_0 rfl rfl hl.1 (Nat.le_of_ble_eq_true rfl) ⟨Nat.le_of_ble_eq_true rfl, Nat.le_of_ble_eq_true rfl⟩ dX9_procedure_7 ?_
  refine lv_if_ne (tgt := 19) hx hb dX9_procedure_10 (by decide) (fun _ => ?_) (fun c => absurd c (by decide))
  refine lv_iload_n hx hb dX9_procedure_19 rfl (lv_at hl 2 rfl) ?_
  refine rdS (As := [.int x2]) S (c_X9_isName_1 l D cI cZ cJ o q x2 lo_x2 hi_x2) ms_X9_isName kw_7_107 ⟨rfl, rfl⟩ ⟨Nat.le_of_ble_eq_true rfl, Nat.le_of_ble_eq_true rfl⟩ hP hK hl.1 (Nat.le_of_ble_eq_true rfl) ⟨Nat.le_of_ble_eq_true rfl, Nat.le_of_ble_eq_true rfl⟩ dX9_procedure_20 ?_
  refine lv_if_ne (tgt := 32) hx hb dX9_procedure_23 (by decide) (fun _ => ?_) (fun c => absurd c (by decide))
  refine lv_aload_n hx hb dX9_procedure_32 rfl (lv_at hl 0 rfl) ?_
  refine xg (ci := 9) S inX9 rfl hK hP mW_0 1 (by decide) mF_1 kw_6_148 rfl dX9_procedure_33 ?_
  refine lv_bipush (v := 10) hx hb dX9_procedure_36 (by decide) ?_
  refine lv_icmp_eq (tgt := 56) hx hb dX9_procedure_38 (by decide) (fun c => absurd c (by decide)) (fun _ => ?_)
  refine lv_aload_n hx hb dX9_procedure_41 rfl (lv_at hl 0 rfl) ?_
  refine xg (ci := 9) S inX9 rfl hK hP mW_0 8 (by decide) mF_8 kw_6_155 rfl dX9_procedure_42 ?_
  refine lv_iload_n hx hb dX9_procedure_45 rfl (lv_at hl 1 rfl) ?_
  refine lv_bipush (v := 16) hx hb dX9_procedure_46 (by decide) ?_
  refine ximul (v := 0) S dX9_procedure_48 (by decide) ?_
  refine lv_iload_n hx hb dX9_procedure_49 rfl (lv_at hl 2 rfl) ?_
  refine xiadd (v := x2) S dX9_procedure_50 (Int32.zero_add _) ?_
  refine xiald (t0 := 0) (v := (-1)) S hK hP mW_7 rfl (b_in lo_x2 hi_x2 (by decide) (by decide)) rfl dX9_procedure_51 ?_
  refine lv_iconst (v := (-1)) hx hb dX9_procedure_52 (by decide) ?_
  refine lv_icmp_eq (tgt := 62) hx hb dX9_procedure_53 (by decide) (fun _ => ?_) (fun c => absurd c (by decide))
  refine lv_aload_n hx hb dX9_procedure_62 rfl (lv_at hl 0 rfl) ?_
  refine xg (ci := 9) S inX9 rfl hK hP mW_0 2 (by decide) mF_2 kw_6_149 rfl dX9_procedure_63 ?_
  refine lv_aload_n hx hb dX9_procedure_66 rfl (lv_at hl 0 rfl) ?_
  refine xg (ci := 9) S inX9 rfl hK hP mW_0 1 (by decide) mF_1 kw_6_148 rfl dX9_procedure_67 ?_
  refine lv_iload_n hx hb dX9_procedure_70 rfl (lv_at hl 1 rfl) ?_
  refine xiast (t0 := 0) S hK hP hD hS mW_1 rfl (vin rfl) dX9_procedure_71 (fun H locs hP hD hS => ?_)
  have hP : va_P D vwCl ((mW o 0 q cI cZ).set 1 ((q 0), .inl (cI, 10, .inl (upd (upd (fun _ => 0) 0 (-1)) (1 : Int32).toNatClampNeg 0)))) H := hP
  have hD : va_D A ((mW o 0 q cI cZ).set 1 ((q 0), .inl (cI, 10, .inl (upd (upd (fun _ => 0) 0 (-1)) (1 : Int32).toNatClampNeg 0)))) := hD
  refine lv_aload_n hx hb dX9_procedure_72 rfl (lv_at hl 0 rfl) ?_
  refine xg (ci := 9) S inX9 rfl hK hP (q0 := 0) rfl 3 (by decide) mF_3 kw_6_150 rfl dX9_procedure_73 ?_
  refine lv_aload_n hx hb dX9_procedure_76 rfl (lv_at hl 0 rfl) ?_
  refine xg (ci := 9) S inX9 rfl hK hP (q0 := 0) rfl 1 (by decide) mF_1 kw_6_148 rfl dX9_procedure_77 ?_
  refine lv_iload_n hx hb dX9_procedure_80 rfl (lv_at hl 2 rfl) ?_
  refine xiast (t0 := 0) S hK hP hD hS (q0 := 2) rfl rfl (vin rfl) dX9_procedure_81 (fun H locs hP hD hS => ?_)
  have hP : va_P D vwCl (((mW o 0 q cI cZ).set 1 ((q 0), .inl (cI, 10, .inl (upd (upd (fun _ => 0) 0 (-1)) (1 : Int32).toNatClampNeg 0)))).set 2 ((q 1), .inl (cI, 10, .inl (upd (upd (fun _ => 0) 0 (-1)) (1 : Int32).toNatClampNeg x2)))) H := hP
  have hD : va_D A (((mW o 0 q cI cZ).set 1 ((q 0), .inl (cI, 10, .inl (upd (upd (fun _ => 0) 0 (-1)) (1 : Int32).toNatClampNeg 0)))).set 2 ((q 1), .inl (cI, 10, .inl (upd (upd (fun _ => 0) 0 (-1)) (1 : Int32).toNatClampNeg x2)))) := hD
  refine lv_aload_n hx hb dX9_procedure_82 rfl (lv_at hl 0 rfl) ?_
  refine lv_iload_n hx hb dX9_procedure_83 rfl (lv_at hl 1 rfl) ?_
  refine lv_iload_n hx hb dX9_procedure_84 rfl (lv_at hl 2 rfl) ?_
  refine lv_bipush (v := 10) hx hb dX9_procedure_85 (by decide) ?_
  refine lv_iconst (v := (-1)) hx hb dX9_procedure_87 (by decide) ?_
  refine lv_aload_n hx hb dX9_procedure_88 rfl (lv_at hl 0 rfl) ?_
  refine xg (ci := 9) S inX9 rfl hK hP (q0 := 0) rfl 1 (by decide) mF_1 kw_6_148 rfl dX9_procedure_89 ?_
  refine wrV (As := [.int 0, .int x2, .int 10, .int (-1), .int 1]) (ci := 9) S (c_X9_declare_0 l D cI cZ cJ o q H.size x2 lo_x2 hi_x2) mi_X9_declare kw_7_110 rfl rfl ⟨Nat.le_of_ble_eq_true rfl, Nat.le_of_ble_eq_true rfl⟩ hP hD hK hS hA (k := 0) rfl rfl rfl hl.1 (Nat.le_of_ble_eq_true rfl) ⟨Nat.le_of_ble_eq_true rfl, Nat.le_of_ble_eq_true rfl⟩ dX9_procedure_92 (fun H locs hz hP hD hS => ?_)
  refine lv_pop hx hb dX9_procedure_95 rfl ?_
  refine lv_aload_n hx hb dX9_procedure_96 rfl (lv_at hl 0 rfl) ?_
  refine lv_dup hx hb dX9_procedure_97 rfl ?_
  refine xg (ci := 9) S inX9 rfl hK hP (q0 := 0) rfl 1 (by decide) mF_1 kw_6_148 rfl dX9_procedure_98 ?_
  refine lv_dup_x1 hx hb dX9_procedure_101 rfl rfl ?_
  refine lv_iconst (v := 1) hx hb dX9_procedure_102 (by decide) ?_
  refine xiadd (v := 2) S dX9_procedure_103 (by decide) ?_
  refine xp (ci := 9) (v := .int 2) S inX9 tyX9 tyX9_ok nmX9 rfl hK hP hD hS (q0 := 0) rfl 1 (by decide) kw_6_148 rfl rfl rfl rfl (Nat.le_of_ble_eq_true rfl) dX9_procedure_104 (fun H locs hP hD hS => ?_)
  have hP : va_P D vwCl (((((((mW o 0 q cI cZ).set 0 (o, .inr (9, ((mF 0 q).set 1 (.int 2))))).set 1 ((q 0), .inl (cI, 10, .inl (upd (upd (fun _ => 0) 0 (-1)) (1 : Int32).toNatClampNeg 0)))).set 2 ((q 1), .inl (cI, 10, .inl (upd (upd (fun _ => 0) 0 (-1)) (1 : Int32).toNatClampNeg x2)))).set 7 ((q 6), .inl (cI, 160, .inl (upd (fun _ => -1) (x2 : Int32).toNatClampNeg 10)))).set 8 ((q 7), .inl (cI, 160, .inl (upd (fun _ => 0) (x2 : Int32).toNatClampNeg (-1))))).set 9 ((q 8), .inl (cI, 160, .inl (upd (fun _ => 0) (x2 : Int32).toNatClampNeg 1)))) H := hP
  have hD : va_D A (((((((mW o 0 q cI cZ).set 0 (o, .inr (9, ((mF 0 q).set 1 (.int 2))))).set 1 ((q 0), .inl (cI, 10, .inl (upd (upd (fun _ => 0) 0 (-1)) (1 : Int32).toNatClampNeg 0)))).set 2 ((q 1), .inl (cI, 10, .inl (upd (upd (fun _ => 0) 0 (-1)) (1 : Int32).toNatClampNeg x2)))).set 7 ((q 6), .inl (cI, 160, .inl (upd (fun _ => -1) (x2 : Int32).toNatClampNeg 10)))).set 8 ((q 7), .inl (cI, 160, .inl (upd (fun _ => 0) (x2 : Int32).toNatClampNeg (-1))))).set 9 ((q 8), .inl (cI, 160, .inl (upd (fun _ => 0) (x2 : Int32).toNatClampNeg 1)))) := hD
  exact wEnd S hr hlocks hP hD hS (Nat.le_of_ble_eq_true rfl) (Nat.le_of_ble_eq_true rfl) dX9_procedure_107 rfl

set_option maxHeartbeats 8000000 in
set_option maxRecDepth 100000 in
theorem m_parameter_p (l : Launch) (D : va_G) (cI cZ cJ : ClassId) (o : Nat) (q : Nat → Nat) (sz : Nat) (x1 : Int32) (x2 : Int32) (x3 : Int32) (ne_x1_0 : ¬ x1 = 0) : Met l yX9_parameter (uW yX9_parameter cX9_parameter 4 (some .int)) ({ frames := 2, cells := 0, slots := 0, locals := 43 }) (va_Pc [.ref o, .int x1, .int x2, .int x3] (wS D (tyL cI cZ cJ) (mW o 0 q cI cZ) sz)) (wQi (0) D (mW o 1 q cI cZ) (va_A (mW o 0 q cI cZ) sz)) 0 0 (va_A (mW o 0 q cI cZ) sz) := by
  refine wStart (lv := [(0, .ref o), (1, .int x1), (2, .int x2), (3, .int x3)]) (Qc := fun A => wQi (0) D (mW o 1 q cI cZ) A) (by decide) (Nat.le_of_ble_eq_true rfl) rfl ?_
  intro p e s m args below meth c ls A H S hr hlocks hnm hl hK hP hD hS hA
  have hx := S.1
  have hb := S.2.1
  refine lv_aload_n hx hb dX9_parameter_0 rfl (lv_at hl 0 rfl) ?_
  refine lv_iconst (v := 0) hx hb dX9_parameter_1 (by decide) ?_
  refine xp (ci := 9) (v := .int 0) S inX9 tyX9 tyX9_ok nmX9 rfl hK hP hD hS mW_0 0 (by decide) kw_6_147 rfl rfl rfl rfl (Nat.le_of_ble_eq_true rfl) dX9_parameter_2 (fun H locs hP hD hS => ?_)
  have hP : va_P D vwCl (mW o 0 q cI cZ) H := hP
  have hD : va_D A (mW o 0 q cI cZ) := hD
  refine lv_aload_n hx hb dX9_parameter_5 rfl (lv_at hl 0 rfl) ?_
  refine lv_iload_n hx hb dX9_parameter_6 rfl (lv_at hl 1 rfl) ?_
  refine rdV (As := [.int x1]) (ci := 9) S (c_X9_isProcedure_0 l D cI cZ cJ o q x1 ne_x1_0) mi_X9_isProcedure kw_7_96 ⟨rfl, rfl⟩ ⟨Nat.le_of_ble_eq_true rfl, Nat.le_of_ble_eq_true rfl⟩ hP hK mW_0 rfl rfl hl.1 (Nat.le_of_ble_eq_true rfl) ⟨Nat.le_of_ble_eq_true rfl, Nat.le_of_ble_eq_true rfl⟩ dX9_parameter_7 ?_
  refine lv_if_ne (tgt := 19) hx hb dX9_parameter_10 (by decide) (fun c => absurd c (by decide)) (fun _ => ?_)
  refine lv_aload_n hx hb dX9_parameter_13 rfl (lv_at hl 0 rfl) ?_
  refine lv_iconst (v := 1) hx hb dX9_parameter_14 (by decide) ?_
  refine wrV (As := [.int 1]) (ci := 9) S (c_X9_no_0 l D cI cZ cJ o q H.size) mi_X9_no kw_7_103 rfl rfl ⟨Nat.le_of_ble_eq_true rfl, Nat.le_of_ble_eq_true rfl⟩ hP hD hK hS hA mW_0 rfl rfl hl.1 (Nat.le_of_ble_eq_true rfl) ⟨Nat.le_of_ble_eq_true rfl, Nat.le_of_ble_eq_true rfl⟩ dX9_parameter_15 (fun H locs hz hP hD hS => ?_)
  exact wEnd S hr hlocks hP hD hS (Nat.le_of_ble_eq_true rfl) (Nat.le_of_ble_eq_true rfl) dX9_parameter_18 rfl

set_option maxHeartbeats 8000000 in
set_option maxRecDepth 100000 in
theorem m_parameter_n (l : Launch) (D : va_G) (cI cZ cJ : ClassId) (o : Nat) (q : Nat → Nat) (sz : Nat) (x2 : Int32) (x3 : Int32) (ou_x2_0_15 : ¬ (0 ≤ x2 ∧ x2 ≤ 15)) : Met l yX9_parameter (uW yX9_parameter cX9_parameter 4 (some .int)) ({ frames := 2, cells := 0, slots := 0, locals := 43 }) (va_Pc [.ref o, .int 0, .int x2, .int x3] (wS D (tyL cI cZ cJ) (mW o 0 q cI cZ) sz)) (wQi (0) D (mW o 2 q cI cZ) (va_A (mW o 0 q cI cZ) sz)) 0 0 (va_A (mW o 0 q cI cZ) sz) := by
  refine wStart (lv := [(0, .ref o), (1, .int 0), (2, .int x2), (3, .int x3)]) (Qc := fun A => wQi (0) D (mW o 2 q cI cZ) A) (by decide) (Nat.le_of_ble_eq_true rfl) rfl ?_
  intro p e s m args below meth c ls A H S hr hlocks hnm hl hK hP hD hS hA
  have hx := S.1
  have hb := S.2.1
  refine lv_aload_n hx hb dX9_parameter_0 rfl (lv_at hl 0 rfl) ?_
  refine lv_iconst (v := 0) hx hb dX9_parameter_1 (by decide) ?_
  refine xp (ci := 9) (v := .int 0) S inX9 tyX9 tyX9_ok nmX9 rfl hK hP hD hS mW_0 0 (by decide) kw_6_147 rfl rfl rfl rfl (Nat.le_of_ble_eq_true rfl) dX9_parameter_2 (fun H locs hP hD hS => ?_)
  have hP : va_P D vwCl (mW o 0 q cI cZ) H := hP
  have hD : va_D A (mW o 0 q cI cZ) := hD
  refine lv_aload_n hx hb dX9_parameter_5 rfl (lv_at hl 0 rfl) ?_
  refine lv_iload_n hx hb dX9_parameter_6 rfl (lv_at hl 1 rfl) ?_
  refine rdV (As := [.int 0]) (ci := 9) S (c_X9_isProcedure_1 l D cI cZ cJ o q) mi_X9_isProcedure kw_7_96 ⟨rfl, rfl⟩ ⟨Nat.le_of_ble_eq_true rfl, Nat.le_of_ble_eq_true rfl⟩ hP hK mW_0 rfl rfl hl.1 (Nat.le_of_ble_eq_true rfl) ⟨Nat.le_of_ble_eq_true rfl, Nat.le_of_ble_eq_true rfl⟩ dX9_parameter_7 ?_
  refine lv_if_ne (tgt := 19) hx hb dX9_parameter_10 (by decide) (fun _ => ?_) (fun c => absurd c (by decide))
  refine lv_iload_n hx hb dX9_parameter_19 rfl (lv_at hl 2 rfl) ?_
  refine rdS (As := [.int x2]) S (c_X9_isName_0 l D cI cZ cJ o q x2 ou_x2_0_15) ms_X9_isName kw_7_107 ⟨rfl, rfl⟩ ⟨Nat.le_of_ble_eq_true rfl, Nat.le_of_ble_eq_true rfl⟩ hP hK hl.1 (Nat.le_of_ble_eq_true rfl) ⟨Nat.le_of_ble_eq_true rfl, Nat.le_of_ble_eq_true rfl⟩ dX9_parameter_20 ?_
  refine lv_if_eq (tgt := 35) hx hb dX9_parameter_23 (by decide) (fun _ => ?_) (fun c => absurd c (by decide))
  refine lv_aload_n hx hb dX9_parameter_35 rfl (lv_at hl 0 rfl) ?_
  refine lv_iconst (v := 2) hx hb dX9_parameter_36 (by decide) ?_
  refine wrV (As := [.int 2]) (ci := 9) S (c_X9_no_1 l D cI cZ cJ o q H.size) mi_X9_no kw_7_103 rfl rfl ⟨Nat.le_of_ble_eq_true rfl, Nat.le_of_ble_eq_true rfl⟩ hP hD hK hS hA mW_0 rfl rfl hl.1 (Nat.le_of_ble_eq_true rfl) ⟨Nat.le_of_ble_eq_true rfl, Nat.le_of_ble_eq_true rfl⟩ dX9_parameter_37 (fun H locs hz hP hD hS => ?_)
  exact wEnd S hr hlocks hP hD hS (Nat.le_of_ble_eq_true rfl) (Nat.le_of_ble_eq_true rfl) dX9_parameter_40 rfl

set_option maxHeartbeats 8000000 in
set_option maxRecDepth 100000 in
theorem c_X9_isIn_4 (l : Launch) (D : va_G) (cI cZ cJ : ClassId) (o : Nat) (q : Nat → Nat) (x3 : Int32) (ou_x3_0_5 : ¬ (0 ≤ x3 ∧ x3 ≤ 5)) : Met l yX9_isIn (uW yX9_isIn cX9_isIn 3 (some .boolean)) ({ frames := 0, cells := 0, slots := 0, locals := 0 }) (va_Pc [.int x3, .int 0, .int 5] (pS D (tyL cI cZ cJ) (mW o 0 q cI cZ))) (QcRead (0)) 0 0 (fun _ => False) := by
  refine rdStart (lv := [(0, .int x3), (1, .int 0), (2, .int 5)]) (by decide) (Nat.le_of_ble_eq_true rfl) rfl ?_
  intro p e s m args below meth c ls S hr hlocks hl hP hK
  have hx := S.1
  have hb := S.2.1
  refine lv_iload_n hx hb dX9_isIn_0 rfl (lv_at hl 0 rfl) ?_
  refine lv_iload_n hx hb dX9_isIn_1 rfl (lv_at hl 1 rfl) ?_
  refine lv_icmp_lt (tgt := 14) hx hb dX9_isIn_2 (by decide) (fun c_2 => ?_) (fun c_2 => ?_)
  · have hi_x3 : x3 ≤ (-1) := u_lt c_2 (by decide)
    refine lv_iconst (v := 0) hx hb dX9_isIn_14 (by decide) ?_
    exact rdEndZ S hr hlocks dX9_isIn_15 rfl rfl
  · have lo_x3 : 0 ≤ x3 := l_nlt c_2
    have lo_x3 : 6 ≤ x3 := o_l ou_x3_0_5 (b_ge lo_x3 (by decide)) (by decide)
    refine lv_iload_n hx hb dX9_isIn_5 rfl (lv_at hl 0 rfl) ?_
    refine lv_iload_n hx hb dX9_isIn_6 rfl (lv_at hl 2 rfl) ?_
    refine lv_icmp_gt (tgt := 14) hx hb dX9_isIn_7 (by decide) (fun _ => ?_) (fun c => absurd (b_gt lo_x3 (by decide)) c)
    refine lv_iconst (v := 0) hx hb dX9_isIn_14 (by decide) ?_
    exact rdEndZ S hr hlocks dX9_isIn_15 rfl rfl

set_option maxHeartbeats 8000000 in
set_option maxRecDepth 100000 in
theorem m_parameter_m (l : Launch) (D : va_G) (cI cZ cJ : ClassId) (o : Nat) (q : Nat → Nat) (sz : Nat) (x2 : Int32) (x3 : Int32) (lo_x2 : 0 ≤ x2) (hi_x2 : x2 ≤ 15) (ou_x3_0_5 : ¬ (0 ≤ x3 ∧ x3 ≤ 5)) : Met l yX9_parameter (uW yX9_parameter cX9_parameter 4 (some .int)) ({ frames := 2, cells := 0, slots := 0, locals := 43 }) (va_Pc [.ref o, .int 0, .int x2, .int x3] (wS D (tyL cI cZ cJ) (mW o 0 q cI cZ) sz)) (wQi (0) D (mW o 2 q cI cZ) (va_A (mW o 0 q cI cZ) sz)) 0 0 (va_A (mW o 0 q cI cZ) sz) := by
  refine wStart (lv := [(0, .ref o), (1, .int 0), (2, .int x2), (3, .int x3)]) (Qc := fun A => wQi (0) D (mW o 2 q cI cZ) A) (by decide) (Nat.le_of_ble_eq_true rfl) rfl ?_
  intro p e s m args below meth c ls A H S hr hlocks hnm hl hK hP hD hS hA
  have hx := S.1
  have hb := S.2.1
  refine lv_aload_n hx hb dX9_parameter_0 rfl (lv_at hl 0 rfl) ?_
  refine lv_iconst (v := 0) hx hb dX9_parameter_1 (by decide) ?_
  refine xp (ci := 9) (v := .int 0) S inX9 tyX9 tyX9_ok nmX9 rfl hK hP hD hS mW_0 0 (by decide) kw_6_147 rfl rfl rfl rfl (Nat.le_of_ble_eq_true rfl) dX9_parameter_2 (fun H locs hP hD hS => ?_)
  have hP : va_P D vwCl (mW o 0 q cI cZ) H := hP
  have hD : va_D A (mW o 0 q cI cZ) := hD
  refine lv_aload_n hx hb dX9_parameter_5 rfl (lv_at hl 0 rfl) ?_
  refine lv_iload_n hx hb dX9_parameter_6 rfl (lv_at hl 1 rfl) ?_
  refine rdV (As := [.int 0]) (ci := 9) S (c_X9_isProcedure_1 l D cI cZ cJ o q) mi_X9_isProcedure kw_7_96 ⟨rfl, rfl⟩ ⟨Nat.le_of_ble_eq_true rfl, Nat.le_of_ble_eq_true rfl⟩ hP hK mW_0 rfl rfl hl.1 (Nat.le_of_ble_eq_true rfl) ⟨Nat.le_of_ble_eq_true rfl, Nat.le_of_ble_eq_true rfl⟩ dX9_parameter_7 ?_
  refine lv_if_ne (tgt := 19) hx hb dX9_parameter_10 (by decide) (fun _ => ?_) (fun c => absurd c (by decide))
  refine lv_iload_n hx hb dX9_parameter_19 rfl (lv_at hl 2 rfl) ?_
  refine rdS (As := [.int x2]) S (c_X9_isName_1 l D cI cZ cJ o q x2 lo_x2 hi_x2) ms_X9_isName kw_7_107 ⟨rfl, rfl⟩ ⟨Nat.le_of_ble_eq_true rfl, Nat.le_of_ble_eq_true rfl⟩ hP hK hl.1 (Nat.le_of_ble_eq_true rfl) ⟨Nat.le_of_ble_eq_true rfl, Nat.le_of_ble_eq_true rfl⟩ dX9_parameter_20 ?_
  refine lv_if_eq (tgt := 35) hx hb dX9_parameter_23 (by decide) (fun c => absurd c (by decide)) (fun _ => ?_)
  refine lv_iload_n hx hb dX9_parameter_26 rfl (lv_at hl 3 rfl) ?_
  refine lv_iconst (v := 0) hx hb dX9_parameter_27 (by decide) ?_
  refine lv_iconst (v := 5) hx hb dX9_parameter_28 (by decide) ?_
  refine rdS (As := [.int x3, .int 0, .int 5]) S (c_X9_isIn_4 l D cI cZ cJ o q x3 ou_x3_0_5) ms_X9_isIn kw_7_100 ⟨rfl, rfl⟩ ⟨Nat.le_of_ble_eq_true rfl, Nat.le_of_ble_eq_true rfl⟩ hP hK hl.1 (Nat.le_of_ble_eq_true rfl) ⟨Nat.le_of_ble_eq_true rfl, Nat.le_of_ble_eq_true rfl⟩ dX9_parameter_29 ?_
  refine lv_if_ne (tgt := 41) hx hb dX9_parameter_32 (by decide) (fun c => absurd c (by decide)) (fun _ => ?_)
  refine lv_aload_n hx hb dX9_parameter_35 rfl (lv_at hl 0 rfl) ?_
  refine lv_iconst (v := 2) hx hb dX9_parameter_36 (by decide) ?_
  refine wrV (As := [.int 2]) (ci := 9) S (c_X9_no_1 l D cI cZ cJ o q H.size) mi_X9_no kw_7_103 rfl rfl ⟨Nat.le_of_ble_eq_true rfl, Nat.le_of_ble_eq_true rfl⟩ hP hD hK hS hA mW_0 rfl rfl hl.1 (Nat.le_of_ble_eq_true rfl) ⟨Nat.le_of_ble_eq_true rfl, Nat.le_of_ble_eq_true rfl⟩ dX9_parameter_37 (fun H locs hz hP hD hS => ?_)
  exact wEnd S hr hlocks hP hD hS (Nat.le_of_ble_eq_true rfl) (Nat.le_of_ble_eq_true rfl) dX9_parameter_40 rfl

set_option maxHeartbeats 8000000 in
set_option maxRecDepth 100000 in
theorem c_X9_isIn_5 (l : Launch) (D : va_G) (cI cZ cJ : ClassId) (o : Nat) (q : Nat → Nat) (x3 : Int32) (lo_x3 : 0 ≤ x3) (hi_x3 : x3 ≤ 5) : Met l yX9_isIn (uW yX9_isIn cX9_isIn 3 (some .boolean)) ({ frames := 0, cells := 0, slots := 0, locals := 0 }) (va_Pc [.int x3, .int 0, .int 5] (pS D (tyL cI cZ cJ) (mW o 0 q cI cZ))) (QcRead (1)) 0 0 (fun _ => False) := by
  refine rdStart (lv := [(0, .int x3), (1, .int 0), (2, .int 5)]) (by decide) (Nat.le_of_ble_eq_true rfl) rfl ?_
  intro p e s m args below meth c ls S hr hlocks hl hP hK
  have hx := S.1
  have hb := S.2.1
  refine lv_iload_n hx hb dX9_isIn_0 rfl (lv_at hl 0 rfl) ?_
  refine lv_iload_n hx hb dX9_isIn_1 rfl (lv_at hl 1 rfl) ?_
  refine lv_icmp_lt (tgt := 14) hx hb dX9_isIn_2 (by decide) (fun c => absurd c (b_nlt lo_x3 (by decide))) (fun _ => ?_)
  refine lv_iload_n hx hb dX9_isIn_5 rfl (lv_at hl 0 rfl) ?_
  refine lv_iload_n hx hb dX9_isIn_6 rfl (lv_at hl 2 rfl) ?_
  refine lv_icmp_gt (tgt := 14) hx hb dX9_isIn_7 (by decide) (fun c => absurd c (b_ngt hi_x3 (by decide))) (fun _ => ?_)
  refine lv_iconst (v := 1) hx hb dX9_isIn_10 (by decide) ?_
  refine lv_goto (tgt := 15) hx hb dX9_isIn_11 (by decide) ?_
  exact rdEndZ S hr hlocks dX9_isIn_15 rfl rfl

set_option maxHeartbeats 8000000 in
set_option maxRecDepth 100000 in
theorem c_X9_no_2 (l : Launch) (D : va_G) (cI cZ cJ : ClassId) (o : Nat) (q : Nat → Nat) (sz : Nat) : Met l yX9_no (uW yX9_no cX9_no 2 (some .int)) ({ frames := 0, cells := 0, slots := 0, locals := 0 }) (va_Pc [.ref o, .int 3] (wS D (tyL cI cZ cJ) (mW o 0 q cI cZ) sz)) (wQi (0) D (mW o 3 q cI cZ) (va_A (mW o 0 q cI cZ) sz)) 0 0 (va_A (mW o 0 q cI cZ) sz) := by
  refine wStart (lv := [(0, .ref o), (1, .int 3)]) (Qc := fun A => wQi (0) D (mW o 3 q cI cZ) A) (by decide) (Nat.le_of_ble_eq_true rfl) rfl ?_
  intro p e s m args below meth c ls A H S hr hlocks hnm hl hK hP hD hS hA
  have hx := S.1
  have hb := S.2.1
  refine lv_aload_n hx hb dX9_no_0 rfl (lv_at hl 0 rfl) ?_
  refine lv_iload_n hx hb dX9_no_1 rfl (lv_at hl 1 rfl) ?_
  refine xp (ci := 9) (v := .int 3) S inX9 tyX9 tyX9_ok nmX9 rfl hK hP hD hS mW_0 0 (by decide) kw_6_147 rfl rfl rfl rfl (Nat.le_of_ble_eq_true rfl) dX9_no_2 (fun H locs hP hD hS => ?_)
  have hP : va_P D vwCl (mW o 3 q cI cZ) H := hP
  have hD : va_D A (mW o 3 q cI cZ) := hD
  refine lv_iconst (v := 0) hx hb dX9_no_5 (by decide) ?_
  exact wEnd S hr hlocks hP hD hS (Nat.le_of_ble_eq_true rfl) (Nat.le_of_ble_eq_true rfl) dX9_no_6 rfl

set_option maxHeartbeats 8000000 in
set_option maxRecDepth 100000 in
theorem m_parameter_ok (l : Launch) (D : va_G) (cI cZ cJ : ClassId) (o : Nat) (q : Nat → Nat) (sz : Nat) (x2 : Int32) (x3 : Int32) (lo_x2 : 0 ≤ x2) (hi_x2 : x2 ≤ 15) (lo_x3 : 0 ≤ x3) (hi_x3 : x3 ≤ 5) : Met l yX9_parameter (uW yX9_parameter cX9_parameter 4 (some .int)) ({ frames := 2, cells := 0, slots := 0, locals := 43 }) (va_Pc [.ref o, .int 0, .int x2, .int x3] (wS D (tyL cI cZ cJ) (mW o 0 q cI cZ) sz)) (wQi (0) D (mW o 3 q cI cZ) (va_A (mW o 0 q cI cZ) sz)) 0 0 (va_A (mW o 0 q cI cZ) sz) := by
  refine wStart (lv := [(0, .ref o), (1, .int 0), (2, .int x2), (3, .int x3)]) (Qc := fun A => wQi (0) D (mW o 3 q cI cZ) A) (by decide) (Nat.le_of_ble_eq_true rfl) rfl ?_
  intro p e s m args below meth c ls A H S hr hlocks hnm hl hK hP hD hS hA
  have hx := S.1
  have hb := S.2.1
  refine lv_aload_n hx hb dX9_parameter_0 rfl (lv_at hl 0 rfl) ?_
  refine lv_iconst (v := 0) hx hb dX9_parameter_1 (by decide) ?_
  refine xp (ci := 9) (v := .int 0) S inX9 tyX9 tyX9_ok nmX9 rfl hK hP hD hS mW_0 0 (by decide) kw_6_147 rfl rfl rfl rfl (Nat.le_of_ble_eq_true rfl) dX9_parameter_2 (fun H locs hP hD hS => ?_)
  have hP : va_P D vwCl (mW o 0 q cI cZ) H := hP
  have hD : va_D A (mW o 0 q cI cZ) := hD
  refine lv_aload_n hx hb dX9_parameter_5 rfl (lv_at hl 0 rfl) ?_
  refine lv_iload_n hx hb dX9_parameter_6 rfl (lv_at hl 1 rfl) ?_
  refine rdV (As := [.int 0]) (ci := 9) S (c_X9_isProcedure_1 l D cI cZ cJ o q) mi_X9_isProcedure kw_7_96 ⟨rfl, rfl⟩ ⟨Nat.le_of_ble_eq_true rfl, Nat.le_of_ble_eq_true rfl⟩ hP hK mW_0 rfl rfl hl.1 (Nat.le_of_ble_eq_true rfl) ⟨Nat.le_of_ble_eq_true rfl, Nat.le_of_ble_eq_true rfl⟩ dX9_parameter_7 ?_
  refine lv_if_ne (tgt := 19) hx hb dX9_parameter_10 (by decide) (fun _ => ?_) (fun c => absurd c (by decide))
  refine lv_iload_n hx hb dX9_parameter_19 rfl (lv_at hl 2 rfl) ?_
  refine rdS (As := [.int x2]) S (c_X9_isName_1 l D cI cZ cJ o q x2 lo_x2 hi_x2) ms_X9_isName kw_7_107 ⟨rfl, rfl⟩ ⟨Nat.le_of_ble_eq_true rfl, Nat.le_of_ble_eq_true rfl⟩ hP hK hl.1 (Nat.le_of_ble_eq_true rfl) ⟨Nat.le_of_ble_eq_true rfl, Nat.le_of_ble_eq_true rfl⟩ dX9_parameter_20 ?_
  refine lv_if_eq (tgt := 35) hx hb dX9_parameter_23 (by decide) (fun c => absurd c (by decide)) (fun _ => ?_)
  refine lv_iload_n hx hb dX9_parameter_26 rfl (lv_at hl 3 rfl) ?_
  refine lv_iconst (v := 0) hx hb dX9_parameter_27 (by decide) ?_
  refine lv_iconst (v := 5) hx hb dX9_parameter_28 (by decide) ?_
  refine rdS (As := [.int x3, .int 0, .int 5]) S (c_X9_isIn_5 l D cI cZ cJ o q x3 lo_x3 hi_x3) ms_X9_isIn kw_7_100 ⟨rfl, rfl⟩ ⟨Nat.le_of_ble_eq_true rfl, Nat.le_of_ble_eq_true rfl⟩ hP hK hl.1 (Nat.le_of_ble_eq_true rfl) ⟨Nat.le_of_ble_eq_true rfl, Nat.le_of_ble_eq_true rfl⟩ dX9_parameter_29 ?_
  refine lv_if_ne (tgt := 41) hx hb dX9_parameter_32 (by decide) (fun _ => ?_) (fun c => absurd c (by decide))
  refine lv_iload_n hx hb dX9_parameter_41 rfl (lv_at hl 1 rfl) ?_
  refine lv_if_eq (tgt := 79) hx hb dX9_parameter_42 (by decide) (fun _ => ?_) (fun c => absurd c (by decide))
  refine lv_aload_n hx hb dX9_parameter_79 rfl (lv_at hl 0 rfl) ?_
  refine lv_iconst (v := 3) hx hb dX9_parameter_80 (by decide) ?_
  refine wrV (As := [.int 3]) (ci := 9) S (c_X9_no_2 l D cI cZ cJ o q H.size) mi_X9_no kw_7_103 rfl rfl ⟨Nat.le_of_ble_eq_true rfl, Nat.le_of_ble_eq_true rfl⟩ hP hD hK hS hA mW_0 rfl rfl hl.1 (Nat.le_of_ble_eq_true rfl) ⟨Nat.le_of_ble_eq_true rfl, Nat.le_of_ble_eq_true rfl⟩ dX9_parameter_81 (fun H locs hz hP hD hS => ?_)
  exact wEnd S hr hlocks hP hD hS (Nat.le_of_ble_eq_true rfl) (Nat.le_of_ble_eq_true rfl) dX9_parameter_84 rfl

set_option maxHeartbeats 8000000 in
set_option maxRecDepth 100000 in
theorem m_variable_p (l : Launch) (D : va_G) (cI cZ cJ : ClassId) (o : Nat) (q : Nat → Nat) (sz : Nat) (x1 : Int32) (x2 : Int32) (x3 : Int32) (x4 : Int32) (ne_x1_0 : ¬ x1 = 0) : Met l yX9_variable (uW yX9_variable cX9_variable 6 (some .int)) ({ frames := 2, cells := 0, slots := 0, locals := 43 }) (va_Pc [.ref o, .int x1, .int x2, .int x3, .int x4] (wS D (tyL cI cZ cJ) (mW o 0 q cI cZ) sz)) (wQi (0) D (mW o 1 q cI cZ) (va_A (mW o 0 q cI cZ) sz)) 0 0 (va_A (mW o 0 q cI cZ) sz) := by
  refine wStart (lv := [(0, .ref o), (1, .int x1), (2, .int x2), (3, .int x3), (4, .int x4)]) (Qc := fun A => wQi (0) D (mW o 1 q cI cZ) A) (by decide) (Nat.le_of_ble_eq_true rfl) rfl ?_
  intro p e s m args below meth c ls A H S hr hlocks hnm hl hK hP hD hS hA
  have hx := S.1
  have hb := S.2.1
  refine lv_aload_n hx hb dX9_variable_0 rfl (lv_at hl 0 rfl) ?_
  refine lv_iconst (v := 0) hx hb dX9_variable_1 (by decide) ?_
  refine xp (ci := 9) (v := .int 0) S inX9 tyX9 tyX9_ok nmX9 rfl hK hP hD hS mW_0 0 (by decide) kw_6_147 rfl rfl rfl rfl (Nat.le_of_ble_eq_true rfl) dX9_variable_2 (fun H locs hP hD hS => ?_)
  have hP : va_P D vwCl (mW o 0 q cI cZ) H := hP
  have hD : va_D A (mW o 0 q cI cZ) := hD
  refine lv_aload_n hx hb dX9_variable_5 rfl (lv_at hl 0 rfl) ?_
  refine lv_iload_n hx hb dX9_variable_6 rfl (lv_at hl 1 rfl) ?_
  refine rdV (As := [.int x1]) (ci := 9) S (c_X9_isProcedure_0 l D cI cZ cJ o q x1 ne_x1_0) mi_X9_isProcedure kw_7_96 ⟨rfl, rfl⟩ ⟨Nat.le_of_ble_eq_true rfl, Nat.le_of_ble_eq_true rfl⟩ hP hK mW_0 rfl rfl hl.1 (Nat.le_of_ble_eq_true rfl) ⟨Nat.le_of_ble_eq_true rfl, Nat.le_of_ble_eq_true rfl⟩ dX9_variable_7 ?_
  refine lv_if_ne (tgt := 19) hx hb dX9_variable_10 (by decide) (fun c => absurd c (by decide)) (fun _ => ?_)
  refine lv_aload_n hx hb dX9_variable_13 rfl (lv_at hl 0 rfl) ?_
  refine lv_iconst (v := 1) hx hb dX9_variable_14 (by decide) ?_
  refine wrV (As := [.int 1]) (ci := 9) S (c_X9_no_0 l D cI cZ cJ o q H.size) mi_X9_no kw_7_103 rfl rfl ⟨Nat.le_of_ble_eq_true rfl, Nat.le_of_ble_eq_true rfl⟩ hP hD hK hS hA mW_0 rfl rfl hl.1 (Nat.le_of_ble_eq_true rfl) ⟨Nat.le_of_ble_eq_true rfl, Nat.le_of_ble_eq_true rfl⟩ dX9_variable_15 (fun H locs hz hP hD hS => ?_)
  exact wEnd S hr hlocks hP hD hS (Nat.le_of_ble_eq_true rfl) (Nat.le_of_ble_eq_true rfl) dX9_variable_18 rfl

set_option maxHeartbeats 8000000 in
set_option maxRecDepth 100000 in
theorem c_X9_isIn_6 (l : Launch) (D : va_G) (cI cZ cJ : ClassId) (o : Nat) (q : Nat → Nat) (x4 : Int32) (hi_x4 : x4 ≤ (-100)) : Met l yX9_isIn (uW yX9_isIn cX9_isIn 3 (some .boolean)) ({ frames := 0, cells := 0, slots := 0, locals := 0 }) (va_Pc [.int x4, .int (-99), .int 99] (pS D (tyL cI cZ cJ) (mW o 0 q cI cZ))) (QcRead (0)) 0 0 (fun _ => False) := by
  refine rdStart (lv := [(0, .int x4), (1, .int (-99)), (2, .int 99)]) (by decide) (Nat.le_of_ble_eq_true rfl) rfl ?_
  intro p e s m args below meth c ls S hr hlocks hl hP hK
  have hx := S.1
  have hb := S.2.1
  refine lv_iload_n hx hb dX9_isIn_0 rfl (lv_at hl 0 rfl) ?_
  refine lv_iload_n hx hb dX9_isIn_1 rfl (lv_at hl 1 rfl) ?_
  refine lv_icmp_lt (tgt := 14) hx hb dX9_isIn_2 (by decide) (fun _ => ?_) (fun c => absurd (b_lt hi_x4 (by decide)) c)
  refine lv_iconst (v := 0) hx hb dX9_isIn_14 (by decide) ?_
  exact rdEndZ S hr hlocks dX9_isIn_15 rfl rfl

set_option maxHeartbeats 8000000 in
set_option maxRecDepth 100000 in
theorem c_X9_isIn_7 (l : Launch) (D : va_G) (cI cZ cJ : ClassId) (o : Nat) (q : Nat → Nat) (x4 : Int32) (lo_x4 : 100 ≤ x4) : Met l yX9_isIn (uW yX9_isIn cX9_isIn 3 (some .boolean)) ({ frames := 0, cells := 0, slots := 0, locals := 0 }) (va_Pc [.int x4, .int (-99), .int 99] (pS D (tyL cI cZ cJ) (mW o 0 q cI cZ))) (QcRead (0)) 0 0 (fun _ => False) := by
  refine rdStart (lv := [(0, .int x4), (1, .int (-99)), (2, .int 99)]) (by decide) (Nat.le_of_ble_eq_true rfl) rfl ?_
  intro p e s m args below meth c ls S hr hlocks hl hP hK
  have hx := S.1
  have hb := S.2.1
  refine lv_iload_n hx hb dX9_isIn_0 rfl (lv_at hl 0 rfl) ?_
  refine lv_iload_n hx hb dX9_isIn_1 rfl (lv_at hl 1 rfl) ?_
  refine lv_icmp_lt (tgt := 14) hx hb dX9_isIn_2 (by decide) (fun c => absurd c (b_nlt lo_x4 (by decide))) (fun _ => ?_)
  refine lv_iload_n hx hb dX9_isIn_5 rfl (lv_at hl 0 rfl) ?_
  refine lv_iload_n hx hb dX9_isIn_6 rfl (lv_at hl 2 rfl) ?_
  refine lv_icmp_gt (tgt := 14) hx hb dX9_isIn_7 (by decide) (fun _ => ?_) (fun c => absurd (b_gt lo_x4 (by decide)) c)
  refine lv_iconst (v := 0) hx hb dX9_isIn_14 (by decide) ?_
  exact rdEndZ S hr hlocks dX9_isIn_15 rfl rfl

set_option maxHeartbeats 8000000 in
set_option maxRecDepth 100000 in
theorem c_X9_isIn_8 (l : Launch) (D : va_G) (cI cZ cJ : ClassId) (o : Nat) (q : Nat → Nat) (x4 : Int32) (lo_x4 : (-99) ≤ x4) (hi_x4 : x4 ≤ 99) : Met l yX9_isIn (uW yX9_isIn cX9_isIn 3 (some .boolean)) ({ frames := 0, cells := 0, slots := 0, locals := 0 }) (va_Pc [.int x4, .int (-99), .int 99] (pS D (tyL cI cZ cJ) (mW o 0 q cI cZ))) (QcRead (1)) 0 0 (fun _ => False) := by
  refine rdStart (lv := [(0, .int x4), (1, .int (-99)), (2, .int 99)]) (by decide) (Nat.le_of_ble_eq_true rfl) rfl ?_
  intro p e s m args below meth c ls S hr hlocks hl hP hK
  have hx := S.1
  have hb := S.2.1
  refine lv_iload_n hx hb dX9_isIn_0 rfl (lv_at hl 0 rfl) ?_
  refine lv_iload_n hx hb dX9_isIn_1 rfl (lv_at hl 1 rfl) ?_
  refine lv_icmp_lt (tgt := 14) hx hb dX9_isIn_2 (by decide) (fun c => absurd c (b_nlt lo_x4 (by decide))) (fun _ => ?_)
  refine lv_iload_n hx hb dX9_isIn_5 rfl (lv_at hl 0 rfl) ?_
  refine lv_iload_n hx hb dX9_isIn_6 rfl (lv_at hl 2 rfl) ?_
  refine lv_icmp_gt (tgt := 14) hx hb dX9_isIn_7 (by decide) (fun c => absurd c (b_ngt hi_x4 (by decide))) (fun _ => ?_)
  refine lv_iconst (v := 1) hx hb dX9_isIn_10 (by decide) ?_
  refine lv_goto (tgt := 15) hx hb dX9_isIn_11 (by decide) ?_
  exact rdEndZ S hr hlocks dX9_isIn_15 rfl rfl

set_option maxHeartbeats 8000000 in
set_option maxRecDepth 100000 in
theorem c_X9_isIn_9 (l : Launch) (D : va_G) (cI cZ cJ : ClassId) (o : Nat) (q : Nat → Nat) (x4 : Int32) (hi_x4 : x4 ≤ 0) : Met l yX9_isIn (uW yX9_isIn cX9_isIn 3 (some .boolean)) ({ frames := 0, cells := 0, slots := 0, locals := 0 }) (va_Pc [.int x4, .int 1, .int 8] (pS D (tyL cI cZ cJ) (mW o 0 q cI cZ))) (QcRead (0)) 0 0 (fun _ => False) := by
  refine rdStart (lv := [(0, .int x4), (1, .int 1), (2, .int 8)]) (by decide) (Nat.le_of_ble_eq_true rfl) rfl ?_
  intro p e s m args below meth c ls S hr hlocks hl hP hK
  have hx := S.1
  have hb := S.2.1
  refine lv_iload_n hx hb dX9_isIn_0 rfl (lv_at hl 0 rfl) ?_
  refine lv_iload_n hx hb dX9_isIn_1 rfl (lv_at hl 1 rfl) ?_
  refine lv_icmp_lt (tgt := 14) hx hb dX9_isIn_2 (by decide) (fun _ => ?_) (fun c => absurd (b_lt hi_x4 (by decide)) c)
  refine lv_iconst (v := 0) hx hb dX9_isIn_14 (by decide) ?_
  exact rdEndZ S hr hlocks dX9_isIn_15 rfl rfl

set_option maxHeartbeats 8000000 in
set_option maxRecDepth 100000 in
theorem c_X9_isIn_10 (l : Launch) (D : va_G) (cI cZ cJ : ClassId) (o : Nat) (q : Nat → Nat) (x4 : Int32) (lo_x4 : 9 ≤ x4) : Met l yX9_isIn (uW yX9_isIn cX9_isIn 3 (some .boolean)) ({ frames := 0, cells := 0, slots := 0, locals := 0 }) (va_Pc [.int x4, .int 1, .int 8] (pS D (tyL cI cZ cJ) (mW o 0 q cI cZ))) (QcRead (0)) 0 0 (fun _ => False) := by
  refine rdStart (lv := [(0, .int x4), (1, .int 1), (2, .int 8)]) (by decide) (Nat.le_of_ble_eq_true rfl) rfl ?_
  intro p e s m args below meth c ls S hr hlocks hl hP hK
  have hx := S.1
  have hb := S.2.1
  refine lv_iload_n hx hb dX9_isIn_0 rfl (lv_at hl 0 rfl) ?_
  refine lv_iload_n hx hb dX9_isIn_1 rfl (lv_at hl 1 rfl) ?_
  refine lv_icmp_lt (tgt := 14) hx hb dX9_isIn_2 (by decide) (fun c => absurd c (b_nlt lo_x4 (by decide))) (fun _ => ?_)
  refine lv_iload_n hx hb dX9_isIn_5 rfl (lv_at hl 0 rfl) ?_
  refine lv_iload_n hx hb dX9_isIn_6 rfl (lv_at hl 2 rfl) ?_
  refine lv_icmp_gt (tgt := 14) hx hb dX9_isIn_7 (by decide) (fun _ => ?_) (fun c => absurd (b_gt lo_x4 (by decide)) c)
  refine lv_iconst (v := 0) hx hb dX9_isIn_14 (by decide) ?_
  exact rdEndZ S hr hlocks dX9_isIn_15 rfl rfl

set_option maxHeartbeats 8000000 in
set_option maxRecDepth 100000 in
theorem c_X9_isIn_11 (l : Launch) (D : va_G) (cI cZ cJ : ClassId) (o : Nat) (q : Nat → Nat) (x4 : Int32) (lo_x4 : 1 ≤ x4) (hi_x4 : x4 ≤ 8) : Met l yX9_isIn (uW yX9_isIn cX9_isIn 3 (some .boolean)) ({ frames := 0, cells := 0, slots := 0, locals := 0 }) (va_Pc [.int x4, .int 1, .int 8] (pS D (tyL cI cZ cJ) (mW o 0 q cI cZ))) (QcRead (1)) 0 0 (fun _ => False) := by
  refine rdStart (lv := [(0, .int x4), (1, .int 1), (2, .int 8)]) (by decide) (Nat.le_of_ble_eq_true rfl) rfl ?_
  intro p e s m args below meth c ls S hr hlocks hl hP hK
  have hx := S.1
  have hb := S.2.1
  refine lv_iload_n hx hb dX9_isIn_0 rfl (lv_at hl 0 rfl) ?_
  refine lv_iload_n hx hb dX9_isIn_1 rfl (lv_at hl 1 rfl) ?_
  refine lv_icmp_lt (tgt := 14) hx hb dX9_isIn_2 (by decide) (fun c => absurd c (b_nlt lo_x4 (by decide))) (fun _ => ?_)
  refine lv_iload_n hx hb dX9_isIn_5 rfl (lv_at hl 0 rfl) ?_
  refine lv_iload_n hx hb dX9_isIn_6 rfl (lv_at hl 2 rfl) ?_
  refine lv_icmp_gt (tgt := 14) hx hb dX9_isIn_7 (by decide) (fun c => absurd c (b_ngt hi_x4 (by decide))) (fun _ => ?_)
  refine lv_iconst (v := 1) hx hb dX9_isIn_10 (by decide) ?_
  refine lv_goto (tgt := 15) hx hb dX9_isIn_11 (by decide) ?_
  exact rdEndZ S hr hlocks dX9_isIn_15 rfl rfl

set_option maxHeartbeats 8000000 in
set_option maxRecDepth 100000 in
theorem m_variable_n (l : Launch) (D : va_G) (cI cZ cJ : ClassId) (o : Nat) (q : Nat → Nat) (sz : Nat) (x2 : Int32) (x3 : Int32) (x4 : Int32) (ou_x2_0_15 : ¬ (0 ≤ x2 ∧ x2 ≤ 15)) : Met l yX9_variable (uW yX9_variable cX9_variable 6 (some .int)) ({ frames := 2, cells := 0, slots := 0, locals := 43 }) (va_Pc [.ref o, .int 0, .int x2, .int x3, .int x4] (wS D (tyL cI cZ cJ) (mW o 0 q cI cZ) sz)) (wQi (0) D (mW o 2 q cI cZ) (va_A (mW o 0 q cI cZ) sz)) 0 0 (va_A (mW o 0 q cI cZ) sz) := by
  refine wStart (lv := [(0, .ref o), (1, .int 0), (2, .int x2), (3, .int x3), (4, .int x4)]) (Qc := fun A => wQi (0) D (mW o 2 q cI cZ) A) (by decide) (Nat.le_of_ble_eq_true rfl) rfl ?_
  intro p e s m args below meth c ls A H S hr hlocks hnm hl hK hP hD hS hA
  have hx := S.1
  have hb := S.2.1
  refine lv_aload_n hx hb dX9_variable_0 rfl (lv_at hl 0 rfl) ?_
  refine lv_iconst (v := 0) hx hb dX9_variable_1 (by decide) ?_
  refine xp (ci := 9) (v := .int 0) S inX9 tyX9 tyX9_ok nmX9 rfl hK hP hD hS mW_0 0 (by decide) kw_6_147 rfl rfl rfl rfl (Nat.le_of_ble_eq_true rfl) dX9_variable_2 (fun H locs hP hD hS => ?_)
  have hP : va_P D vwCl (mW o 0 q cI cZ) H := hP
  have hD : va_D A (mW o 0 q cI cZ) := hD
  refine lv_aload_n hx hb dX9_variable_5 rfl (lv_at hl 0 rfl) ?_
  refine lv_iload_n hx hb dX9_variable_6 rfl (lv_at hl 1 rfl) ?_
  refine rdV (As := [.int 0]) (ci := 9) S (c_X9_isProcedure_1 l D cI cZ cJ o q) mi_X9_isProcedure kw_7_96 ⟨rfl, rfl⟩ ⟨Nat.le_of_ble_eq_true rfl, Nat.le_of_ble_eq_true rfl⟩ hP hK mW_0 rfl rfl hl.1 (Nat.le_of_ble_eq_true rfl) ⟨Nat.le_of_ble_eq_true rfl, Nat.le_of_ble_eq_true rfl⟩ dX9_variable_7 ?_
  refine lv_if_ne (tgt := 19) hx hb dX9_variable_10 (by decide) (fun _ => ?_) (fun c => absurd c (by decide))
  refine lv_iload_n hx hb dX9_variable_19 rfl (lv_at hl 3 rfl) ?_
  refine lv_iconst (v := 1) hx hb dX9_variable_20 (by decide) ?_
  refine lv_icmp_ne (tgt := 35) hx hb dX9_variable_21 (by decide) (fun c_21 => ?_) (fun c_21 => ?_)
  · have ne_x3_1 : ¬ x3 = 1 := c_21
    refine lv_iload_n hx hb dX9_variable_35 rfl (lv_at hl 3 rfl) ?_
    refine lv_iconst (v := 3) hx hb dX9_variable_36 (by decide) ?_
    refine lv_icmp_ne (tgt := 52) hx hb dX9_variable_37 (by decide) (fun c_37 => ?_) (fun c_37 => ?_)
    · have ne_x3_3 : ¬ x3 = 3 := c_37
      refine lv_iload hx hb dX9_variable_52 (lv_at hl 4 rfl) ?_
      refine lv_if_ne (tgt := 61) hx hb dX9_variable_54 (by decide) (fun c_54 => ?_) (fun c_54 => ?_)
      · have ne_x4_0 : ¬ x4 = 0 := c_54
        refine lv_iconst (v := 0) hx hb dX9_variable_61 (by decide) ?_
        refine lv_istore (lv' := [(5, .int 0), (0, .ref o), (1, .int 0), (2, .int x2), (3, .int x3), (4, .int x4)]) hx hb dX9_variable_62 hl (by decide) rfl (fun ls hl => ?_)
        refine lv_iload_n hx hb dX9_variable_64 rfl (lv_at hl 3 rfl) ?_
        refine rdS (As := [.int x2]) S (c_X9_isName_0 l D cI cZ cJ o q x2 ou_x2_0_15) ms_X9_isName kw_7_107 ⟨rfl, rfl⟩ ⟨Nat.le_of_ble_eq_true rfl, Nat.le_of_ble_eq_true rfl⟩ hP hK hl.1 (Nat.le_of_ble_eq_true rfl) ⟨Nat.le_of_ble_eq_true rfl, Nat.le_of_ble_eq_true rfl⟩ dX9_variable_65 ?_
        refine lv_if_eq (tgt := 85) hx hb dX9_variable_68 (by decide) (fun _ => ?_) (fun c => absurd c (by decide))
        refine lv_aload_n hx hb dX9_variable_85 rfl (lv_at hl 1 rfl) ?_
        refine lv_iconst (v := 2) hx hb dX9_variable_86 (by decide) ?_
        refine wrV (As := [.int 2]) (ci := 9) S (c_X9_no_1 l D cI cZ cJ o q H.size) mi_X9_no kw_7_103 rfl rfl ⟨Nat.le_of_ble_eq_true rfl, Nat.le_of_ble_eq_true rfl⟩ hP hD hK hS hA mW_0 rfl rfl hl.1 (Nat.le_of_ble_eq_true rfl) ⟨Nat.le_of_ble_eq_true rfl, Nat.le_of_ble_eq_true rfl⟩ dX9_variable_87 (fun H locs hz hP hD hS => ?_)
        exact wEnd S hr hlocks hP hD hS (Nat.le_of_ble_eq_true rfl) (Nat.le_of_ble_eq_true rfl) dX9_variable_90 rfl
      · have e_x4 : x4 = 0 := c_54
        subst e_x4
        refine lv_iconst (v := 1) hx hb dX9_variable_57 (by decide) ?_
        refine lv_goto (tgt := 62) hx hb dX9_variable_58 (by decide) ?_
        refine lv_istore (lv' := [(5, .int 1), (0, .ref o), (1, .int 0), (2, .int x2), (3, .int x3), (4, .int 0)]) hx hb dX9_variable_62 hl (by decide) rfl (fun ls hl => ?_)
        refine lv_iload_n hx hb dX9_variable_64 rfl (lv_at hl 3 rfl) ?_
        refine rdS (As := [.int x2]) S (c_X9_isName_0 l D cI cZ cJ o q x2 ou_x2_0_15) ms_X9_isName kw_7_107 ⟨rfl, rfl⟩ ⟨Nat.le_of_ble_eq_true rfl, Nat.le_of_ble_eq_true rfl⟩ hP hK hl.1 (Nat.le_of_ble_eq_true rfl) ⟨Nat.le_of_ble_eq_true rfl, Nat.le_of_ble_eq_true rfl⟩ dX9_variable_65 ?_
        refine lv_if_eq (tgt := 85) hx hb dX9_variable_68 (by decide) (fun _ => ?_) (fun c => absurd c (by decide))
        refine lv_aload_n hx hb dX9_variable_85 rfl (lv_at hl 1 rfl) ?_
        refine lv_iconst (v := 2) hx hb dX9_variable_86 (by decide) ?_
        refine wrV (As := [.int 2]) (ci := 9) S (c_X9_no_1 l D cI cZ cJ o q H.size) mi_X9_no kw_7_103 rfl rfl ⟨Nat.le_of_ble_eq_true rfl, Nat.le_of_ble_eq_true rfl⟩ hP hD hK hS hA mW_0 rfl rfl hl.1 (Nat.le_of_ble_eq_true rfl) ⟨Nat.le_of_ble_eq_true rfl, Nat.le_of_ble_eq_true rfl⟩ dX9_variable_87 (fun H locs hz hP hD hS => ?_)
        exact wEnd S hr hlocks hP hD hS (Nat.le_of_ble_eq_true rfl) (Nat.le_of_ble_eq_true rfl) dX9_variable_90 rfl
    · have e_x3 : x3 = 3 := c_37
      subst e_x3
      refine lv_iload hx hb dX9_variable_40 (lv_at hl 4 rfl) ?_
      refine lv_bipush (v := (-99)) hx hb dX9_variable_42 (by decide) ?_
      refine lv_bipush (v := 99) hx hb dX9_variable_44 (by decide) ?_
      by_cases d_46 : x4 < (-99)
      · have hi_x4 : x4 ≤ (-100) := u_lt d_46 (by decide)
        refine rdS (As := [.int x4, .int (-99), .int 99]) S (c_X9_isIn_6 l D cI cZ cJ o q x4 hi_x4) ms_X9_isIn kw_7_100 ⟨rfl, rfl⟩ ⟨Nat.le_of_ble_eq_true rfl, Nat.le_of_ble_eq_true rfl⟩ hP hK hl.1 (Nat.le_of_ble_eq_true rfl) ⟨Nat.le_of_ble_eq_true rfl, Nat.le_of_ble_eq_true rfl⟩ dX9_variable_46 ?_
        refine lv_goto (tgt := 62) hx hb dX9_variable_49 (by decide) ?_
        refine lv_istore (lv' := [(5, .int 0), (0, .ref o), (1, .int 0), (2, .int x2), (3, .int 3), (4, .int x4)]) hx hb dX9_variable_62 hl (by decide) rfl (fun ls hl => ?_)
        refine lv_iload_n hx hb dX9_variable_64 rfl (lv_at hl 3 rfl) ?_
        refine rdS (As := [.int x2]) S (c_X9_isName_0 l D cI cZ cJ o q x2 ou_x2_0_15) ms_X9_isName kw_7_107 ⟨rfl, rfl⟩ ⟨Nat.le_of_ble_eq_true rfl, Nat.le_of_ble_eq_true rfl⟩ hP hK hl.1 (Nat.le_of_ble_eq_true rfl) ⟨Nat.le_of_ble_eq_true rfl, Nat.le_of_ble_eq_true rfl⟩ dX9_variable_65 ?_
        refine lv_if_eq (tgt := 85) hx hb dX9_variable_68 (by decide) (fun _ => ?_) (fun c => absurd c (by decide))
        refine lv_aload_n hx hb dX9_variable_85 rfl (lv_at hl 1 rfl) ?_
        refine lv_iconst (v := 2) hx hb dX9_variable_86 (by decide) ?_
        refine wrV (As := [.int 2]) (ci := 9) S (c_X9_no_1 l D cI cZ cJ o q H.size) mi_X9_no kw_7_103 rfl rfl ⟨Nat.le_of_ble_eq_true rfl, Nat.le_of_ble_eq_true rfl⟩ hP hD hK hS hA mW_0 rfl rfl hl.1 (Nat.le_of_ble_eq_true rfl) ⟨Nat.le_of_ble_eq_true rfl, Nat.le_of_ble_eq_true rfl⟩ dX9_variable_87 (fun H locs hz hP hD hS => ?_)
        exact wEnd S hr hlocks hP hD hS (Nat.le_of_ble_eq_true rfl) (Nat.le_of_ble_eq_true rfl) dX9_variable_90 rfl
      · have lo_x4 : (-99) ≤ x4 := l_nlt d_46
        by_cases d_46 : 99 < x4
        · have lo_x4 : 100 ≤ x4 := l_gt d_46 (by decide)
          refine rdS (As := [.int x4, .int (-99), .int 99]) S (c_X9_isIn_7 l D cI cZ cJ o q x4 lo_x4) ms_X9_isIn kw_7_100 ⟨rfl, rfl⟩ ⟨Nat.le_of_ble_eq_true rfl, Nat.le_of_ble_eq_true rfl⟩ hP hK hl.1 (Nat.le_of_ble_eq_true rfl) ⟨Nat.le_of_ble_eq_true rfl, Nat.le_of_ble_eq_true rfl⟩ dX9_variable_46 ?_
          refine lv_goto (tgt := 62) hx hb dX9_variable_49 (by decide) ?_
          refine lv_istore (lv' := [(5, .int 0), (0, .ref o), (1, .int 0), (2, .int x2), (3, .int 3), (4, .int x4)]) hx hb dX9_variable_62 hl (by decide) rfl (fun ls hl => ?_)
          refine lv_iload_n hx hb dX9_variable_64 rfl (lv_at hl 3 rfl) ?_
          refine rdS (As := [.int x2]) S (c_X9_isName_0 l D cI cZ cJ o q x2 ou_x2_0_15) ms_X9_isName kw_7_107 ⟨rfl, rfl⟩ ⟨Nat.le_of_ble_eq_true rfl, Nat.le_of_ble_eq_true rfl⟩ hP hK hl.1 (Nat.le_of_ble_eq_true rfl) ⟨Nat.le_of_ble_eq_true rfl, Nat.le_of_ble_eq_true rfl⟩ dX9_variable_65 ?_
          refine lv_if_eq (tgt := 85) hx hb dX9_variable_68 (by decide) (fun _ => ?_) (fun c => absurd c (by decide))
          refine lv_aload_n hx hb dX9_variable_85 rfl (lv_at hl 1 rfl) ?_
          refine lv_iconst (v := 2) hx hb dX9_variable_86 (by decide) ?_
          refine wrV (As := [.int 2]) (ci := 9) S (c_X9_no_1 l D cI cZ cJ o q H.size) mi_X9_no kw_7_103 rfl rfl ⟨Nat.le_of_ble_eq_true rfl, Nat.le_of_ble_eq_true rfl⟩ hP hD hK hS hA mW_0 rfl rfl hl.1 (Nat.le_of_ble_eq_true rfl) ⟨Nat.le_of_ble_eq_true rfl, Nat.le_of_ble_eq_true rfl⟩ dX9_variable_87 (fun H locs hz hP hD hS => ?_)
          exact wEnd S hr hlocks hP hD hS (Nat.le_of_ble_eq_true rfl) (Nat.le_of_ble_eq_true rfl) dX9_variable_90 rfl
        · have hi_x4 : x4 ≤ 99 := u_ngt d_46
          refine rdS (As := [.int x4, .int (-99), .int 99]) S (c_X9_isIn_8 l D cI cZ cJ o q x4 lo_x4 hi_x4) ms_X9_isIn kw_7_100 ⟨rfl, rfl⟩ ⟨Nat.le_of_ble_eq_true rfl, Nat.le_of_ble_eq_true rfl⟩ hP hK hl.1 (Nat.le_of_ble_eq_true rfl) ⟨Nat.le_of_ble_eq_true rfl, Nat.le_of_ble_eq_true rfl⟩ dX9_variable_46 ?_
          refine lv_goto (tgt := 62) hx hb dX9_variable_49 (by decide) ?_
          refine lv_istore (lv' := [(5, .int 1), (0, .ref o), (1, .int 0), (2, .int x2), (3, .int 3), (4, .int x4)]) hx hb dX9_variable_62 hl (by decide) rfl (fun ls hl => ?_)
          refine lv_iload_n hx hb dX9_variable_64 rfl (lv_at hl 3 rfl) ?_
          refine rdS (As := [.int x2]) S (c_X9_isName_0 l D cI cZ cJ o q x2 ou_x2_0_15) ms_X9_isName kw_7_107 ⟨rfl, rfl⟩ ⟨Nat.le_of_ble_eq_true rfl, Nat.le_of_ble_eq_true rfl⟩ hP hK hl.1 (Nat.le_of_ble_eq_true rfl) ⟨Nat.le_of_ble_eq_true rfl, Nat.le_of_ble_eq_true rfl⟩ dX9_variable_65 ?_
          refine lv_if_eq (tgt := 85) hx hb dX9_variable_68 (by decide) (fun _ => ?_) (fun c => absurd c (by decide))
          refine lv_aload_n hx hb dX9_variable_85 rfl (lv_at hl 1 rfl) ?_
          refine lv_iconst (v := 2) hx hb dX9_variable_86 (by decide) ?_
          refine wrV (As := [.int 2]) (ci := 9) S (c_X9_no_1 l D cI cZ cJ o q H.size) mi_X9_no kw_7_103 rfl rfl ⟨Nat.le_of_ble_eq_true rfl, Nat.le_of_ble_eq_true rfl⟩ hP hD hK hS hA mW_0 rfl rfl hl.1 (Nat.le_of_ble_eq_true rfl) ⟨Nat.le_of_ble_eq_true rfl, Nat.le_of_ble_eq_true rfl⟩ dX9_variable_87 (fun H locs hz hP hD hS => ?_)
          exact wEnd S hr hlocks hP hD hS (Nat.le_of_ble_eq_true rfl) (Nat.le_of_ble_eq_true rfl) dX9_variable_90 rfl
  · have e_x3 : x3 = 1 := c_21
    subst e_x3
    refine lv_iload hx hb dX9_variable_24 (lv_at hl 4 rfl) ?_
    refine lv_iconst (v := 1) hx hb dX9_variable_26 (by decide) ?_
    refine lv_bipush (v := 8) hx hb dX9_variable_27 (by decide) ?_
    by_cases d_29 : x4 < 1
    · have hi_x4 : x4 ≤ 0 := u_lt d_29 (by decide)
      refine rdS (As := [.int x4, .int 1, .int 8]) S (c_X9_isIn_9 l D cI cZ cJ o q x4 hi_x4) ms_X9_isIn kw_7_100 ⟨rfl, rfl⟩ ⟨Nat.le_of_ble_eq_true rfl, Nat.le_of_ble_eq_true rfl⟩ hP hK hl.1 (Nat.le_of_ble_eq_true rfl) ⟨Nat.le_of_ble_eq_true rfl, Nat.le_of_ble_eq_true rfl⟩ dX9_variable_29 ?_
      refine lv_goto (tgt := 62) hx hb dX9_variable_32 (by decide) ?_
      refine lv_istore (lv' := [(5, .int 0), (0, .ref o), (1, .int 0), (2, .int x2), (3, .int 1), (4, .int x4)]) hx hb dX9_variable_62 hl (by decide) rfl (fun ls hl => ?_)
      refine lv_iload_n hx hb dX9_variable_64 rfl (lv_at hl 3 rfl) ?_
      refine rdS (As := [.int x2]) S (c_X9_isName_0 l D cI cZ cJ o q x2 ou_x2_0_15) ms_X9_isName kw_7_107 ⟨rfl, rfl⟩ ⟨Nat.le_of_ble_eq_true rfl, Nat.le_of_ble_eq_true rfl⟩ hP hK hl.1 (Nat.le_of_ble_eq_true rfl) ⟨Nat.le_of_ble_eq_true rfl, Nat.le_of_ble_eq_true rfl⟩ dX9_variable_65 ?_
      refine lv_if_eq (tgt := 85) hx hb dX9_variable_68 (by decide) (fun _ => ?_) (fun c => absurd c (by decide))
      refine lv_aload_n hx hb dX9_variable_85 rfl (lv_at hl 1 rfl) ?_
      refine lv_iconst (v := 2) hx hb dX9_variable_86 (by decide) ?_
      refine wrV (As := [.int 2]) (ci := 9) S (c_X9_no_1 l D cI cZ cJ o q H.size) mi_X9_no kw_7_103 rfl rfl ⟨Nat.le_of_ble_eq_true rfl, Nat.le_of_ble_eq_true rfl⟩ hP hD hK hS hA mW_0 rfl rfl hl.1 (Nat.le_of_ble_eq_true rfl) ⟨Nat.le_of_ble_eq_true rfl, Nat.le_of_ble_eq_true rfl⟩ dX9_variable_87 (fun H locs hz hP hD hS => ?_)
      exact wEnd S hr hlocks hP hD hS (Nat.le_of_ble_eq_true rfl) (Nat.le_of_ble_eq_true rfl) dX9_variable_90 rfl
    · have lo_x4 : 1 ≤ x4 := l_nlt d_29
      by_cases d_29 : 8 < x4
      · have lo_x4 : 9 ≤ x4 := l_gt d_29 (by decide)
        refine rdS (As := [.int x4, .int 1, .int 8]) S (c_X9_isIn_10 l D cI cZ cJ o q x4 lo_x4) ms_X9_isIn kw_7_100 ⟨rfl, rfl⟩ ⟨Nat.le_of_ble_eq_true rfl, Nat.le_of_ble_eq_true rfl⟩ hP hK hl.1 (Nat.le_of_ble_eq_true rfl) ⟨Nat.le_of_ble_eq_true rfl, Nat.le_of_ble_eq_true rfl⟩ dX9_variable_29 ?_
        refine lv_goto (tgt := 62) hx hb dX9_variable_32 (by decide) ?_
        refine lv_istore (lv' := [(5, .int 0), (0, .ref o), (1, .int 0), (2, .int x2), (3, .int 1), (4, .int x4)]) hx hb dX9_variable_62 hl (by decide) rfl (fun ls hl => ?_)
        refine lv_iload_n hx hb dX9_variable_64 rfl (lv_at hl 3 rfl) ?_
        refine rdS (As := [.int x2]) S (c_X9_isName_0 l D cI cZ cJ o q x2 ou_x2_0_15) ms_X9_isName kw_7_107 ⟨rfl, rfl⟩ ⟨Nat.le_of_ble_eq_true rfl, Nat.le_of_ble_eq_true rfl⟩ hP hK hl.1 (Nat.le_of_ble_eq_true rfl) ⟨Nat.le_of_ble_eq_true rfl, Nat.le_of_ble_eq_true rfl⟩ dX9_variable_65 ?_
        refine lv_if_eq (tgt := 85) hx hb dX9_variable_68 (by decide) (fun _ => ?_) (fun c => absurd c (by decide))
        refine lv_aload_n hx hb dX9_variable_85 rfl (lv_at hl 1 rfl) ?_
        refine lv_iconst (v := 2) hx hb dX9_variable_86 (by decide) ?_
        refine wrV (As := [.int 2]) (ci := 9) S (c_X9_no_1 l D cI cZ cJ o q H.size) mi_X9_no kw_7_103 rfl rfl ⟨Nat.le_of_ble_eq_true rfl, Nat.le_of_ble_eq_true rfl⟩ hP hD hK hS hA mW_0 rfl rfl hl.1 (Nat.le_of_ble_eq_true rfl) ⟨Nat.le_of_ble_eq_true rfl, Nat.le_of_ble_eq_true rfl⟩ dX9_variable_87 (fun H locs hz hP hD hS => ?_)
        exact wEnd S hr hlocks hP hD hS (Nat.le_of_ble_eq_true rfl) (Nat.le_of_ble_eq_true rfl) dX9_variable_90 rfl
      · have hi_x4 : x4 ≤ 8 := u_ngt d_29
        refine rdS (As := [.int x4, .int 1, .int 8]) S (c_X9_isIn_11 l D cI cZ cJ o q x4 lo_x4 hi_x4) ms_X9_isIn kw_7_100 ⟨rfl, rfl⟩ ⟨Nat.le_of_ble_eq_true rfl, Nat.le_of_ble_eq_true rfl⟩ hP hK hl.1 (Nat.le_of_ble_eq_true rfl) ⟨Nat.le_of_ble_eq_true rfl, Nat.le_of_ble_eq_true rfl⟩ dX9_variable_29 ?_
        refine lv_goto (tgt := 62) hx hb dX9_variable_32 (by decide) ?_
        refine lv_istore (lv' := [(5, .int 1), (0, .ref o), (1, .int 0), (2, .int x2), (3, .int 1), (4, .int x4)]) hx hb dX9_variable_62 hl (by decide) rfl (fun ls hl => ?_)
        refine lv_iload_n hx hb dX9_variable_64 rfl (lv_at hl 3 rfl) ?_
        refine rdS (As := [.int x2]) S (c_X9_isName_0 l D cI cZ cJ o q x2 ou_x2_0_15) ms_X9_isName kw_7_107 ⟨rfl, rfl⟩ ⟨Nat.le_of_ble_eq_true rfl, Nat.le_of_ble_eq_true rfl⟩ hP hK hl.1 (Nat.le_of_ble_eq_true rfl) ⟨Nat.le_of_ble_eq_true rfl, Nat.le_of_ble_eq_true rfl⟩ dX9_variable_65 ?_
        refine lv_if_eq (tgt := 85) hx hb dX9_variable_68 (by decide) (fun _ => ?_) (fun c => absurd c (by decide))
        refine lv_aload_n hx hb dX9_variable_85 rfl (lv_at hl 1 rfl) ?_
        refine lv_iconst (v := 2) hx hb dX9_variable_86 (by decide) ?_
        refine wrV (As := [.int 2]) (ci := 9) S (c_X9_no_1 l D cI cZ cJ o q H.size) mi_X9_no kw_7_103 rfl rfl ⟨Nat.le_of_ble_eq_true rfl, Nat.le_of_ble_eq_true rfl⟩ hP hD hK hS hA mW_0 rfl rfl hl.1 (Nat.le_of_ble_eq_true rfl) ⟨Nat.le_of_ble_eq_true rfl, Nat.le_of_ble_eq_true rfl⟩ dX9_variable_87 (fun H locs hz hP hD hS => ?_)
        exact wEnd S hr hlocks hP hD hS (Nat.le_of_ble_eq_true rfl) (Nat.le_of_ble_eq_true rfl) dX9_variable_90 rfl

set_option maxHeartbeats 8000000 in
set_option maxRecDepth 100000 in
theorem c_X9_isIn_12 (l : Launch) (D : va_G) (cI cZ cJ : ClassId) (o : Nat) (q : Nat → Nat) (x3 : Int32) (ou_x3_0_3 : ¬ (0 ≤ x3 ∧ x3 ≤ 3)) : Met l yX9_isIn (uW yX9_isIn cX9_isIn 3 (some .boolean)) ({ frames := 0, cells := 0, slots := 0, locals := 0 }) (va_Pc [.int x3, .int 0, .int 3] (pS D (tyL cI cZ cJ) (mW o 0 q cI cZ))) (QcRead (0)) 0 0 (fun _ => False) := by
  refine rdStart (lv := [(0, .int x3), (1, .int 0), (2, .int 3)]) (by decide) (Nat.le_of_ble_eq_true rfl) rfl ?_
  intro p e s m args below meth c ls S hr hlocks hl hP hK
  have hx := S.1
  have hb := S.2.1
  refine lv_iload_n hx hb dX9_isIn_0 rfl (lv_at hl 0 rfl) ?_
  refine lv_iload_n hx hb dX9_isIn_1 rfl (lv_at hl 1 rfl) ?_
  refine lv_icmp_lt (tgt := 14) hx hb dX9_isIn_2 (by decide) (fun c_2 => ?_) (fun c_2 => ?_)
  · have hi_x3 : x3 ≤ (-1) := u_lt c_2 (by decide)
    refine lv_iconst (v := 0) hx hb dX9_isIn_14 (by decide) ?_
    exact rdEndZ S hr hlocks dX9_isIn_15 rfl rfl
  · have lo_x3 : 0 ≤ x3 := l_nlt c_2
    have lo_x3 : 4 ≤ x3 := o_l ou_x3_0_3 (b_ge lo_x3 (by decide)) (by decide)
    refine lv_iload_n hx hb dX9_isIn_5 rfl (lv_at hl 0 rfl) ?_
    refine lv_iload_n hx hb dX9_isIn_6 rfl (lv_at hl 2 rfl) ?_
    refine lv_icmp_gt (tgt := 14) hx hb dX9_isIn_7 (by decide) (fun _ => ?_) (fun c => absurd (b_gt lo_x3 (by decide)) c)
    refine lv_iconst (v := 0) hx hb dX9_isIn_14 (by decide) ?_
    exact rdEndZ S hr hlocks dX9_isIn_15 rfl rfl

set_option maxHeartbeats 8000000 in
set_option maxRecDepth 100000 in
theorem m_variable_k (l : Launch) (D : va_G) (cI cZ cJ : ClassId) (o : Nat) (q : Nat → Nat) (sz : Nat) (x2 : Int32) (x3 : Int32) (x4 : Int32) (lo_x2 : 0 ≤ x2) (hi_x2 : x2 ≤ 15) (ou_x3_0_3 : ¬ (0 ≤ x3 ∧ x3 ≤ 3)) : Met l yX9_variable (uW yX9_variable cX9_variable 6 (some .int)) ({ frames := 2, cells := 0, slots := 0, locals := 43 }) (va_Pc [.ref o, .int 0, .int x2, .int x3, .int x4] (wS D (tyL cI cZ cJ) (mW o 0 q cI cZ) sz)) (wQi (0) D (mW o 2 q cI cZ) (va_A (mW o 0 q cI cZ) sz)) 0 0 (va_A (mW o 0 q cI cZ) sz) := by
  refine wStart (lv := [(0, .ref o), (1, .int 0), (2, .int x2), (3, .int x3), (4, .int x4)]) (Qc := fun A => wQi (0) D (mW o 2 q cI cZ) A) (by decide) (Nat.le_of_ble_eq_true rfl) rfl ?_
  intro p e s m args below meth c ls A H S hr hlocks hnm hl hK hP hD hS hA
  have hx := S.1
  have hb := S.2.1
  refine lv_aload_n hx hb dX9_variable_0 rfl (lv_at hl 0 rfl) ?_
  refine lv_iconst (v := 0) hx hb dX9_variable_1 (by decide) ?_
  refine xp (ci := 9) (v := .int 0) S inX9 tyX9 tyX9_ok nmX9 rfl hK hP hD hS mW_0 0 (by decide) kw_6_147 rfl rfl rfl rfl (Nat.le_of_ble_eq_true rfl) dX9_variable_2 (fun H locs hP hD hS => ?_)
  have hP : va_P D vwCl (mW o 0 q cI cZ) H := hP
  have hD : va_D A (mW o 0 q cI cZ) := hD
  refine lv_aload_n hx hb dX9_variable_5 rfl (lv_at hl 0 rfl) ?_
  refine lv_iload_n hx hb dX9_variable_6 rfl (lv_at hl 1 rfl) ?_
  refine rdV (As := [.int 0]) (ci := 9) S (c_X9_isProcedure_1 l D cI cZ cJ o q) mi_X9_isProcedure kw_7_96 ⟨rfl, rfl⟩ ⟨Nat.le_of_ble_eq_true rfl, Nat.le_of_ble_eq_true rfl⟩ hP hK mW_0 rfl rfl hl.1 (Nat.le_of_ble_eq_true rfl) ⟨Nat.le_of_ble_eq_true rfl, Nat.le_of_ble_eq_true rfl⟩ dX9_variable_7 ?_
  refine lv_if_ne (tgt := 19) hx hb dX9_variable_10 (by decide) (fun _ => ?_) (fun c => absurd c (by decide))
  refine lv_iload_n hx hb dX9_variable_19 rfl (lv_at hl 3 rfl) ?_
  refine lv_iconst (v := 1) hx hb dX9_variable_20 (by decide) ?_
  refine lv_icmp_ne (tgt := 35) hx hb dX9_variable_21 (by decide) (fun _ => ?_) (fun c => absurd c (o_ne ou_x3_0_3 (by decide) (by decide)))
  refine lv_iload_n hx hb dX9_variable_35 rfl (lv_at hl 3 rfl) ?_
  refine lv_iconst (v := 3) hx hb dX9_variable_36 (by decide) ?_
  refine lv_icmp_ne (tgt := 52) hx hb dX9_variable_37 (by decide) (fun _ => ?_) (fun c => absurd c (o_ne ou_x3_0_3 (by decide) (by decide)))
  refine lv_iload hx hb dX9_variable_52 (lv_at hl 4 rfl) ?_
  refine lv_if_ne (tgt := 61) hx hb dX9_variable_54 (by decide) (fun c_54 => ?_) (fun c_54 => ?_)
  · have ne_x4_0 : ¬ x4 = 0 := c_54
    refine lv_iconst (v := 0) hx hb dX9_variable_61 (by decide) ?_
    refine lv_istore (lv' := [(5, .int 0), (0, .ref o), (1, .int 0), (2, .int x2), (3, .int x3), (4, .int x4)]) hx hb dX9_variable_62 hl (by decide) rfl (fun ls hl => ?_)
    refine lv_iload_n hx hb dX9_variable_64 rfl (lv_at hl 3 rfl) ?_
    refine rdS (As := [.int x2]) S (c_X9_isName_1 l D cI cZ cJ o q x2 lo_x2 hi_x2) ms_X9_isName kw_7_107 ⟨rfl, rfl⟩ ⟨Nat.le_of_ble_eq_true rfl, Nat.le_of_ble_eq_true rfl⟩ hP hK hl.1 (Nat.le_of_ble_eq_true rfl) ⟨Nat.le_of_ble_eq_true rfl, Nat.le_of_ble_eq_true rfl⟩ dX9_variable_65 ?_
    refine lv_if_eq (tgt := 85) hx hb dX9_variable_68 (by decide) (fun c => absurd c (by decide)) (fun _ => ?_)
    refine lv_iload_n hx hb dX9_variable_71 rfl (lv_at hl 4 rfl) ?_
    refine lv_iconst (v := 0) hx hb dX9_variable_72 (by decide) ?_
    refine lv_iconst (v := 3) hx hb dX9_variable_73 (by decide) ?_
    refine rdS (As := [.int x3, .int 0, .int 3]) S (c_X9_isIn_12 l D cI cZ cJ o q x3 ou_x3_0_3) ms_X9_isIn kw_7_100 ⟨rfl, rfl⟩ ⟨Nat.le_of_ble_eq_true rfl, Nat.le_of_ble_eq_true rfl⟩ hP hK hl.1 (Nat.le_of_ble_eq_true rfl) ⟨Nat.le_of_ble_eq_true rfl, Nat.le_of_ble_eq_true rfl⟩ dX9_variable_74 ?_
    refine lv_if_eq (tgt := 85) hx hb dX9_variable_77 (by decide) (fun _ => ?_) (fun c => absurd c (by decide))
    refine lv_aload_n hx hb dX9_variable_85 rfl (lv_at hl 1 rfl) ?_
    refine lv_iconst (v := 2) hx hb dX9_variable_86 (by decide) ?_
    refine wrV (As := [.int 2]) (ci := 9) S (c_X9_no_1 l D cI cZ cJ o q H.size) mi_X9_no kw_7_103 rfl rfl ⟨Nat.le_of_ble_eq_true rfl, Nat.le_of_ble_eq_true rfl⟩ hP hD hK hS hA mW_0 rfl rfl hl.1 (Nat.le_of_ble_eq_true rfl) ⟨Nat.le_of_ble_eq_true rfl, Nat.le_of_ble_eq_true rfl⟩ dX9_variable_87 (fun H locs hz hP hD hS => ?_)
    exact wEnd S hr hlocks hP hD hS (Nat.le_of_ble_eq_true rfl) (Nat.le_of_ble_eq_true rfl) dX9_variable_90 rfl
  · have e_x4 : x4 = 0 := c_54
    subst e_x4
    refine lv_iconst (v := 1) hx hb dX9_variable_57 (by decide) ?_
    refine lv_goto (tgt := 62) hx hb dX9_variable_58 (by decide) ?_
    refine lv_istore (lv' := [(5, .int 1), (0, .ref o), (1, .int 0), (2, .int x2), (3, .int x3), (4, .int 0)]) hx hb dX9_variable_62 hl (by decide) rfl (fun ls hl => ?_)
    refine lv_iload_n hx hb dX9_variable_64 rfl (lv_at hl 3 rfl) ?_
    refine rdS (As := [.int x2]) S (c_X9_isName_1 l D cI cZ cJ o q x2 lo_x2 hi_x2) ms_X9_isName kw_7_107 ⟨rfl, rfl⟩ ⟨Nat.le_of_ble_eq_true rfl, Nat.le_of_ble_eq_true rfl⟩ hP hK hl.1 (Nat.le_of_ble_eq_true rfl) ⟨Nat.le_of_ble_eq_true rfl, Nat.le_of_ble_eq_true rfl⟩ dX9_variable_65 ?_
    refine lv_if_eq (tgt := 85) hx hb dX9_variable_68 (by decide) (fun c => absurd c (by decide)) (fun _ => ?_)
    refine lv_iload_n hx hb dX9_variable_71 rfl (lv_at hl 4 rfl) ?_
    refine lv_iconst (v := 0) hx hb dX9_variable_72 (by decide) ?_
    refine lv_iconst (v := 3) hx hb dX9_variable_73 (by decide) ?_
    refine rdS (As := [.int x3, .int 0, .int 3]) S (c_X9_isIn_12 l D cI cZ cJ o q x3 ou_x3_0_3) ms_X9_isIn kw_7_100 ⟨rfl, rfl⟩ ⟨Nat.le_of_ble_eq_true rfl, Nat.le_of_ble_eq_true rfl⟩ hP hK hl.1 (Nat.le_of_ble_eq_true rfl) ⟨Nat.le_of_ble_eq_true rfl, Nat.le_of_ble_eq_true rfl⟩ dX9_variable_74 ?_
    refine lv_if_eq (tgt := 85) hx hb dX9_variable_77 (by decide) (fun _ => ?_) (fun c => absurd c (by decide))
    refine lv_aload_n hx hb dX9_variable_85 rfl (lv_at hl 1 rfl) ?_
    refine lv_iconst (v := 2) hx hb dX9_variable_86 (by decide) ?_
    refine wrV (As := [.int 2]) (ci := 9) S (c_X9_no_1 l D cI cZ cJ o q H.size) mi_X9_no kw_7_103 rfl rfl ⟨Nat.le_of_ble_eq_true rfl, Nat.le_of_ble_eq_true rfl⟩ hP hD hK hS hA mW_0 rfl rfl hl.1 (Nat.le_of_ble_eq_true rfl) ⟨Nat.le_of_ble_eq_true rfl, Nat.le_of_ble_eq_true rfl⟩ dX9_variable_87 (fun H locs hz hP hD hS => ?_)
    exact wEnd S hr hlocks hP hD hS (Nat.le_of_ble_eq_true rfl) (Nat.le_of_ble_eq_true rfl) dX9_variable_90 rfl

set_option maxHeartbeats 8000000 in
set_option maxRecDepth 100000 in
theorem c_X9_isIn_13 (l : Launch) (D : va_G) (cI cZ cJ : ClassId) (o : Nat) (q : Nat → Nat) : Met l yX9_isIn (uW yX9_isIn cX9_isIn 3 (some .boolean)) ({ frames := 0, cells := 0, slots := 0, locals := 0 }) (va_Pc [.int 0, .int 0, .int 3] (pS D (tyL cI cZ cJ) (mW o 0 q cI cZ))) (QcRead (1)) 0 0 (fun _ => False) := by
  refine rdStart (lv := [(0, .int 0), (1, .int 0), (2, .int 3)]) (by decide) (Nat.le_of_ble_eq_true rfl) rfl ?_
  intro p e s m args below meth c ls S hr hlocks hl hP hK
  have hx := S.1
  have hb := S.2.1
  refine lv_iload_n hx hb dX9_isIn_0 rfl (lv_at hl 0 rfl) ?_
  refine lv_iload_n hx hb dX9_isIn_1 rfl (lv_at hl 1 rfl) ?_
  refine lv_icmp_lt (tgt := 14) hx hb dX9_isIn_2 (by decide) (fun c => absurd c (by decide)) (fun _ => ?_)
  refine lv_iload_n hx hb dX9_isIn_5 rfl (lv_at hl 0 rfl) ?_
  refine lv_iload_n hx hb dX9_isIn_6 rfl (lv_at hl 2 rfl) ?_
  refine lv_icmp_gt (tgt := 14) hx hb dX9_isIn_7 (by decide) (fun c => absurd c (by decide)) (fun _ => ?_)
  refine lv_iconst (v := 1) hx hb dX9_isIn_10 (by decide) ?_
  refine lv_goto (tgt := 15) hx hb dX9_isIn_11 (by decide) ?_
  exact rdEndZ S hr hlocks dX9_isIn_15 rfl rfl

set_option maxHeartbeats 8000000 in
set_option maxRecDepth 100000 in
theorem m_variable_s0 (l : Launch) (D : va_G) (cI cZ cJ : ClassId) (o : Nat) (q : Nat → Nat) (sz : Nat) (x2 : Int32) (x4 : Int32) (lo_x2 : 0 ≤ x2) (hi_x2 : x2 ≤ 15) (ne_x4_0 : ¬ x4 = 0) : Met l yX9_variable (uW yX9_variable cX9_variable 6 (some .int)) ({ frames := 2, cells := 0, slots := 0, locals := 43 }) (va_Pc [.ref o, .int 0, .int x2, .int 0, .int x4] (wS D (tyL cI cZ cJ) (mW o 0 q cI cZ) sz)) (wQi (0) D (mW o 2 q cI cZ) (va_A (mW o 0 q cI cZ) sz)) 0 0 (va_A (mW o 0 q cI cZ) sz) := by
  refine wStart (lv := [(0, .ref o), (1, .int 0), (2, .int x2), (3, .int 0), (4, .int x4)]) (Qc := fun A => wQi (0) D (mW o 2 q cI cZ) A) (by decide) (Nat.le_of_ble_eq_true rfl) rfl ?_
  intro p e s m args below meth c ls A H S hr hlocks hnm hl hK hP hD hS hA
  have hx := S.1
  have hb := S.2.1
  refine lv_aload_n hx hb dX9_variable_0 rfl (lv_at hl 0 rfl) ?_
  refine lv_iconst (v := 0) hx hb dX9_variable_1 (by decide) ?_
  refine xp (ci := 9) (v := .int 0) S inX9 tyX9 tyX9_ok nmX9 rfl hK hP hD hS mW_0 0 (by decide) kw_6_147 rfl rfl rfl rfl (Nat.le_of_ble_eq_true rfl) dX9_variable_2 (fun H locs hP hD hS => ?_)
  have hP : va_P D vwCl (mW o 0 q cI cZ) H := hP
  have hD : va_D A (mW o 0 q cI cZ) := hD
  refine lv_aload_n hx hb dX9_variable_5 rfl (lv_at hl 0 rfl) ?_
  refine lv_iload_n hx hb dX9_variable_6 rfl (lv_at hl 1 rfl) ?_
  refine rdV (As := [.int 0]) (ci := 9) S (c_X9_isProcedure_1 l D cI cZ cJ o q) mi_X9_isProcedure kw_7_96 ⟨rfl, rfl⟩ ⟨Nat.le_of_ble_eq_true rfl, Nat.le_of_ble_eq_true rfl⟩ hP hK mW_0 rfl rfl hl.1 (Nat.le_of_ble_eq_true rfl) ⟨Nat.le_of_ble_eq_true rfl, Nat.le_of_ble_eq_true rfl⟩ dX9_variable_7 ?_
  refine lv_if_ne (tgt := 19) hx hb dX9_variable_10 (by decide) (fun _ => ?_) (fun c => absurd c (by decide))
  refine lv_iload_n hx hb dX9_variable_19 rfl (lv_at hl 3 rfl) ?_
  refine lv_iconst (v := 1) hx hb dX9_variable_20 (by decide) ?_
  refine lv_icmp_ne (tgt := 35) hx hb dX9_variable_21 (by decide) (fun _ => ?_) (fun c => absurd c (by decide))
  refine lv_iload_n hx hb dX9_variable_35 rfl (lv_at hl 3 rfl) ?_
  refine lv_iconst (v := 3) hx hb dX9_variable_36 (by decide) ?_
  refine lv_icmp_ne (tgt := 52) hx hb dX9_variable_37 (by decide) (fun _ => ?_) (fun c => absurd c (by decide))
  refine lv_iload hx hb dX9_variable_52 (lv_at hl 4 rfl) ?_
  refine lv_if_ne (tgt := 61) hx hb dX9_variable_54 (by decide) (fun _ => ?_) (fun c => absurd c ne_x4_0)
  refine lv_iconst (v := 0) hx hb dX9_variable_61 (by decide) ?_
  refine lv_istore (lv' := [(5, .int 0), (0, .ref o), (1, .int 0), (2, .int x2), (3, .int 0), (4, .int x4)]) hx hb dX9_variable_62 hl (by decide) rfl (fun ls hl => ?_)
  refine lv_iload_n hx hb dX9_variable_64 rfl (lv_at hl 3 rfl) ?_
  refine rdS (As := [.int x2]) S (c_X9_isName_1 l D cI cZ cJ o q x2 lo_x2 hi_x2) ms_X9_isName kw_7_107 ⟨rfl, rfl⟩ ⟨Nat.le_of_ble_eq_true rfl, Nat.le_of_ble_eq_true rfl⟩ hP hK hl.1 (Nat.le_of_ble_eq_true rfl) ⟨Nat.le_of_ble_eq_true rfl, Nat.le_of_ble_eq_true rfl⟩ dX9_variable_65 ?_
  refine lv_if_eq (tgt := 85) hx hb dX9_variable_68 (by decide) (fun c => absurd c (by decide)) (fun _ => ?_)
  refine lv_iload_n hx hb dX9_variable_71 rfl (lv_at hl 4 rfl) ?_
  refine lv_iconst (v := 0) hx hb dX9_variable_72 (by decide) ?_
  refine lv_iconst (v := 3) hx hb dX9_variable_73 (by decide) ?_
  refine rdS (As := [.int 0, .int 0, .int 3]) S (c_X9_isIn_13 l D cI cZ cJ o q) ms_X9_isIn kw_7_100 ⟨rfl, rfl⟩ ⟨Nat.le_of_ble_eq_true rfl, Nat.le_of_ble_eq_true rfl⟩ hP hK hl.1 (Nat.le_of_ble_eq_true rfl) ⟨Nat.le_of_ble_eq_true rfl, Nat.le_of_ble_eq_true rfl⟩ dX9_variable_74 ?_
  refine lv_if_eq (tgt := 85) hx hb dX9_variable_77 (by decide) (fun c => absurd c (by decide)) (fun _ => ?_)
  refine lv_iload hx hb dX9_variable_80 (lv_at hl 0 rfl) ?_
  refine lv_if_ne (tgt := 91) hx hb dX9_variable_82 (by decide) (fun c => absurd c (by decide)) (fun _ => ?_)
  refine lv_aload_n hx hb dX9_variable_85 rfl (lv_at hl 1 rfl) ?_
  refine lv_iconst (v := 2) hx hb dX9_variable_86 (by decide) ?_
  refine wrV (As := [.int 2]) (ci := 9) S (c_X9_no_1 l D cI cZ cJ o q H.size) mi_X9_no kw_7_103 rfl rfl ⟨Nat.le_of_ble_eq_true rfl, Nat.le_of_ble_eq_true rfl⟩ hP hD hK hS hA mW_0 rfl rfl hl.1 (Nat.le_of_ble_eq_true rfl) ⟨Nat.le_of_ble_eq_true rfl, Nat.le_of_ble_eq_true rfl⟩ dX9_variable_87 (fun H locs hz hP hD hS => ?_)
  exact wEnd S hr hlocks hP hD hS (Nat.le_of_ble_eq_true rfl) (Nat.le_of_ble_eq_true rfl) dX9_variable_90 rfl

set_option maxHeartbeats 8000000 in
set_option maxRecDepth 100000 in
theorem c_X9_addPlace_0 (l : Launch) (D : va_G) (cI cZ cJ : ClassId) (o : Nat) (q : Nat → Nat) (sz : Nat) : Met l yX9_addPlace (uW yX9_addPlace cX9_addPlace 4 (some .int)) ({ frames := 0, cells := 0, slots := 0, locals := 0 }) (va_Pc [.ref o, .int 0, .int 6, .int 0] (wS D (tyL cI cZ cJ) ((mW o 0 q cI cZ).set 4 ((q 3), .inl (cI, 10, .inl (upd (fun _ => 0) (0 : Int32).toNatClampNeg 1)))) sz)) (wQi (0) D (((((mW o 0 q cI cZ).set 4 ((q 3), .inl (cI, 10, .inl (upd (fun _ => 0) (0 : Int32).toNatClampNeg 1)))).set 5 ((q 4), .inl (cI, 10, .inl (upd (fun _ => 0) (0 : Int32).toNatClampNeg 1)))).set 10 ((q 9), .inl (cI, 100, .inl (upd (fun _ => 0) (0 : Int32).toNatClampNeg 6)))).set 11 ((q 10), .inl (cI, 100, .inl (upd (fun _ => 0) (0 : Int32).toNatClampNeg 0)))) (va_A ((mW o 0 q cI cZ).set 4 ((q 3), .inl (cI, 10, .inl (upd (fun _ => 0) (0 : Int32).toNatClampNeg 1)))) sz)) 0 0 (va_A ((mW o 0 q cI cZ).set 4 ((q 3), .inl (cI, 10, .inl (upd (fun _ => 0) (0 : Int32).toNatClampNeg 1)))) sz) := by
  refine wStart (lv := [(0, .ref o), (1, .int 0), (2, .int 6), (3, .int 0)]) (Qc := fun A => wQi (0) D (((((mW o 0 q cI cZ).set 4 ((q 3), .inl (cI, 10, .inl (upd (fun _ => 0) (0 : Int32).toNatClampNeg 1)))).set 5 ((q 4), .inl (cI, 10, .inl (upd (fun _ => 0) (0 : Int32).toNatClampNeg 1)))).set 10 ((q 9), .inl (cI, 100, .inl (upd (fun _ => 0) (0 : Int32).toNatClampNeg 6)))).set 11 ((q 10), .inl (cI, 100, .inl (upd (fun _ => 0) (0 : Int32).toNatClampNeg 0)))) A) (by decide) (Nat.le_of_ble_eq_true rfl) rfl ?_
  intro p e s m args below meth c ls A H S hr hlocks hnm hl hK hP hD hS hA
  have hx := S.1
  have hb := S.2.1
  refine lv_aload_n hx hb dX9_addPlace_0 rfl (lv_at hl 0 rfl) ?_
  refine xg (ci := 9) S inX9 rfl hK hP (q0 := 0) rfl 11 (by decide) mF_11 kw_6_158 rfl dX9_addPlace_1 ?_
  refine lv_iload_n hx hb dX9_addPlace_4 rfl (lv_at hl 1 rfl) ?_
  refine lv_bipush (v := 10) hx hb dX9_addPlace_5 (by decide) ?_
  refine ximul (v := 0) S dX9_addPlace_7 (by decide) ?_
  refine lv_aload_n hx hb dX9_addPlace_8 rfl (lv_at hl 0 rfl) ?_
  refine xg (ci := 9) S inX9 rfl hK hP (q0 := 0) rfl 6 (by decide) mF_6 kw_6_153 rfl dX9_addPlace_9 ?_
  refine lv_iload_n hx hb dX9_addPlace_12 rfl (lv_at hl 1 rfl) ?_
  refine xiald (t0 := 0) (v := 0) S hK hP (q0 := 5) rfl rfl (vin rfl) rfl dX9_addPlace_13 ?_
  refine xiadd (v := 0) S dX9_addPlace_14 (by decide) ?_
  refine lv_iload_n hx hb dX9_addPlace_15 rfl (lv_at hl 2 rfl) ?_
  refine xiast (t0 := 0) S hK hP hD hS (q0 := 10) rfl rfl (vin rfl) dX9_addPlace_16 (fun H locs hP hD hS => ?_)
  have hP : va_P D vwCl (((mW o 0 q cI cZ).set 4 ((q 3), .inl (cI, 10, .inl (upd (fun _ => 0) (0 : Int32).toNatClampNeg 1)))).set 10 ((q 9), .inl (cI, 100, .inl (upd (fun _ => 0) (0 : Int32).toNatClampNeg 6)))) H := hP
  have hD : va_D A (((mW o 0 q cI cZ).set 4 ((q 3), .inl (cI, 10, .inl (upd (fun _ => 0) (0 : Int32).toNatClampNeg 1)))).set 10 ((q 9), .inl (cI, 100, .inl (upd (fun _ => 0) (0 : Int32).toNatClampNeg 6)))) := hD
  refine lv_aload_n hx hb dX9_addPlace_17 rfl (lv_at hl 0 rfl) ?_
  refine xg (ci := 9) S inX9 rfl hK hP (q0 := 0) rfl 12 (by decide) mF_12 kw_6_159 rfl dX9_addPlace_18 ?_
  refine lv_iload_n hx hb dX9_addPlace_21 rfl (lv_at hl 1 rfl) ?_
  refine lv_bipush (v := 10) hx hb dX9_addPlace_22 (by decide) ?_
  refine ximul (v := 0) S dX9_addPlace_24 (by decide) ?_
  refine lv_aload_n hx hb dX9_addPlace_25 rfl (lv_at hl 0 rfl) ?_
  refine xg (ci := 9) S inX9 rfl hK hP (q0 := 0) rfl 6 (by decide) mF_6 kw_6_153 rfl dX9_addPlace_26 ?_
  refine lv_iload_n hx hb dX9_addPlace_29 rfl (lv_at hl 1 rfl) ?_
  refine xiald (t0 := 0) (v := 0) S hK hP (q0 := 5) rfl rfl (vin rfl) rfl dX9_addPlace_30 ?_
  refine xiadd (v := 0) S dX9_addPlace_31 (by decide) ?_
  refine lv_iload_n hx hb dX9_addPlace_32 rfl (lv_at hl 3 rfl) ?_
  refine xiast (t0 := 0) S hK hP hD hS (q0 := 11) rfl rfl (vin rfl) dX9_addPlace_33 (fun H locs hP hD hS => ?_)
  have hP : va_P D vwCl ((((mW o 0 q cI cZ).set 4 ((q 3), .inl (cI, 10, .inl (upd (fun _ => 0) (0 : Int32).toNatClampNeg 1)))).set 10 ((q 9), .inl (cI, 100, .inl (upd (fun _ => 0) (0 : Int32).toNatClampNeg 6)))).set 11 ((q 10), .inl (cI, 100, .inl (upd (fun _ => 0) (0 : Int32).toNatClampNeg 0)))) H := hP
  have hD : va_D A ((((mW o 0 q cI cZ).set 4 ((q 3), .inl (cI, 10, .inl (upd (fun _ => 0) (0 : Int32).toNatClampNeg 1)))).set 10 ((q 9), .inl (cI, 100, .inl (upd (fun _ => 0) (0 : Int32).toNatClampNeg 6)))).set 11 ((q 10), .inl (cI, 100, .inl (upd (fun _ => 0) (0 : Int32).toNatClampNeg 0)))) := hD
  refine lv_aload_n hx hb dX9_addPlace_34 rfl (lv_at hl 0 rfl) ?_
  refine xg (ci := 9) S inX9 rfl hK hP (q0 := 0) rfl 6 (by decide) mF_6 kw_6_153 rfl dX9_addPlace_35 ?_
  refine lv_iload_n hx hb dX9_addPlace_38 rfl (lv_at hl 1 rfl) ?_
  refine lv_dup2_11 hx hb dX9_addPlace_39 rfl rfl ?_
  refine xiald (t0 := 0) (v := 0) S hK hP (q0 := 5) rfl rfl (vin rfl) rfl dX9_addPlace_40 ?_
  refine lv_dup_x2 hx hb dX9_addPlace_41 rfl rfl rfl ?_
  refine lv_iconst (v := 1) hx hb dX9_addPlace_42 (by decide) ?_
  refine xiadd (v := 1) S dX9_addPlace_43 (by decide) ?_
  refine xiast (t0 := 0) S hK hP hD hS (q0 := 5) rfl rfl (vin rfl) dX9_addPlace_44 (fun H locs hP hD hS => ?_)
  have hP : va_P D vwCl (((((mW o 0 q cI cZ).set 4 ((q 3), .inl (cI, 10, .inl (upd (fun _ => 0) (0 : Int32).toNatClampNeg 1)))).set 5 ((q 4), .inl (cI, 10, .inl (upd (fun _ => 0) (0 : Int32).toNatClampNeg 1)))).set 10 ((q 9), .inl (cI, 100, .inl (upd (fun _ => 0) (0 : Int32).toNatClampNeg 6)))).set 11 ((q 10), .inl (cI, 100, .inl (upd (fun _ => 0) (0 : Int32).toNatClampNeg 0)))) H := hP
  have hD : va_D A (((((mW o 0 q cI cZ).set 4 ((q 3), .inl (cI, 10, .inl (upd (fun _ => 0) (0 : Int32).toNatClampNeg 1)))).set 5 ((q 4), .inl (cI, 10, .inl (upd (fun _ => 0) (0 : Int32).toNatClampNeg 1)))).set 10 ((q 9), .inl (cI, 100, .inl (upd (fun _ => 0) (0 : Int32).toNatClampNeg 6)))).set 11 ((q 10), .inl (cI, 100, .inl (upd (fun _ => 0) (0 : Int32).toNatClampNeg 0)))) := hD
  exact wEnd S hr hlocks hP hD hS (Nat.le_of_ble_eq_true rfl) (Nat.le_of_ble_eq_true rfl) dX9_addPlace_45 rfl

set_option maxHeartbeats 8000000 in
set_option maxRecDepth 100000 in
theorem c_X9_declare_1 (l : Launch) (D : va_G) (cI cZ cJ : ClassId) (o : Nat) (q : Nat → Nat) (sz : Nat) (x2 : Int32) (lo_x2 : 0 ≤ x2) (hi_x2 : x2 ≤ 15) : Met l yX9_declare (uW yX9_declare cX9_declare 6 (some .int)) ({ frames := 0, cells := 0, slots := 0, locals := 0 }) (va_Pc [.ref o, .int 0, .int x2, .int 6, .int 0, .int 0] (wS D (tyL cI cZ cJ) (((((mW o 0 q cI cZ).set 4 ((q 3), .inl (cI, 10, .inl (upd (fun _ => 0) (0 : Int32).toNatClampNeg 1)))).set 5 ((q 4), .inl (cI, 10, .inl (upd (fun _ => 0) (0 : Int32).toNatClampNeg 1)))).set 10 ((q 9), .inl (cI, 100, .inl (upd (fun _ => 0) (0 : Int32).toNatClampNeg 6)))).set 11 ((q 10), .inl (cI, 100, .inl (upd (fun _ => 0) (0 : Int32).toNatClampNeg 0)))) sz)) (wQi (0) D ((((((((mW o 0 q cI cZ).set 4 ((q 3), .inl (cI, 10, .inl (upd (fun _ => 0) (0 : Int32).toNatClampNeg 1)))).set 5 ((q 4), .inl (cI, 10, .inl (upd (fun _ => 0) (0 : Int32).toNatClampNeg 1)))).set 7 ((q 6), .inl (cI, 160, .inl (upd (fun _ => -1) (x2 : Int32).toNatClampNeg 6)))).set 8 ((q 7), .inl (cI, 160, .inl (upd (fun _ => 0) (x2 : Int32).toNatClampNeg 0)))).set 9 ((q 8), .inl (cI, 160, .inl (upd (fun _ => 0) (x2 : Int32).toNatClampNeg 0)))).set 10 ((q 9), .inl (cI, 100, .inl (upd (fun _ => 0) (0 : Int32).toNatClampNeg 6)))).set 11 ((q 10), .inl (cI, 100, .inl (upd (fun _ => 0) (0 : Int32).toNatClampNeg 0)))) (va_A (((((mW o 0 q cI cZ).set 4 ((q 3), .inl (cI, 10, .inl (upd (fun _ => 0) (0 : Int32).toNatClampNeg 1)))).set 5 ((q 4), .inl (cI, 10, .inl (upd (fun _ => 0) (0 : Int32).toNatClampNeg 1)))).set 10 ((q 9), .inl (cI, 100, .inl (upd (fun _ => 0) (0 : Int32).toNatClampNeg 6)))).set 11 ((q 10), .inl (cI, 100, .inl (upd (fun _ => 0) (0 : Int32).toNatClampNeg 0)))) sz)) 0 0 (va_A (((((mW o 0 q cI cZ).set 4 ((q 3), .inl (cI, 10, .inl (upd (fun _ => 0) (0 : Int32).toNatClampNeg 1)))).set 5 ((q 4), .inl (cI, 10, .inl (upd (fun _ => 0) (0 : Int32).toNatClampNeg 1)))).set 10 ((q 9), .inl (cI, 100, .inl (upd (fun _ => 0) (0 : Int32).toNatClampNeg 6)))).set 11 ((q 10), .inl (cI, 100, .inl (upd (fun _ => 0) (0 : Int32).toNatClampNeg 0)))) sz) := by
  refine wStart (lv := [(0, .ref o), (1, .int 0), (2, .int x2), (3, .int 6), (4, .int 0), (5, .int 0)]) (Qc := fun A => wQi (0) D ((((((((mW o 0 q cI cZ).set 4 ((q 3), .inl (cI, 10, .inl (upd (fun _ => 0) (0 : Int32).toNatClampNeg 1)))).set 5 ((q 4), .inl (cI, 10, .inl (upd (fun _ => 0) (0 : Int32).toNatClampNeg 1)))).set 7 ((q 6), .inl (cI, 160, .inl (upd (fun _ => -1) (x2 : Int32).toNatClampNeg 6)))).set 8 ((q 7), .inl (cI, 160, .inl (upd (fun _ => 0) (x2 : Int32).toNatClampNeg 0)))).set 9 ((q 8), .inl (cI, 160, .inl (upd (fun _ => 0) (x2 : Int32).toNatClampNeg 0)))).set 10 ((q 9), .inl (cI, 100, .inl (upd (fun _ => 0) (0 : Int32).toNatClampNeg 6)))).set 11 ((q 10), .inl (cI, 100, .inl (upd (fun _ => 0) (0 : Int32).toNatClampNeg 0)))) A) (by decide) (Nat.le_of_ble_eq_true rfl) rfl ?_
  intro p e s m args below meth c ls A H S hr hlocks hnm hl hK hP hD hS hA
  have hx := S.1
  have hb := S.2.1
  refine lv_aload_n hx hb dX9_declare_0 rfl (lv_at hl 0 rfl) ?_
  refine xg (ci := 9) S inX9 rfl hK hP (q0 := 0) rfl 8 (by decide) mF_8 kw_6_155 rfl dX9_declare_1 ?_
  refine lv_iload_n hx hb dX9_declare_4 rfl (lv_at hl 1 rfl) ?_
  refine lv_bipush (v := 16) hx hb dX9_declare_5 (by decide) ?_
  refine ximul (v := 0) S dX9_declare_7 (by decide) ?_
  refine lv_iload_n hx hb dX9_declare_8 rfl (lv_at hl 2 rfl) ?_
  refine xiadd (v := x2) S dX9_declare_9 (Int32.zero_add _) ?_
  refine lv_iload_n hx hb dX9_declare_10 rfl (lv_at hl 3 rfl) ?_
  refine xiast (t0 := 0) S hK hP hD hS (q0 := 7) rfl rfl (b_in lo_x2 hi_x2 (by decide) (by decide)) dX9_declare_11 (fun H locs hP hD hS => ?_)
  have hP : va_P D vwCl ((((((mW o 0 q cI cZ).set 4 ((q 3), .inl (cI, 10, .inl (upd (fun _ => 0) (0 : Int32).toNatClampNeg 1)))).set 5 ((q 4), .inl (cI, 10, .inl (upd (fun _ => 0) (0 : Int32).toNatClampNeg 1)))).set 7 ((q 6), .inl (cI, 160, .inl (upd (fun _ => -1) (x2 : Int32).toNatClampNeg 6)))).set 10 ((q 9), .inl (cI, 100, .inl (upd (fun _ => 0) (0 : Int32).toNatClampNeg 6)))).set 11 ((q 10), .inl (cI, 100, .inl (upd (fun _ => 0) (0 : Int32).toNatClampNeg 0)))) H := hP
  have hD : va_D A ((((((mW o 0 q cI cZ).set 4 ((q 3), .inl (cI, 10, .inl (upd (fun _ => 0) (0 : Int32).toNatClampNeg 1)))).set 5 ((q 4), .inl (cI, 10, .inl (upd (fun _ => 0) (0 : Int32).toNatClampNeg 1)))).set 7 ((q 6), .inl (cI, 160, .inl (upd (fun _ => -1) (x2 : Int32).toNatClampNeg 6)))).set 10 ((q 9), .inl (cI, 100, .inl (upd (fun _ => 0) (0 : Int32).toNatClampNeg 6)))).set 11 ((q 10), .inl (cI, 100, .inl (upd (fun _ => 0) (0 : Int32).toNatClampNeg 0)))) := hD
  refine lv_aload_n hx hb dX9_declare_12 rfl (lv_at hl 0 rfl) ?_
  refine xg (ci := 9) S inX9 rfl hK hP (q0 := 0) rfl 9 (by decide) mF_9 kw_6_156 rfl dX9_declare_13 ?_
  refine lv_iload_n hx hb dX9_declare_16 rfl (lv_at hl 1 rfl) ?_
  refine lv_bipush (v := 16) hx hb dX9_declare_17 (by decide) ?_
  refine ximul (v := 0) S dX9_declare_19 (by decide) ?_
  refine lv_iload_n hx hb dX9_declare_20 rfl (lv_at hl 2 rfl) ?_
  refine xiadd (v := x2) S dX9_declare_21 (Int32.zero_add _) ?_
  refine lv_iload hx hb dX9_declare_22 (lv_at hl 4 rfl) ?_
  refine xiast (t0 := 0) S hK hP hD hS (q0 := 8) rfl rfl (b_in lo_x2 hi_x2 (by decide) (by decide)) dX9_declare_24 (fun H locs hP hD hS => ?_)
  have hP : va_P D vwCl (((((((mW o 0 q cI cZ).set 4 ((q 3), .inl (cI, 10, .inl (upd (fun _ => 0) (0 : Int32).toNatClampNeg 1)))).set 5 ((q 4), .inl (cI, 10, .inl (upd (fun _ => 0) (0 : Int32).toNatClampNeg 1)))).set 7 ((q 6), .inl (cI, 160, .inl (upd (fun _ => -1) (x2 : Int32).toNatClampNeg 6)))).set 8 ((q 7), .inl (cI, 160, .inl (upd (fun _ => 0) (x2 : Int32).toNatClampNeg 0)))).set 10 ((q 9), .inl (cI, 100, .inl (upd (fun _ => 0) (0 : Int32).toNatClampNeg 6)))).set 11 ((q 10), .inl (cI, 100, .inl (upd (fun _ => 0) (0 : Int32).toNatClampNeg 0)))) H := hP
  have hD : va_D A (((((((mW o 0 q cI cZ).set 4 ((q 3), .inl (cI, 10, .inl (upd (fun _ => 0) (0 : Int32).toNatClampNeg 1)))).set 5 ((q 4), .inl (cI, 10, .inl (upd (fun _ => 0) (0 : Int32).toNatClampNeg 1)))).set 7 ((q 6), .inl (cI, 160, .inl (upd (fun _ => -1) (x2 : Int32).toNatClampNeg 6)))).set 8 ((q 7), .inl (cI, 160, .inl (upd (fun _ => 0) (x2 : Int32).toNatClampNeg 0)))).set 10 ((q 9), .inl (cI, 100, .inl (upd (fun _ => 0) (0 : Int32).toNatClampNeg 6)))).set 11 ((q 10), .inl (cI, 100, .inl (upd (fun _ => 0) (0 : Int32).toNatClampNeg 0)))) := hD
  refine lv_aload_n hx hb dX9_declare_25 rfl (lv_at hl 0 rfl) ?_
  refine xg (ci := 9) S inX9 rfl hK hP (q0 := 0) rfl 10 (by decide) mF_10 kw_6_157 rfl dX9_declare_26 ?_
  refine lv_iload_n hx hb dX9_declare_29 rfl (lv_at hl 1 rfl) ?_
  refine lv_bipush (v := 16) hx hb dX9_declare_30 (by decide) ?_
  refine ximul (v := 0) S dX9_declare_32 (by decide) ?_
  refine lv_iload_n hx hb dX9_declare_33 rfl (lv_at hl 2 rfl) ?_
  refine xiadd (v := x2) S dX9_declare_34 (Int32.zero_add _) ?_
  refine lv_iload hx hb dX9_declare_35 (lv_at hl 5 rfl) ?_
  refine xiast (t0 := 0) S hK hP hD hS (q0 := 9) rfl rfl (b_in lo_x2 hi_x2 (by decide) (by decide)) dX9_declare_37 (fun H locs hP hD hS => ?_)
  have hP : va_P D vwCl ((((((((mW o 0 q cI cZ).set 4 ((q 3), .inl (cI, 10, .inl (upd (fun _ => 0) (0 : Int32).toNatClampNeg 1)))).set 5 ((q 4), .inl (cI, 10, .inl (upd (fun _ => 0) (0 : Int32).toNatClampNeg 1)))).set 7 ((q 6), .inl (cI, 160, .inl (upd (fun _ => -1) (x2 : Int32).toNatClampNeg 6)))).set 8 ((q 7), .inl (cI, 160, .inl (upd (fun _ => 0) (x2 : Int32).toNatClampNeg 0)))).set 9 ((q 8), .inl (cI, 160, .inl (upd (fun _ => 0) (x2 : Int32).toNatClampNeg 0)))).set 10 ((q 9), .inl (cI, 100, .inl (upd (fun _ => 0) (0 : Int32).toNatClampNeg 6)))).set 11 ((q 10), .inl (cI, 100, .inl (upd (fun _ => 0) (0 : Int32).toNatClampNeg 0)))) H := hP
  have hD : va_D A ((((((((mW o 0 q cI cZ).set 4 ((q 3), .inl (cI, 10, .inl (upd (fun _ => 0) (0 : Int32).toNatClampNeg 1)))).set 5 ((q 4), .inl (cI, 10, .inl (upd (fun _ => 0) (0 : Int32).toNatClampNeg 1)))).set 7 ((q 6), .inl (cI, 160, .inl (upd (fun _ => -1) (x2 : Int32).toNatClampNeg 6)))).set 8 ((q 7), .inl (cI, 160, .inl (upd (fun _ => 0) (x2 : Int32).toNatClampNeg 0)))).set 9 ((q 8), .inl (cI, 160, .inl (upd (fun _ => 0) (x2 : Int32).toNatClampNeg 0)))).set 10 ((q 9), .inl (cI, 100, .inl (upd (fun _ => 0) (0 : Int32).toNatClampNeg 6)))).set 11 ((q 10), .inl (cI, 100, .inl (upd (fun _ => 0) (0 : Int32).toNatClampNeg 0)))) := hD
  refine lv_iload hx hb dX9_declare_38 (lv_at hl 4 rfl) ?_
  exact wEnd S hr hlocks hP hD hS (Nat.le_of_ble_eq_true rfl) (Nat.le_of_ble_eq_true rfl) dX9_declare_40 rfl

set_option maxHeartbeats 8000000 in
set_option maxRecDepth 100000 in
theorem m_variable_ok0 (l : Launch) (D : va_G) (cI cZ cJ : ClassId) (o : Nat) (q : Nat → Nat) (sz : Nat) (x2 : Int32) (lo_x2 : 0 ≤ x2) (hi_x2 : x2 ≤ 15) : Met l yX9_variable (uW yX9_variable cX9_variable 6 (some .int)) ({ frames := 2, cells := 0, slots := 0, locals := 43 }) (va_Pc [.ref o, .int 0, .int x2, .int 0, .int 0] (wS D (tyL cI cZ cJ) (mW o 0 q cI cZ) sz)) (wQi (0) D ((((((((mW o 0 q cI cZ).set 4 ((q 3), .inl (cI, 10, .inl (upd (fun _ => 0) (0 : Int32).toNatClampNeg 1)))).set 5 ((q 4), .inl (cI, 10, .inl (upd (fun _ => 0) (0 : Int32).toNatClampNeg 1)))).set 7 ((q 6), .inl (cI, 160, .inl (upd (fun _ => -1) (x2 : Int32).toNatClampNeg 6)))).set 8 ((q 7), .inl (cI, 160, .inl (upd (fun _ => 0) (x2 : Int32).toNatClampNeg 0)))).set 9 ((q 8), .inl (cI, 160, .inl (upd (fun _ => 0) (x2 : Int32).toNatClampNeg 0)))).set 10 ((q 9), .inl (cI, 100, .inl (upd (fun _ => 0) (0 : Int32).toNatClampNeg 6)))).set 11 ((q 10), .inl (cI, 100, .inl (upd (fun _ => 0) (0 : Int32).toNatClampNeg 0)))) (va_A (mW o 0 q cI cZ) sz)) 0 0 (va_A (mW o 0 q cI cZ) sz) := by
  refine wStart (lv := [(0, .ref o), (1, .int 0), (2, .int x2), (3, .int 0), (4, .int 0)]) (Qc := fun A => wQi (0) D ((((((((mW o 0 q cI cZ).set 4 ((q 3), .inl (cI, 10, .inl (upd (fun _ => 0) (0 : Int32).toNatClampNeg 1)))).set 5 ((q 4), .inl (cI, 10, .inl (upd (fun _ => 0) (0 : Int32).toNatClampNeg 1)))).set 7 ((q 6), .inl (cI, 160, .inl (upd (fun _ => -1) (x2 : Int32).toNatClampNeg 6)))).set 8 ((q 7), .inl (cI, 160, .inl (upd (fun _ => 0) (x2 : Int32).toNatClampNeg 0)))).set 9 ((q 8), .inl (cI, 160, .inl (upd (fun _ => 0) (x2 : Int32).toNatClampNeg 0)))).set 10 ((q 9), .inl (cI, 100, .inl (upd (fun _ => 0) (0 : Int32).toNatClampNeg 6)))).set 11 ((q 10), .inl (cI, 100, .inl (upd (fun _ => 0) (0 : Int32).toNatClampNeg 0)))) A) (by decide) (Nat.le_of_ble_eq_true rfl) rfl ?_
  intro p e s m args below meth c ls A H S hr hlocks hnm hl hK hP hD hS hA
  have hx := S.1
  have hb := S.2.1
  refine lv_aload_n hx hb dX9_variable_0 rfl (lv_at hl 0 rfl) ?_
  refine lv_iconst (v := 0) hx hb dX9_variable_1 (by decide) ?_
  refine xp (ci := 9) (v := .int 0) S inX9 tyX9 tyX9_ok nmX9 rfl hK hP hD hS mW_0 0 (by decide) kw_6_147 rfl rfl rfl rfl (Nat.le_of_ble_eq_true rfl) dX9_variable_2 (fun H locs hP hD hS => ?_)
  have hP : va_P D vwCl (mW o 0 q cI cZ) H := hP
  have hD : va_D A (mW o 0 q cI cZ) := hD
  refine lv_aload_n hx hb dX9_variable_5 rfl (lv_at hl 0 rfl) ?_
  refine lv_iload_n hx hb dX9_variable_6 rfl (lv_at hl 1 rfl) ?_
  refine rdV (As := [.int 0]) (ci := 9) S (c_X9_isProcedure_1 l D cI cZ cJ o q) mi_X9_isProcedure kw_7_96 ⟨rfl, rfl⟩ ⟨Nat.le_of_ble_eq_true rfl, Nat.le_of_ble_eq_true rfl⟩ hP hK mW_0 rfl rfl hl.1 (Nat.le_of_ble_eq_true rfl) ⟨Nat.le_of_ble_eq_true rfl, Nat.le_of_ble_eq_true rfl⟩ dX9_variable_7 ?_
  refine lv_if_ne (tgt := 19) hx hb dX9_variable_10 (by decide) (fun _ => ?_) (fun c => absurd c (by decide))
  refine lv_iload_n hx hb dX9_variable_19 rfl (lv_at hl 3 rfl) ?_
  refine lv_iconst (v := 1) hx hb dX9_variable_20 (by decide) ?_
  refine lv_icmp_ne (tgt := 35) hx hb dX9_variable_21 (by decide) (fun _ => ?_) (fun c => absurd c (by decide))
  refine lv_iload_n hx hb dX9_variable_35 rfl (lv_at hl 3 rfl) ?_
  refine lv_iconst (v := 3) hx hb dX9_variable_36 (by decide) ?_
  refine lv_icmp_ne (tgt := 52) hx hb dX9_variable_37 (by decide) (fun _ => ?_) (fun c => absurd c (by decide))
  refine lv_iload hx hb dX9_variable_52 (lv_at hl 4 rfl) ?_
  refine lv_if_ne (tgt := 61) hx hb dX9_variable_54 (by decide) (fun c => absurd c (by decide)) (fun _ => ?_)
  refine lv_iconst (v := 1) hx hb dX9_variable_57 (by decide) ?_
  refine lv_goto (tgt := 62) hx hb dX9_variable_58 (by decide) ?_
  refine lv_istore (lv' := [(5, .int 1), (0, .ref o), (1, .int 0), (2, .int x2), (3, .int 0), (4, .int 0)]) hx hb dX9_variable_62 hl (by decide) rfl (fun ls hl => ?_)
  refine lv_iload_n hx hb dX9_variable_64 rfl (lv_at hl 3 rfl) ?_
  refine rdS (As := [.int x2]) S (c_X9_isName_1 l D cI cZ cJ o q x2 lo_x2 hi_x2) ms_X9_isName kw_7_107 ⟨rfl, rfl⟩ ⟨Nat.le_of_ble_eq_true rfl, Nat.le_of_ble_eq_true rfl⟩ hP hK hl.1 (Nat.le_of_ble_eq_true rfl) ⟨Nat.le_of_ble_eq_true rfl, Nat.le_of_ble_eq_true rfl⟩ dX9_variable_65 ?_
  refine lv_if_eq (tgt := 85) hx hb dX9_variable_68 (by decide) (fun c => absurd c (by decide)) (fun _ => ?_)
  refine lv_iload_n hx hb dX9_variable_71 rfl (lv_at hl 4 rfl) ?_
  refine lv_iconst (v := 0) hx hb dX9_variable_72 (by decide) ?_
  refine lv_iconst (v := 3) hx hb dX9_variable_73 (by decide) ?_
  refine rdS (As := [.int 0, .int 0, .int 3]) S (c_X9_isIn_13 l D cI cZ cJ o q) ms_X9_isIn kw_7_100 ⟨rfl, rfl⟩ ⟨Nat.le_of_ble_eq_true rfl, Nat.le_of_ble_eq_true rfl⟩ hP hK hl.1 (Nat.le_of_ble_eq_true rfl) ⟨Nat.le_of_ble_eq_true rfl, Nat.le_of_ble_eq_true rfl⟩ dX9_variable_74 ?_
  refine lv_if_eq (tgt := 85) hx hb dX9_variable_77 (by decide) (fun c => absurd c (by decide)) (fun _ => ?_)
  refine lv_iload hx hb dX9_variable_80 (lv_at hl 0 rfl) ?_
  refine lv_if_ne (tgt := 91) hx hb dX9_variable_82 (by decide) (fun _ => ?_) (fun c => absurd c (by decide))
  refine lv_aload_n hx hb dX9_variable_91 rfl (lv_at hl 1 rfl) ?_
  refine xg (ci := 9) S inX9 rfl hK hP mW_0 5 (by decide) mF_5 kw_6_152 rfl dX9_variable_92 ?_
  refine lv_iload_n hx hb dX9_variable_95 rfl (lv_at hl 2 rfl) ?_
  refine xiald (t0 := 0) (v := 0) S hK hP mW_4 rfl (vin rfl) rfl dX9_variable_96 ?_
  refine lv_bipush (v := 6) hx hb dX9_variable_97 (by decide) ?_
  refine lv_icmp_eq (tgt := 117) hx hb dX9_variable_99 (by decide) (fun c => absurd c (by decide)) (fun _ => ?_)
  refine lv_aload_n hx hb dX9_variable_102 rfl (lv_at hl 1 rfl) ?_
  refine xg (ci := 9) S inX9 rfl hK hP mW_0 8 (by decide) mF_8 kw_6_155 rfl dX9_variable_103 ?_
  refine lv_iload_n hx hb dX9_variable_106 rfl (lv_at hl 2 rfl) ?_
  refine lv_bipush (v := 16) hx hb dX9_variable_107 (by decide) ?_
  refine ximul (v := 0) S dX9_variable_109 (by decide) ?_
  refine lv_iload_n hx hb dX9_variable_110 rfl (lv_at hl 3 rfl) ?_
  refine xiadd (v := x2) S dX9_variable_111 (Int32.zero_add _) ?_
  refine xiald (t0 := 0) (v := (-1)) S hK hP mW_7 rfl (b_in lo_x2 hi_x2 (by decide) (by decide)) rfl dX9_variable_112 ?_
  refine lv_iconst (v := (-1)) hx hb dX9_variable_113 (by decide) ?_
  refine lv_icmp_eq (tgt := 123) hx hb dX9_variable_114 (by decide) (fun _ => ?_) (fun c => absurd c (by decide))
  refine lv_aload_n hx hb dX9_variable_123 rfl (lv_at hl 1 rfl) ?_
  refine xg (ci := 9) S inX9 rfl hK hP mW_0 5 (by decide) mF_5 kw_6_152 rfl dX9_variable_124 ?_
  refine lv_iload_n hx hb dX9_variable_127 rfl (lv_at hl 2 rfl) ?_
  refine lv_dup2_11 hx hb dX9_variable_128 rfl rfl ?_
  refine xiald (t0 := 0) (v := 0) S hK hP mW_4 rfl (vin rfl) rfl dX9_variable_129 ?_
  refine lv_iconst (v := 1) hx hb dX9_variable_130 (by decide) ?_
  refine xiadd (v := 1) S dX9_variable_131 (by decide) ?_
  refine xiast (t0 := 0) S hK hP hD hS mW_4 rfl (vin rfl) dX9_variable_132 (fun H locs hP hD hS => ?_)
  have hP : va_P D vwCl ((mW o 0 q cI cZ).set 4 ((q 3), .inl (cI, 10, .inl (upd (fun _ => 0) (0 : Int32).toNatClampNeg 1)))) H := hP
  have hD : va_D A ((mW o 0 q cI cZ).set 4 ((q 3), .inl (cI, 10, .inl (upd (fun _ => 0) (0 : Int32).toNatClampNeg 1)))) := hD
  refine lv_aload_n hx hb dX9_variable_133 rfl (lv_at hl 1 rfl) ?_
  refine lv_iload_n hx hb dX9_variable_134 rfl (lv_at hl 2 rfl) ?_
  refine lv_iload_n hx hb dX9_variable_135 rfl (lv_at hl 3 rfl) ?_
  refine lv_bipush (v := 6) hx hb dX9_variable_136 (by decide) ?_
  refine lv_iload_n hx hb dX9_variable_138 rfl (lv_at hl 4 rfl) ?_
  refine xiadd (v := 6) S dX9_variable_139 (by decide) ?_
  refine lv_iload_n hx hb dX9_variable_140 rfl (lv_at hl 4 rfl) ?_
  refine lv_iconst (v := 3) hx hb dX9_variable_141 (by decide) ?_
  refine lv_icmp_ne (tgt := 149) hx hb dX9_variable_142 (by decide) (fun _ => ?_) (fun c => absurd c (by decide))
  refine lv_aload_n hx hb dX9_variable_149 rfl (lv_at hl 1 rfl) ?_
  refine lv_iload_n hx hb dX9_variable_150 rfl (lv_at hl 2 rfl) ?_
  refine lv_bipush (v := 6) hx hb dX9_variable_151 (by decide) ?_
  refine lv_iload_n hx hb dX9_variable_153 rfl (lv_at hl 4 rfl) ?_
  refine xiadd (v := 6) S dX9_variable_154 (by decide) ?_
  refine lv_iload hx hb dX9_variable_155 (lv_at hl 5 rfl) ?_
  refine wrV (As := [.int 0, .int 6, .int 0]) (ci := 9) S (c_X9_addPlace_0 l D cI cZ cJ o q H.size) mi_X9_addPlace kw_7_118 rfl rfl ⟨Nat.le_of_ble_eq_true rfl, Nat.le_of_ble_eq_true rfl⟩ hP hD hK hS hA (k := 0) rfl rfl rfl hl.1 (Nat.le_of_ble_eq_true rfl) ⟨Nat.le_of_ble_eq_true rfl, Nat.le_of_ble_eq_true rfl⟩ dX9_variable_157 (fun H locs hz hP hD hS => ?_)
  refine lv_iload hx hb dX9_variable_160 (lv_at hl 5 rfl) ?_
  refine wrV (As := [.int 0, .int x2, .int 6, .int 0, .int 0]) (ci := 9) S (c_X9_declare_1 l D cI cZ cJ o q H.size x2 lo_x2 hi_x2) mi_X9_declare kw_7_110 rfl rfl ⟨Nat.le_of_ble_eq_true rfl, Nat.le_of_ble_eq_true rfl⟩ hP hD hK hS hA (k := 0) rfl rfl rfl hl.1 (Nat.le_of_ble_eq_true rfl) ⟨Nat.le_of_ble_eq_true rfl, Nat.le_of_ble_eq_true rfl⟩ dX9_variable_162 (fun H locs hz hP hD hS => ?_)
  exact wEnd S hr hlocks hP hD hS (Nat.le_of_ble_eq_true rfl) (Nat.le_of_ble_eq_true rfl) dX9_variable_165 rfl

set_option maxHeartbeats 8000000 in
set_option maxRecDepth 100000 in
theorem c_X9_isIn_14 (l : Launch) (D : va_G) (cI cZ cJ : ClassId) (o : Nat) (q : Nat → Nat) : Met l yX9_isIn (uW yX9_isIn cX9_isIn 3 (some .boolean)) ({ frames := 0, cells := 0, slots := 0, locals := 0 }) (va_Pc [.int 2, .int 0, .int 3] (pS D (tyL cI cZ cJ) (mW o 0 q cI cZ))) (QcRead (1)) 0 0 (fun _ => False) := by
  refine rdStart (lv := [(0, .int 2), (1, .int 0), (2, .int 3)]) (by decide) (Nat.le_of_ble_eq_true rfl) rfl ?_
  intro p e s m args below meth c ls S hr hlocks hl hP hK
  have hx := S.1
  have hb := S.2.1
  refine lv_iload_n hx hb dX9_isIn_0 rfl (lv_at hl 0 rfl) ?_
  refine lv_iload_n hx hb dX9_isIn_1 rfl (lv_at hl 1 rfl) ?_
  refine lv_icmp_lt (tgt := 14) hx hb dX9_isIn_2 (by decide) (fun c => absurd c (by decide)) (fun _ => ?_)
  refine lv_iload_n hx hb dX9_isIn_5 rfl (lv_at hl 0 rfl) ?_
  refine lv_iload_n hx hb dX9_isIn_6 rfl (lv_at hl 2 rfl) ?_
  refine lv_icmp_gt (tgt := 14) hx hb dX9_isIn_7 (by decide) (fun c => absurd c (by decide)) (fun _ => ?_)
  refine lv_iconst (v := 1) hx hb dX9_isIn_10 (by decide) ?_
  refine lv_goto (tgt := 15) hx hb dX9_isIn_11 (by decide) ?_
  exact rdEndZ S hr hlocks dX9_isIn_15 rfl rfl

set_option maxHeartbeats 8000000 in
set_option maxRecDepth 100000 in
theorem m_variable_s2 (l : Launch) (D : va_G) (cI cZ cJ : ClassId) (o : Nat) (q : Nat → Nat) (sz : Nat) (x2 : Int32) (x4 : Int32) (lo_x2 : 0 ≤ x2) (hi_x2 : x2 ≤ 15) (ne_x4_0 : ¬ x4 = 0) : Met l yX9_variable (uW yX9_variable cX9_variable 6 (some .int)) ({ frames := 2, cells := 0, slots := 0, locals := 43 }) (va_Pc [.ref o, .int 0, .int x2, .int 2, .int x4] (wS D (tyL cI cZ cJ) (mW o 0 q cI cZ) sz)) (wQi (0) D (mW o 2 q cI cZ) (va_A (mW o 0 q cI cZ) sz)) 0 0 (va_A (mW o 0 q cI cZ) sz) := by
  refine wStart (lv := [(0, .ref o), (1, .int 0), (2, .int x2), (3, .int 2), (4, .int x4)]) (Qc := fun A => wQi (0) D (mW o 2 q cI cZ) A) (by decide) (Nat.le_of_ble_eq_true rfl) rfl ?_
  intro p e s m args below meth c ls A H S hr hlocks hnm hl hK hP hD hS hA
  have hx := S.1
  have hb := S.2.1
  refine lv_aload_n hx hb dX9_variable_0 rfl (lv_at hl 0 rfl) ?_
  refine lv_iconst (v := 0) hx hb dX9_variable_1 (by decide) ?_
  refine xp (ci := 9) (v := .int 0) S inX9 tyX9 tyX9_ok nmX9 rfl hK hP hD hS mW_0 0 (by decide) kw_6_147 rfl rfl rfl rfl (Nat.le_of_ble_eq_true rfl) dX9_variable_2 (fun H locs hP hD hS => ?_)
  have hP : va_P D vwCl (mW o 0 q cI cZ) H := hP
  have hD : va_D A (mW o 0 q cI cZ) := hD
  refine lv_aload_n hx hb dX9_variable_5 rfl (lv_at hl 0 rfl) ?_
  refine lv_iload_n hx hb dX9_variable_6 rfl (lv_at hl 1 rfl) ?_
  refine rdV (As := [.int 0]) (ci := 9) S (c_X9_isProcedure_1 l D cI cZ cJ o q) mi_X9_isProcedure kw_7_96 ⟨rfl, rfl⟩ ⟨Nat.le_of_ble_eq_true rfl, Nat.le_of_ble_eq_true rfl⟩ hP hK mW_0 rfl rfl hl.1 (Nat.le_of_ble_eq_true rfl) ⟨Nat.le_of_ble_eq_true rfl, Nat.le_of_ble_eq_true rfl⟩ dX9_variable_7 ?_
  refine lv_if_ne (tgt := 19) hx hb dX9_variable_10 (by decide) (fun _ => ?_) (fun c => absurd c (by decide))
  refine lv_iload_n hx hb dX9_variable_19 rfl (lv_at hl 3 rfl) ?_
  refine lv_iconst (v := 1) hx hb dX9_variable_20 (by decide) ?_
  refine lv_icmp_ne (tgt := 35) hx hb dX9_variable_21 (by decide) (fun _ => ?_) (fun c => absurd c (by decide))
  refine lv_iload_n hx hb dX9_variable_35 rfl (lv_at hl 3 rfl) ?_
  refine lv_iconst (v := 3) hx hb dX9_variable_36 (by decide) ?_
  refine lv_icmp_ne (tgt := 52) hx hb dX9_variable_37 (by decide) (fun _ => ?_) (fun c => absurd c (by decide))
  refine lv_iload hx hb dX9_variable_52 (lv_at hl 4 rfl) ?_
  refine lv_if_ne (tgt := 61) hx hb dX9_variable_54 (by decide) (fun _ => ?_) (fun c => absurd c ne_x4_0)
  refine lv_iconst (v := 0) hx hb dX9_variable_61 (by decide) ?_
  refine lv_istore (lv' := [(5, .int 0), (0, .ref o), (1, .int 0), (2, .int x2), (3, .int 2), (4, .int x4)]) hx hb dX9_variable_62 hl (by decide) rfl (fun ls hl => ?_)
  refine lv_iload_n hx hb dX9_variable_64 rfl (lv_at hl 3 rfl) ?_
  refine rdS (As := [.int x2]) S (c_X9_isName_1 l D cI cZ cJ o q x2 lo_x2 hi_x2) ms_X9_isName kw_7_107 ⟨rfl, rfl⟩ ⟨Nat.le_of_ble_eq_true rfl, Nat.le_of_ble_eq_true rfl⟩ hP hK hl.1 (Nat.le_of_ble_eq_true rfl) ⟨Nat.le_of_ble_eq_true rfl, Nat.le_of_ble_eq_true rfl⟩ dX9_variable_65 ?_
  refine lv_if_eq (tgt := 85) hx hb dX9_variable_68 (by decide) (fun c => absurd c (by decide)) (fun _ => ?_)
  refine lv_iload_n hx hb dX9_variable_71 rfl (lv_at hl 4 rfl) ?_
  refine lv_iconst (v := 0) hx hb dX9_variable_72 (by decide) ?_
  refine lv_iconst (v := 3) hx hb dX9_variable_73 (by decide) ?_
  refine rdS (As := [.int 2, .int 0, .int 3]) S (c_X9_isIn_14 l D cI cZ cJ o q) ms_X9_isIn kw_7_100 ⟨rfl, rfl⟩ ⟨Nat.le_of_ble_eq_true rfl, Nat.le_of_ble_eq_true rfl⟩ hP hK hl.1 (Nat.le_of_ble_eq_true rfl) ⟨Nat.le_of_ble_eq_true rfl, Nat.le_of_ble_eq_true rfl⟩ dX9_variable_74 ?_
  refine lv_if_eq (tgt := 85) hx hb dX9_variable_77 (by decide) (fun c => absurd c (by decide)) (fun _ => ?_)
  refine lv_iload hx hb dX9_variable_80 (lv_at hl 0 rfl) ?_
  refine lv_if_ne (tgt := 91) hx hb dX9_variable_82 (by decide) (fun c => absurd c (by decide)) (fun _ => ?_)
  refine lv_aload_n hx hb dX9_variable_85 rfl (lv_at hl 1 rfl) ?_
  refine lv_iconst (v := 2) hx hb dX9_variable_86 (by decide) ?_
  refine wrV (As := [.int 2]) (ci := 9) S (c_X9_no_1 l D cI cZ cJ o q H.size) mi_X9_no kw_7_103 rfl rfl ⟨Nat.le_of_ble_eq_true rfl, Nat.le_of_ble_eq_true rfl⟩ hP hD hK hS hA mW_0 rfl rfl hl.1 (Nat.le_of_ble_eq_true rfl) ⟨Nat.le_of_ble_eq_true rfl, Nat.le_of_ble_eq_true rfl⟩ dX9_variable_87 (fun H locs hz hP hD hS => ?_)
  exact wEnd S hr hlocks hP hD hS (Nat.le_of_ble_eq_true rfl) (Nat.le_of_ble_eq_true rfl) dX9_variable_90 rfl

set_option maxHeartbeats 8000000 in
set_option maxRecDepth 100000 in
theorem c_X9_addPlace_1 (l : Launch) (D : va_G) (cI cZ cJ : ClassId) (o : Nat) (q : Nat → Nat) (sz : Nat) : Met l yX9_addPlace (uW yX9_addPlace cX9_addPlace 4 (some .int)) ({ frames := 0, cells := 0, slots := 0, locals := 0 }) (va_Pc [.ref o, .int 0, .int 8, .int 0] (wS D (tyL cI cZ cJ) ((mW o 0 q cI cZ).set 4 ((q 3), .inl (cI, 10, .inl (upd (fun _ => 0) (0 : Int32).toNatClampNeg 1)))) sz)) (wQi (0) D (((((mW o 0 q cI cZ).set 4 ((q 3), .inl (cI, 10, .inl (upd (fun _ => 0) (0 : Int32).toNatClampNeg 1)))).set 5 ((q 4), .inl (cI, 10, .inl (upd (fun _ => 0) (0 : Int32).toNatClampNeg 1)))).set 10 ((q 9), .inl (cI, 100, .inl (upd (fun _ => 0) (0 : Int32).toNatClampNeg 8)))).set 11 ((q 10), .inl (cI, 100, .inl (upd (fun _ => 0) (0 : Int32).toNatClampNeg 0)))) (va_A ((mW o 0 q cI cZ).set 4 ((q 3), .inl (cI, 10, .inl (upd (fun _ => 0) (0 : Int32).toNatClampNeg 1)))) sz)) 0 0 (va_A ((mW o 0 q cI cZ).set 4 ((q 3), .inl (cI, 10, .inl (upd (fun _ => 0) (0 : Int32).toNatClampNeg 1)))) sz) := by
  refine wStart (lv := [(0, .ref o), (1, .int 0), (2, .int 8), (3, .int 0)]) (Qc := fun A => wQi (0) D (((((mW o 0 q cI cZ).set 4 ((q 3), .inl (cI, 10, .inl (upd (fun _ => 0) (0 : Int32).toNatClampNeg 1)))).set 5 ((q 4), .inl (cI, 10, .inl (upd (fun _ => 0) (0 : Int32).toNatClampNeg 1)))).set 10 ((q 9), .inl (cI, 100, .inl (upd (fun _ => 0) (0 : Int32).toNatClampNeg 8)))).set 11 ((q 10), .inl (cI, 100, .inl (upd (fun _ => 0) (0 : Int32).toNatClampNeg 0)))) A) (by decide) (Nat.le_of_ble_eq_true rfl) rfl ?_
  intro p e s m args below meth c ls A H S hr hlocks hnm hl hK hP hD hS hA
  have hx := S.1
  have hb := S.2.1
  refine lv_aload_n hx hb dX9_addPlace_0 rfl (lv_at hl 0 rfl) ?_
  refine xg (ci := 9) S inX9 rfl hK hP (q0 := 0) rfl 11 (by decide) mF_11 kw_6_158 rfl dX9_addPlace_1 ?_
  refine lv_iload_n hx hb dX9_addPlace_4 rfl (lv_at hl 1 rfl) ?_
  refine lv_bipush (v := 10) hx hb dX9_addPlace_5 (by decide) ?_
  refine ximul (v := 0) S dX9_addPlace_7 (by decide) ?_
  refine lv_aload_n hx hb dX9_addPlace_8 rfl (lv_at hl 0 rfl) ?_
  refine xg (ci := 9) S inX9 rfl hK hP (q0 := 0) rfl 6 (by decide) mF_6 kw_6_153 rfl dX9_addPlace_9 ?_
  refine lv_iload_n hx hb dX9_addPlace_12 rfl (lv_at hl 1 rfl) ?_
  refine xiald (t0 := 0) (v := 0) S hK hP (q0 := 5) rfl rfl (vin rfl) rfl dX9_addPlace_13 ?_
  refine xiadd (v := 0) S dX9_addPlace_14 (by decide) ?_
  refine lv_iload_n hx hb dX9_addPlace_15 rfl (lv_at hl 2 rfl) ?_
  refine xiast (t0 := 0) S hK hP hD hS (q0 := 10) rfl rfl (vin rfl) dX9_addPlace_16 (fun H locs hP hD hS => ?_)
  have hP : va_P D vwCl (((mW o 0 q cI cZ).set 4 ((q 3), .inl (cI, 10, .inl (upd (fun _ => 0) (0 : Int32).toNatClampNeg 1)))).set 10 ((q 9), .inl (cI, 100, .inl (upd (fun _ => 0) (0 : Int32).toNatClampNeg 8)))) H := hP
  have hD : va_D A (((mW o 0 q cI cZ).set 4 ((q 3), .inl (cI, 10, .inl (upd (fun _ => 0) (0 : Int32).toNatClampNeg 1)))).set 10 ((q 9), .inl (cI, 100, .inl (upd (fun _ => 0) (0 : Int32).toNatClampNeg 8)))) := hD
  refine lv_aload_n hx hb dX9_addPlace_17 rfl (lv_at hl 0 rfl) ?_
  refine xg (ci := 9) S inX9 rfl hK hP (q0 := 0) rfl 12 (by decide) mF_12 kw_6_159 rfl dX9_addPlace_18 ?_
  refine lv_iload_n hx hb dX9_addPlace_21 rfl (lv_at hl 1 rfl) ?_
  refine lv_bipush (v := 10) hx hb dX9_addPlace_22 (by decide) ?_
  refine ximul (v := 0) S dX9_addPlace_24 (by decide) ?_
  refine lv_aload_n hx hb dX9_addPlace_25 rfl (lv_at hl 0 rfl) ?_
  refine xg (ci := 9) S inX9 rfl hK hP (q0 := 0) rfl 6 (by decide) mF_6 kw_6_153 rfl dX9_addPlace_26 ?_
  refine lv_iload_n hx hb dX9_addPlace_29 rfl (lv_at hl 1 rfl) ?_
  refine xiald (t0 := 0) (v := 0) S hK hP (q0 := 5) rfl rfl (vin rfl) rfl dX9_addPlace_30 ?_
  refine xiadd (v := 0) S dX9_addPlace_31 (by decide) ?_
  refine lv_iload_n hx hb dX9_addPlace_32 rfl (lv_at hl 3 rfl) ?_
  refine xiast (t0 := 0) S hK hP hD hS (q0 := 11) rfl rfl (vin rfl) dX9_addPlace_33 (fun H locs hP hD hS => ?_)
  have hP : va_P D vwCl ((((mW o 0 q cI cZ).set 4 ((q 3), .inl (cI, 10, .inl (upd (fun _ => 0) (0 : Int32).toNatClampNeg 1)))).set 10 ((q 9), .inl (cI, 100, .inl (upd (fun _ => 0) (0 : Int32).toNatClampNeg 8)))).set 11 ((q 10), .inl (cI, 100, .inl (upd (fun _ => 0) (0 : Int32).toNatClampNeg 0)))) H := hP
  have hD : va_D A ((((mW o 0 q cI cZ).set 4 ((q 3), .inl (cI, 10, .inl (upd (fun _ => 0) (0 : Int32).toNatClampNeg 1)))).set 10 ((q 9), .inl (cI, 100, .inl (upd (fun _ => 0) (0 : Int32).toNatClampNeg 8)))).set 11 ((q 10), .inl (cI, 100, .inl (upd (fun _ => 0) (0 : Int32).toNatClampNeg 0)))) := hD
  refine lv_aload_n hx hb dX9_addPlace_34 rfl (lv_at hl 0 rfl) ?_
  refine xg (ci := 9) S inX9 rfl hK hP (q0 := 0) rfl 6 (by decide) mF_6 kw_6_153 rfl dX9_addPlace_35 ?_
  refine lv_iload_n hx hb dX9_addPlace_38 rfl (lv_at hl 1 rfl) ?_
  refine lv_dup2_11 hx hb dX9_addPlace_39 rfl rfl ?_
  refine xiald (t0 := 0) (v := 0) S hK hP (q0 := 5) rfl rfl (vin rfl) rfl dX9_addPlace_40 ?_
  refine lv_dup_x2 hx hb dX9_addPlace_41 rfl rfl rfl ?_
  refine lv_iconst (v := 1) hx hb dX9_addPlace_42 (by decide) ?_
  refine xiadd (v := 1) S dX9_addPlace_43 (by decide) ?_
  refine xiast (t0 := 0) S hK hP hD hS (q0 := 5) rfl rfl (vin rfl) dX9_addPlace_44 (fun H locs hP hD hS => ?_)
  have hP : va_P D vwCl (((((mW o 0 q cI cZ).set 4 ((q 3), .inl (cI, 10, .inl (upd (fun _ => 0) (0 : Int32).toNatClampNeg 1)))).set 5 ((q 4), .inl (cI, 10, .inl (upd (fun _ => 0) (0 : Int32).toNatClampNeg 1)))).set 10 ((q 9), .inl (cI, 100, .inl (upd (fun _ => 0) (0 : Int32).toNatClampNeg 8)))).set 11 ((q 10), .inl (cI, 100, .inl (upd (fun _ => 0) (0 : Int32).toNatClampNeg 0)))) H := hP
  have hD : va_D A (((((mW o 0 q cI cZ).set 4 ((q 3), .inl (cI, 10, .inl (upd (fun _ => 0) (0 : Int32).toNatClampNeg 1)))).set 5 ((q 4), .inl (cI, 10, .inl (upd (fun _ => 0) (0 : Int32).toNatClampNeg 1)))).set 10 ((q 9), .inl (cI, 100, .inl (upd (fun _ => 0) (0 : Int32).toNatClampNeg 8)))).set 11 ((q 10), .inl (cI, 100, .inl (upd (fun _ => 0) (0 : Int32).toNatClampNeg 0)))) := hD
  exact wEnd S hr hlocks hP hD hS (Nat.le_of_ble_eq_true rfl) (Nat.le_of_ble_eq_true rfl) dX9_addPlace_45 rfl

set_option maxHeartbeats 8000000 in
set_option maxRecDepth 100000 in
theorem c_X9_declare_2 (l : Launch) (D : va_G) (cI cZ cJ : ClassId) (o : Nat) (q : Nat → Nat) (sz : Nat) (x2 : Int32) (lo_x2 : 0 ≤ x2) (hi_x2 : x2 ≤ 15) : Met l yX9_declare (uW yX9_declare cX9_declare 6 (some .int)) ({ frames := 0, cells := 0, slots := 0, locals := 0 }) (va_Pc [.ref o, .int 0, .int x2, .int 8, .int 0, .int 0] (wS D (tyL cI cZ cJ) (((((mW o 0 q cI cZ).set 4 ((q 3), .inl (cI, 10, .inl (upd (fun _ => 0) (0 : Int32).toNatClampNeg 1)))).set 5 ((q 4), .inl (cI, 10, .inl (upd (fun _ => 0) (0 : Int32).toNatClampNeg 1)))).set 10 ((q 9), .inl (cI, 100, .inl (upd (fun _ => 0) (0 : Int32).toNatClampNeg 8)))).set 11 ((q 10), .inl (cI, 100, .inl (upd (fun _ => 0) (0 : Int32).toNatClampNeg 0)))) sz)) (wQi (0) D ((((((((mW o 0 q cI cZ).set 4 ((q 3), .inl (cI, 10, .inl (upd (fun _ => 0) (0 : Int32).toNatClampNeg 1)))).set 5 ((q 4), .inl (cI, 10, .inl (upd (fun _ => 0) (0 : Int32).toNatClampNeg 1)))).set 7 ((q 6), .inl (cI, 160, .inl (upd (fun _ => -1) (x2 : Int32).toNatClampNeg 8)))).set 8 ((q 7), .inl (cI, 160, .inl (upd (fun _ => 0) (x2 : Int32).toNatClampNeg 0)))).set 9 ((q 8), .inl (cI, 160, .inl (upd (fun _ => 0) (x2 : Int32).toNatClampNeg 0)))).set 10 ((q 9), .inl (cI, 100, .inl (upd (fun _ => 0) (0 : Int32).toNatClampNeg 8)))).set 11 ((q 10), .inl (cI, 100, .inl (upd (fun _ => 0) (0 : Int32).toNatClampNeg 0)))) (va_A (((((mW o 0 q cI cZ).set 4 ((q 3), .inl (cI, 10, .inl (upd (fun _ => 0) (0 : Int32).toNatClampNeg 1)))).set 5 ((q 4), .inl (cI, 10, .inl (upd (fun _ => 0) (0 : Int32).toNatClampNeg 1)))).set 10 ((q 9), .inl (cI, 100, .inl (upd (fun _ => 0) (0 : Int32).toNatClampNeg 8)))).set 11 ((q 10), .inl (cI, 100, .inl (upd (fun _ => 0) (0 : Int32).toNatClampNeg 0)))) sz)) 0 0 (va_A (((((mW o 0 q cI cZ).set 4 ((q 3), .inl (cI, 10, .inl (upd (fun _ => 0) (0 : Int32).toNatClampNeg 1)))).set 5 ((q 4), .inl (cI, 10, .inl (upd (fun _ => 0) (0 : Int32).toNatClampNeg 1)))).set 10 ((q 9), .inl (cI, 100, .inl (upd (fun _ => 0) (0 : Int32).toNatClampNeg 8)))).set 11 ((q 10), .inl (cI, 100, .inl (upd (fun _ => 0) (0 : Int32).toNatClampNeg 0)))) sz) := by
  refine wStart (lv := [(0, .ref o), (1, .int 0), (2, .int x2), (3, .int 8), (4, .int 0), (5, .int 0)]) (Qc := fun A => wQi (0) D ((((((((mW o 0 q cI cZ).set 4 ((q 3), .inl (cI, 10, .inl (upd (fun _ => 0) (0 : Int32).toNatClampNeg 1)))).set 5 ((q 4), .inl (cI, 10, .inl (upd (fun _ => 0) (0 : Int32).toNatClampNeg 1)))).set 7 ((q 6), .inl (cI, 160, .inl (upd (fun _ => -1) (x2 : Int32).toNatClampNeg 8)))).set 8 ((q 7), .inl (cI, 160, .inl (upd (fun _ => 0) (x2 : Int32).toNatClampNeg 0)))).set 9 ((q 8), .inl (cI, 160, .inl (upd (fun _ => 0) (x2 : Int32).toNatClampNeg 0)))).set 10 ((q 9), .inl (cI, 100, .inl (upd (fun _ => 0) (0 : Int32).toNatClampNeg 8)))).set 11 ((q 10), .inl (cI, 100, .inl (upd (fun _ => 0) (0 : Int32).toNatClampNeg 0)))) A) (by decide) (Nat.le_of_ble_eq_true rfl) rfl ?_
  intro p e s m args below meth c ls A H S hr hlocks hnm hl hK hP hD hS hA
  have hx := S.1
  have hb := S.2.1
  refine lv_aload_n hx hb dX9_declare_0 rfl (lv_at hl 0 rfl) ?_
  refine xg (ci := 9) S inX9 rfl hK hP (q0 := 0) rfl 8 (by decide) mF_8 kw_6_155 rfl dX9_declare_1 ?_
  refine lv_iload_n hx hb dX9_declare_4 rfl (lv_at hl 1 rfl) ?_
  refine lv_bipush (v := 16) hx hb dX9_declare_5 (by decide) ?_
  refine ximul (v := 0) S dX9_declare_7 (by decide) ?_
  refine lv_iload_n hx hb dX9_declare_8 rfl (lv_at hl 2 rfl) ?_
  refine xiadd (v := x2) S dX9_declare_9 (Int32.zero_add _) ?_
  refine lv_iload_n hx hb dX9_declare_10 rfl (lv_at hl 3 rfl) ?_
  refine xiast (t0 := 0) S hK hP hD hS (q0 := 7) rfl rfl (b_in lo_x2 hi_x2 (by decide) (by decide)) dX9_declare_11 (fun H locs hP hD hS => ?_)
  have hP : va_P D vwCl ((((((mW o 0 q cI cZ).set 4 ((q 3), .inl (cI, 10, .inl (upd (fun _ => 0) (0 : Int32).toNatClampNeg 1)))).set 5 ((q 4), .inl (cI, 10, .inl (upd (fun _ => 0) (0 : Int32).toNatClampNeg 1)))).set 7 ((q 6), .inl (cI, 160, .inl (upd (fun _ => -1) (x2 : Int32).toNatClampNeg 8)))).set 10 ((q 9), .inl (cI, 100, .inl (upd (fun _ => 0) (0 : Int32).toNatClampNeg 8)))).set 11 ((q 10), .inl (cI, 100, .inl (upd (fun _ => 0) (0 : Int32).toNatClampNeg 0)))) H := hP
  have hD : va_D A ((((((mW o 0 q cI cZ).set 4 ((q 3), .inl (cI, 10, .inl (upd (fun _ => 0) (0 : Int32).toNatClampNeg 1)))).set 5 ((q 4), .inl (cI, 10, .inl (upd (fun _ => 0) (0 : Int32).toNatClampNeg 1)))).set 7 ((q 6), .inl (cI, 160, .inl (upd (fun _ => -1) (x2 : Int32).toNatClampNeg 8)))).set 10 ((q 9), .inl (cI, 100, .inl (upd (fun _ => 0) (0 : Int32).toNatClampNeg 8)))).set 11 ((q 10), .inl (cI, 100, .inl (upd (fun _ => 0) (0 : Int32).toNatClampNeg 0)))) := hD
  refine lv_aload_n hx hb dX9_declare_12 rfl (lv_at hl 0 rfl) ?_
  refine xg (ci := 9) S inX9 rfl hK hP (q0 := 0) rfl 9 (by decide) mF_9 kw_6_156 rfl dX9_declare_13 ?_
  refine lv_iload_n hx hb dX9_declare_16 rfl (lv_at hl 1 rfl) ?_
  refine lv_bipush (v := 16) hx hb dX9_declare_17 (by decide) ?_
  refine ximul (v := 0) S dX9_declare_19 (by decide) ?_
  refine lv_iload_n hx hb dX9_declare_20 rfl (lv_at hl 2 rfl) ?_
  refine xiadd (v := x2) S dX9_declare_21 (Int32.zero_add _) ?_
  refine lv_iload hx hb dX9_declare_22 (lv_at hl 4 rfl) ?_
  refine xiast (t0 := 0) S hK hP hD hS (q0 := 8) rfl rfl (b_in lo_x2 hi_x2 (by decide) (by decide)) dX9_declare_24 (fun H locs hP hD hS => ?_)
  have hP : va_P D vwCl (((((((mW o 0 q cI cZ).set 4 ((q 3), .inl (cI, 10, .inl (upd (fun _ => 0) (0 : Int32).toNatClampNeg 1)))).set 5 ((q 4), .inl (cI, 10, .inl (upd (fun _ => 0) (0 : Int32).toNatClampNeg 1)))).set 7 ((q 6), .inl (cI, 160, .inl (upd (fun _ => -1) (x2 : Int32).toNatClampNeg 8)))).set 8 ((q 7), .inl (cI, 160, .inl (upd (fun _ => 0) (x2 : Int32).toNatClampNeg 0)))).set 10 ((q 9), .inl (cI, 100, .inl (upd (fun _ => 0) (0 : Int32).toNatClampNeg 8)))).set 11 ((q 10), .inl (cI, 100, .inl (upd (fun _ => 0) (0 : Int32).toNatClampNeg 0)))) H := hP
  have hD : va_D A (((((((mW o 0 q cI cZ).set 4 ((q 3), .inl (cI, 10, .inl (upd (fun _ => 0) (0 : Int32).toNatClampNeg 1)))).set 5 ((q 4), .inl (cI, 10, .inl (upd (fun _ => 0) (0 : Int32).toNatClampNeg 1)))).set 7 ((q 6), .inl (cI, 160, .inl (upd (fun _ => -1) (x2 : Int32).toNatClampNeg 8)))).set 8 ((q 7), .inl (cI, 160, .inl (upd (fun _ => 0) (x2 : Int32).toNatClampNeg 0)))).set 10 ((q 9), .inl (cI, 100, .inl (upd (fun _ => 0) (0 : Int32).toNatClampNeg 8)))).set 11 ((q 10), .inl (cI, 100, .inl (upd (fun _ => 0) (0 : Int32).toNatClampNeg 0)))) := hD
  refine lv_aload_n hx hb dX9_declare_25 rfl (lv_at hl 0 rfl) ?_
  refine xg (ci := 9) S inX9 rfl hK hP (q0 := 0) rfl 10 (by decide) mF_10 kw_6_157 rfl dX9_declare_26 ?_
  refine lv_iload_n hx hb dX9_declare_29 rfl (lv_at hl 1 rfl) ?_
  refine lv_bipush (v := 16) hx hb dX9_declare_30 (by decide) ?_
  refine ximul (v := 0) S dX9_declare_32 (by decide) ?_
  refine lv_iload_n hx hb dX9_declare_33 rfl (lv_at hl 2 rfl) ?_
  refine xiadd (v := x2) S dX9_declare_34 (Int32.zero_add _) ?_
  refine lv_iload hx hb dX9_declare_35 (lv_at hl 5 rfl) ?_
  refine xiast (t0 := 0) S hK hP hD hS (q0 := 9) rfl rfl (b_in lo_x2 hi_x2 (by decide) (by decide)) dX9_declare_37 (fun H locs hP hD hS => ?_)
  have hP : va_P D vwCl ((((((((mW o 0 q cI cZ).set 4 ((q 3), .inl (cI, 10, .inl (upd (fun _ => 0) (0 : Int32).toNatClampNeg 1)))).set 5 ((q 4), .inl (cI, 10, .inl (upd (fun _ => 0) (0 : Int32).toNatClampNeg 1)))).set 7 ((q 6), .inl (cI, 160, .inl (upd (fun _ => -1) (x2 : Int32).toNatClampNeg 8)))).set 8 ((q 7), .inl (cI, 160, .inl (upd (fun _ => 0) (x2 : Int32).toNatClampNeg 0)))).set 9 ((q 8), .inl (cI, 160, .inl (upd (fun _ => 0) (x2 : Int32).toNatClampNeg 0)))).set 10 ((q 9), .inl (cI, 100, .inl (upd (fun _ => 0) (0 : Int32).toNatClampNeg 8)))).set 11 ((q 10), .inl (cI, 100, .inl (upd (fun _ => 0) (0 : Int32).toNatClampNeg 0)))) H := hP
  have hD : va_D A ((((((((mW o 0 q cI cZ).set 4 ((q 3), .inl (cI, 10, .inl (upd (fun _ => 0) (0 : Int32).toNatClampNeg 1)))).set 5 ((q 4), .inl (cI, 10, .inl (upd (fun _ => 0) (0 : Int32).toNatClampNeg 1)))).set 7 ((q 6), .inl (cI, 160, .inl (upd (fun _ => -1) (x2 : Int32).toNatClampNeg 8)))).set 8 ((q 7), .inl (cI, 160, .inl (upd (fun _ => 0) (x2 : Int32).toNatClampNeg 0)))).set 9 ((q 8), .inl (cI, 160, .inl (upd (fun _ => 0) (x2 : Int32).toNatClampNeg 0)))).set 10 ((q 9), .inl (cI, 100, .inl (upd (fun _ => 0) (0 : Int32).toNatClampNeg 8)))).set 11 ((q 10), .inl (cI, 100, .inl (upd (fun _ => 0) (0 : Int32).toNatClampNeg 0)))) := hD
  refine lv_iload hx hb dX9_declare_38 (lv_at hl 4 rfl) ?_
  exact wEnd S hr hlocks hP hD hS (Nat.le_of_ble_eq_true rfl) (Nat.le_of_ble_eq_true rfl) dX9_declare_40 rfl
