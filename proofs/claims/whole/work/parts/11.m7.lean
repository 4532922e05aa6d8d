set_option maxHeartbeats 8000000 in
set_option maxRecDepth 100000 in
theorem c_X9_isIn_81 (l : Launch) (D : va_G) (cI cZ cJ : ClassId) (o : Nat) (q : Nat → Nat) : Met l yX9_isIn (uW yX9_isIn cX9_isIn 3 (some .boolean)) ({ frames := 0, cells := 0, slots := 0, locals := 0 }) (va_Pc [.int 2, .int 0, .int 10] (pS D (tyL cI cZ cJ) (mW o 0 q cI cZ))) (QcRead (1)) 0 0 (fun _ => False) := by
  refine rdStart (lv := [(0, .int 2), (1, .int 0), (2, .int 10)]) (by decide) (Nat.le_of_ble_eq_true rfl) rfl ?_
  intro p e s m args below meth c ls S hr hlocks hl hP hK
  have hx := S.1
  have hb := S.2.1
  refine lv_iload_n hx hb dX9_isIn_0 rfl (lv_at hl 0 rfl) ?_
  refine lv_iload_n hx hb dX9_isIn_1 rfl (lv_at hl 1 rfl) ?_
  refine lv_icmp_lt (tgt := 14) hx hb dX9_isIn_2 (by decide) (fun c => absurd c (by decide)) (fun _ => ?_)
  refine lv_iload_n hx hb dX9_isIn_5 rfl (lv_at hl 0 rfl) ?_
  refine lv_iload_n hx hb dX9_isIn_6 rfl (lv_at hl 2 rfl) ?_
  refine lv_icmp_gt (tgt := 14) hx hb dX9_isIn_7 (by decide) (fun c => absurd c (by decide)) (fun _ => ?_)
  refine lv_iconst (v := 1) hx hb dX9_isIn_10 (by decide) ?_
  refine lv_goto (tgt := 15) hx hb dX9_isIn_11 (by decide) ?_
  exact rdEndZ S hr hlocks dX9_isIn_15 rfl rfl

set_option maxHeartbeats 8000000 in
set_option maxRecDepth 100000 in
theorem m_ofRun_ok2 (l : Launch) (D : va_G) (cI cZ cJ : ClassId) (o : Nat) (q : Nat → Nat) (sz : Nat) : Met l yX9_ofRun (uW yX9_ofRun cX9_ofRun 2 (some .int)) ({ frames := 1, cells := 0, slots := 0, locals := 22 }) (va_Pc [.ref o, .int 2] (wS D (tyL cI cZ cJ) (mW o 0 q cI cZ) sz)) (wQi (0) D (mW o 0 q cI cZ) (va_A (mW o 0 q cI cZ) sz)) 0 0 (va_A (mW o 0 q cI cZ) sz) := by
  refine wStart (lv := [(0, .ref o), (1, .int 2)]) (Qc := fun A => wQi (0) D (mW o 0 q cI cZ) A) (by decide) (Nat.le_of_ble_eq_true rfl) rfl ?_
  intro p e s m args below meth c ls A H S hr hlocks hnm hl hK hP hD hS hA
  have hx := S.1
  have hb := S.2.1
  refine lv_aload_n hx hb dX9_ofRun_0 rfl (lv_at hl 0 rfl) ?_
  refine lv_iconst (v := 0) hx hb dX9_ofRun_1 (by decide) ?_
  refine xp (ci := 9) (v := .int 0) S inX9 tyX9 tyX9_ok nmX9 rfl hK hP hD hS mW_0 0 (by decide) kw_6_147 rfl rfl rfl rfl (Nat.le_of_ble_eq_true rfl) dX9_ofRun_2 (fun H locs hP hD hS => ?_)
  have hP : va_P D vwCl (mW o 0 q cI cZ) H := hP
  have hD : va_D A (mW o 0 q cI cZ) := hD
  refine lv_iload_n hx hb dX9_ofRun_5 rfl (lv_at hl 1 rfl) ?_
  refine lv_iconst (v := 0) hx hb dX9_ofRun_6 (by decide) ?_
  refine lv_bipush (v := 10) hx hb dX9_ofRun_7 (by decide) ?_
  refine rdS (As := [.int 2, .int 0, .int 10]) S (c_X9_isIn_81 l D cI cZ cJ o q) ms_X9_isIn kw_7_100 ⟨rfl, rfl⟩ ⟨Nat.le_of_ble_eq_true rfl, Nat.le_of_ble_eq_true rfl⟩ hP hK hl.1 (Nat.le_of_ble_eq_true rfl) ⟨Nat.le_of_ble_eq_true rfl, Nat.le_of_ble_eq_true rfl⟩ dX9_ofRun_9 ?_
  refine lv_if_ne (tgt := 23) hx hb dX9_ofRun_12 (by decide) (fun _ => ?_) (fun c => absurd c (by decide))
  refine lv_iload_n hx hb dX9_ofRun_23 rfl (lv_at hl 1 rfl) ?_
  refine lv_bipush (v := 10) hx hb dX9_ofRun_24 (by decide) ?_
  refine lv_icmp_ne (tgt := 36) hx hb dX9_ofRun_26 (by decide) (fun _ => ?_) (fun c => absurd c (by decide))
  refine lv_aload_n hx hb dX9_ofRun_36 rfl (lv_at hl 0 rfl) ?_
  refine xg (ci := 9) S inX9 rfl hK hP mW_0 24 (by decide) mF_24 kw_6_171 rfl dX9_ofRun_37 ?_
  refine lv_iload_n hx hb dX9_ofRun_40 rfl (lv_at hl 1 rfl) ?_
  refine xiald (t0 := 0) (v := 0) S hK hP mW_18 rfl (vin rfl) rfl dX9_ofRun_41 ?_
  exact wEnd S hr hlocks hP hD hS (Nat.le_of_ble_eq_true rfl) (Nat.le_of_ble_eq_true rfl) dX9_ofRun_42 rfl

set_option maxHeartbeats 8000000 in
set_option maxRecDepth 100000 in
theorem c_X9_isIn_82 (l : Launch) (D : va_G) (cI cZ cJ : ClassId) (o : Nat) (q : Nat → Nat) : Met l yX9_isIn (uW yX9_isIn cX9_isIn 3 (some .boolean)) ({ frames := 0, cells := 0, slots := 0, locals := 0 }) (va_Pc [.int 3, .int 0, .int 10] (pS D (tyL cI cZ cJ) (mW o 0 q cI cZ))) (QcRead (1)) 0 0 (fun _ => False) := by
  refine rdStart (lv := [(0, .int 3), (1, .int 0), (2, .int 10)]) (by decide) (Nat.le_of_ble_eq_true rfl) rfl ?_
  intro p e s m args below meth c ls S hr hlocks hl hP hK
  have hx := S.1
  have hb := S.2.1
  refine lv_iload_n hx hb dX9_isIn_0 rfl (lv_at hl 0 rfl) ?_
  refine lv_iload_n hx hb dX9_isIn_1 rfl (lv_at hl 1 rfl) ?_
  refine lv_icmp_lt (tgt := 14) hx hb dX9_isIn_2 (by decide) (fun c => absurd c (by decide)) (fun _ => ?_)
  refine lv_iload_n hx hb dX9_isIn_5 rfl (lv_at hl 0 rfl) ?_
  refine lv_iload_n hx hb dX9_isIn_6 rfl (lv_at hl 2 rfl) ?_
  refine lv_icmp_gt (tgt := 14) hx hb dX9_isIn_7 (by decide) (fun c => absurd c (by decide)) (fun _ => ?_)
  refine lv_iconst (v := 1) hx hb dX9_isIn_10 (by decide) ?_
  refine lv_goto (tgt := 15) hx hb dX9_isIn_11 (by decide) ?_
  exact rdEndZ S hr hlocks dX9_isIn_15 rfl rfl

set_option maxHeartbeats 8000000 in
set_option maxRecDepth 100000 in
theorem m_ofRun_ok3 (l : Launch) (D : va_G) (cI cZ cJ : ClassId) (o : Nat) (q : Nat → Nat) (sz : Nat) : Met l yX9_ofRun (uW yX9_ofRun cX9_ofRun 2 (some .int)) ({ frames := 1, cells := 0, slots := 0, locals := 22 }) (va_Pc [.ref o, .int 3] (wS D (tyL cI cZ cJ) (mW o 0 q cI cZ) sz)) (wQi (0) D (mW o 0 q cI cZ) (va_A (mW o 0 q cI cZ) sz)) 0 0 (va_A (mW o 0 q cI cZ) sz) := by
  refine wStart (lv := [(0, .ref o), (1, .int 3)]) (Qc := fun A => wQi (0) D (mW o 0 q cI cZ) A) (by decide) (Nat.le_of_ble_eq_true rfl) rfl ?_
  intro p e s m args below meth c ls A H S hr hlocks hnm hl hK hP hD hS hA
  have hx := S.1
  have hb := S.2.1
  refine lv_aload_n hx hb dX9_ofRun_0 rfl (lv_at hl 0 rfl) ?_
  refine lv_iconst (v := 0) hx hb dX9_ofRun_1 (by decide) ?_
  refine xp (ci := 9) (v := .int 0) S inX9 tyX9 tyX9_ok nmX9 rfl hK hP hD hS mW_0 0 (by decide) kw_6_147 rfl rfl rfl rfl (Nat.le_of_ble_eq_true rfl) dX9_ofRun_2 (fun H locs hP hD hS => ?_)
  have hP : va_P D vwCl (mW o 0 q cI cZ) H := hP
  have hD : va_D A (mW o 0 q cI cZ) := hD
  refine lv_iload_n hx hb dX9_ofRun_5 rfl (lv_at hl 1 rfl) ?_
  refine lv_iconst (v := 0) hx hb dX9_ofRun_6 (by decide) ?_
  refine lv_bipush (v := 10) hx hb dX9_ofRun_7 (by decide) ?_
  refine rdS (As := [.int 3, .int 0, .int 10]) S (c_X9_isIn_82 l D cI cZ cJ o q) ms_X9_isIn kw_7_100 ⟨rfl, rfl⟩ ⟨Nat.le_of_ble_eq_true rfl, Nat.le_of_ble_eq_true rfl⟩ hP hK hl.1 (Nat.le_of_ble_eq_true rfl) ⟨Nat.le_of_ble_eq_true rfl, Nat.le_of_ble_eq_true rfl⟩ dX9_ofRun_9 ?_
  refine lv_if_ne (tgt := 23) hx hb dX9_ofRun_12 (by decide) (fun _ => ?_) (fun c => absurd c (by decide))
  refine lv_iload_n hx hb dX9_ofRun_23 rfl (lv_at hl 1 rfl) ?_
  refine lv_bipush (v := 10) hx hb dX9_ofRun_24 (by decide) ?_
  refine lv_icmp_ne (tgt := 36) hx hb dX9_ofRun_26 (by decide) (fun _ => ?_) (fun c => absurd c (by decide))
  refine lv_aload_n hx hb dX9_ofRun_36 rfl (lv_at hl 0 rfl) ?_
  refine xg (ci := 9) S inX9 rfl hK hP mW_0 24 (by decide) mF_24 kw_6_171 rfl dX9_ofRun_37 ?_
  refine lv_iload_n hx hb dX9_ofRun_40 rfl (lv_at hl 1 rfl) ?_
  refine xiald (t0 := 0) (v := 0) S hK hP mW_18 rfl (vin rfl) rfl dX9_ofRun_41 ?_
  exact wEnd S hr hlocks hP hD hS (Nat.le_of_ble_eq_true rfl) (Nat.le_of_ble_eq_true rfl) dX9_ofRun_42 rfl

set_option maxHeartbeats 8000000 in
set_option maxRecDepth 100000 in
theorem c_X9_isIn_83 (l : Launch) (D : va_G) (cI cZ cJ : ClassId) (o : Nat) (q : Nat → Nat) : Met l yX9_isIn (uW yX9_isIn cX9_isIn 3 (some .boolean)) ({ frames := 0, cells := 0, slots := 0, locals := 0 }) (va_Pc [.int 4, .int 0, .int 10] (pS D (tyL cI cZ cJ) (mW o 0 q cI cZ))) (QcRead (1)) 0 0 (fun _ => False) := by
  refine rdStart (lv := [(0, .int 4), (1, .int 0), (2, .int 10)]) (by decide) (Nat.le_of_ble_eq_true rfl) rfl ?_
  intro p e s m args below meth c ls S hr hlocks hl hP hK
  have hx := S.1
  have hb := S.2.1
  refine lv_iload_n hx hb dX9_isIn_0 rfl (lv_at hl 0 rfl) ?_
  refine lv_iload_n hx hb dX9_isIn_1 rfl (lv_at hl 1 rfl) ?_
  refine lv_icmp_lt (tgt := 14) hx hb dX9_isIn_2 (by decide) (fun c => absurd c (by decide)) (fun _ => ?_)
  refine lv_iload_n hx hb dX9_isIn_5 rfl (lv_at hl 0 rfl) ?_
  refine lv_iload_n hx hb dX9_isIn_6 rfl (lv_at hl 2 rfl) ?_
  refine lv_icmp_gt (tgt := 14) hx hb dX9_isIn_7 (by decide) (fun c => absurd c (by decide)) (fun _ => ?_)
  refine lv_iconst (v := 1) hx hb dX9_isIn_10 (by decide) ?_
  refine lv_goto (tgt := 15) hx hb dX9_isIn_11 (by decide) ?_
  exact rdEndZ S hr hlocks dX9_isIn_15 rfl rfl

set_option maxHeartbeats 8000000 in
set_option maxRecDepth 100000 in
theorem m_ofRun_ok4 (l : Launch) (D : va_G) (cI cZ cJ : ClassId) (o : Nat) (q : Nat → Nat) (sz : Nat) : Met l yX9_ofRun (uW yX9_ofRun cX9_ofRun 2 (some .int)) ({ frames := 1, cells := 0, slots := 0, locals := 22 }) (va_Pc [.ref o, .int 4] (wS D (tyL cI cZ cJ) (mW o 0 q cI cZ) sz)) (wQi (0) D (mW o 0 q cI cZ) (va_A (mW o 0 q cI cZ) sz)) 0 0 (va_A (mW o 0 q cI cZ) sz) := by
  refine wStart (lv := [(0, .ref o), (1, .int 4)]) (Qc := fun A => wQi (0) D (mW o 0 q cI cZ) A) (by decide) (Nat.le_of_ble_eq_true rfl) rfl ?_
  intro p e s m args below meth c ls A H S hr hlocks hnm hl hK hP hD hS hA
  have hx := S.1
  have hb := S.2.1
  refine lv_aload_n hx hb dX9_ofRun_0 rfl (lv_at hl 0 rfl) ?_
  refine lv_iconst (v := 0) hx hb dX9_ofRun_1 (by decide) ?_
  refine xp (ci := 9) (v := .int 0) S inX9 tyX9 tyX9_ok nmX9 rfl hK hP hD hS mW_0 0 (by decide) kw_6_147 rfl rfl rfl rfl (Nat.le_of_ble_eq_true rfl) dX9_ofRun_2 (fun H locs hP hD hS => ?_)
  have hP : va_P D vwCl (mW o 0 q cI cZ) H := hP
  have hD : va_D A (mW o 0 q cI cZ) := hD
  refine lv_iload_n hx hb dX9_ofRun_5 rfl (lv_at hl 1 rfl) ?_
  refine lv_iconst (v := 0) hx hb dX9_ofRun_6 (by decide) ?_
  refine lv_bipush (v := 10) hx hb dX9_ofRun_7 (by decide) ?_
  refine rdS (As := [.int 4, .int 0, .int 10]) S (c_X9_isIn_83 l D cI cZ cJ o q) ms_X9_isIn kw_7_100 ⟨rfl, rfl⟩ ⟨Nat.le_of_ble_eq_true rfl, Nat.le_of_ble_eq_true rfl⟩ hP hK hl.1 (Nat.le_of_ble_eq_true rfl) ⟨Nat.le_of_ble_eq_true rfl, Nat.le_of_ble_eq_true rfl⟩ dX9_ofRun_9 ?_
  refine lv_if_ne (tgt := 23) hx hb dX9_ofRun_12 (by decide) (fun _ => ?_) (fun c => absurd c (by decide))
  refine lv_iload_n hx hb dX9_ofRun_23 rfl (lv_at hl 1 rfl) ?_
  refine lv_bipush (v := 10) hx hb dX9_ofRun_24 (by decide) ?_
  refine lv_icmp_ne (tgt := 36) hx hb dX9_ofRun_26 (by decide) (fun _ => ?_) (fun c => absurd c (by decide))
  refine lv_aload_n hx hb dX9_ofRun_36 rfl (lv_at hl 0 rfl) ?_
  refine xg (ci := 9) S inX9 rfl hK hP mW_0 24 (by decide) mF_24 kw_6_171 rfl dX9_ofRun_37 ?_
  refine lv_iload_n hx hb dX9_ofRun_40 rfl (lv_at hl 1 rfl) ?_
  refine xiald (t0 := 0) (v := 0) S hK hP mW_18 rfl (vin rfl) rfl dX9_ofRun_41 ?_
  exact wEnd S hr hlocks hP hD hS (Nat.le_of_ble_eq_true rfl) (Nat.le_of_ble_eq_true rfl) dX9_ofRun_42 rfl

set_option maxHeartbeats 8000000 in
set_option maxRecDepth 100000 in
theorem c_X9_isIn_84 (l : Launch) (D : va_G) (cI cZ cJ : ClassId) (o : Nat) (q : Nat → Nat) : Met l yX9_isIn (uW yX9_isIn cX9_isIn 3 (some .boolean)) ({ frames := 0, cells := 0, slots := 0, locals := 0 }) (va_Pc [.int 5, .int 0, .int 10] (pS D (tyL cI cZ cJ) (mW o 0 q cI cZ))) (QcRead (1)) 0 0 (fun _ => False) := by
  refine rdStart (lv := [(0, .int 5), (1, .int 0), (2, .int 10)]) (by decide) (Nat.le_of_ble_eq_true rfl) rfl ?_
  intro p e s m args below meth c ls S hr hlocks hl hP hK
  have hx := S.1
  have hb := S.2.1
  refine lv_iload_n hx hb dX9_isIn_0 rfl (lv_at hl 0 rfl) ?_
  refine lv_iload_n hx hb dX9_isIn_1 rfl (lv_at hl 1 rfl) ?_
  refine lv_icmp_lt (tgt := 14) hx hb dX9_isIn_2 (by decide) (fun c => absurd c (by decide)) (fun _ => ?_)
  refine lv_iload_n hx hb dX9_isIn_5 rfl (lv_at hl 0 rfl) ?_
  refine lv_iload_n hx hb dX9_isIn_6 rfl (lv_at hl 2 rfl) ?_
  refine lv_icmp_gt (tgt := 14) hx hb dX9_isIn_7 (by decide) (fun c => absurd c (by decide)) (fun _ => ?_)
  refine lv_iconst (v := 1) hx hb dX9_isIn_10 (by decide) ?_
  refine lv_goto (tgt := 15) hx hb dX9_isIn_11 (by decide) ?_
  exact rdEndZ S hr hlocks dX9_isIn_15 rfl rfl

set_option maxHeartbeats 8000000 in
set_option maxRecDepth 100000 in
theorem m_ofRun_ok5 (l : Launch) (D : va_G) (cI cZ cJ : ClassId) (o : Nat) (q : Nat → Nat) (sz : Nat) : Met l yX9_ofRun (uW yX9_ofRun cX9_ofRun 2 (some .int)) ({ frames := 1, cells := 0, slots := 0, locals := 22 }) (va_Pc [.ref o, .int 5] (wS D (tyL cI cZ cJ) (mW o 0 q cI cZ) sz)) (wQi (0) D (mW o 0 q cI cZ) (va_A (mW o 0 q cI cZ) sz)) 0 0 (va_A (mW o 0 q cI cZ) sz) := by
  refine wStart (lv := [(0, .ref o), (1, .int 5)]) (Qc := fun A => wQi (0) D (mW o 0 q cI cZ) A) (by decide) (Nat.le_of_ble_eq_true rfl) rfl ?_
  intro p e s m args below meth c ls A H S hr hlocks hnm hl hK hP hD hS hA
  have hx := S.1
  have hb := S.2.1
  refine lv_aload_n hx hb dX9_ofRun_0 rfl (lv_at hl 0 rfl) ?_
  refine lv_iconst (v := 0) hx hb dX9_ofRun_1 (by decide) ?_
  refine xp (ci := 9) (v := .int 0) S inX9 tyX9 tyX9_ok nmX9 rfl hK hP hD hS mW_0 0 (by decide) kw_6_147 rfl rfl rfl rfl (Nat.le_of_ble_eq_true rfl) dX9_ofRun_2 (fun H locs hP hD hS => ?_)
  have hP : va_P D vwCl (mW o 0 q cI cZ) H := hP
  have hD : va_D A (mW o 0 q cI cZ) := hD
  refine lv_iload_n hx hb dX9_ofRun_5 rfl (lv_at hl 1 rfl) ?_
  refine lv_iconst (v := 0) hx hb dX9_ofRun_6 (by decide) ?_
  refine lv_bipush (v := 10) hx hb dX9_ofRun_7 (by decide) ?_
  refine rdS (As := [.int 5, .int 0, .int 10]) S (c_X9_isIn_84 l D cI cZ cJ o q) ms_X9_isIn kw_7_100 ⟨rfl, rfl⟩ ⟨Nat.le_of_ble_eq_true rfl, Nat.le_of_ble_eq_true rfl⟩ hP hK hl.1 (Nat.le_of_ble_eq_true rfl) ⟨Nat.le_of_ble_eq_true rfl, Nat.le_of_ble_eq_true rfl⟩ dX9_ofRun_9 ?_
  refine lv_if_ne (tgt := 23) hx hb dX9_ofRun_12 (by decide) (fun _ => ?_) (fun c => absurd c (by decide))
  refine lv_iload_n hx hb dX9_ofRun_23 rfl (lv_at hl 1 rfl) ?_
  refine lv_bipush (v := 10) hx hb dX9_ofRun_24 (by decide) ?_
  refine lv_icmp_ne (tgt := 36) hx hb dX9_ofRun_26 (by decide) (fun _ => ?_) (fun c => absurd c (by decide))
  refine lv_aload_n hx hb dX9_ofRun_36 rfl (lv_at hl 0 rfl) ?_
  refine xg (ci := 9) S inX9 rfl hK hP mW_0 24 (by decide) mF_24 kw_6_171 rfl dX9_ofRun_37 ?_
  refine lv_iload_n hx hb dX9_ofRun_40 rfl (lv_at hl 1 rfl) ?_
  refine xiald (t0 := 0) (v := 0) S hK hP mW_18 rfl (vin rfl) rfl dX9_ofRun_41 ?_
  exact wEnd S hr hlocks hP hD hS (Nat.le_of_ble_eq_true rfl) (Nat.le_of_ble_eq_true rfl) dX9_ofRun_42 rfl

set_option maxHeartbeats 8000000 in
set_option maxRecDepth 100000 in
theorem c_X9_isIn_85 (l : Launch) (D : va_G) (cI cZ cJ : ClassId) (o : Nat) (q : Nat → Nat) : Met l yX9_isIn (uW yX9_isIn cX9_isIn 3 (some .boolean)) ({ frames := 0, cells := 0, slots := 0, locals := 0 }) (va_Pc [.int 6, .int 0, .int 10] (pS D (tyL cI cZ cJ) (mW o 0 q cI cZ))) (QcRead (1)) 0 0 (fun _ => False) := by
  refine rdStart (lv := [(0, .int 6), (1, .int 0), (2, .int 10)]) (by decide) (Nat.le_of_ble_eq_true rfl) rfl ?_
  intro p e s m args below meth c ls S hr hlocks hl hP hK
  have hx := S.1
  have hb := S.2.1
  refine lv_iload_n hx hb dX9_isIn_0 rfl (lv_at hl 0 rfl) ?_
  refine lv_iload_n hx hb dX9_isIn_1 rfl (lv_at hl 1 rfl) ?_
  refine lv_icmp_lt (tgt := 14) hx hb dX9_isIn_2 (by decide) (fun c => absurd c (by decide)) (fun _ => ?_)
  refine lv_iload_n hx hb dX9_isIn_5 rfl (lv_at hl 0 rfl) ?_
  refine lv_iload_n hx hb dX9_isIn_6 rfl (lv_at hl 2 rfl) ?_
  refine lv_icmp_gt (tgt := 14) hx hb dX9_isIn_7 (by decide) (fun c => absurd c (by decide)) (fun _ => ?_)
  refine lv_iconst (v := 1) hx hb dX9_isIn_10 (by decide) ?_
  refine lv_goto (tgt := 15) hx hb dX9_isIn_11 (by decide) ?_
  exact rdEndZ S hr hlocks dX9_isIn_15 rfl rfl

set_option maxHeartbeats 8000000 in
set_option maxRecDepth 100000 in
theorem m_ofRun_ok6 (l : Launch) (D : va_G) (cI cZ cJ : ClassId) (o : Nat) (q : Nat → Nat) (sz : Nat) : Met l yX9_ofRun (uW yX9_ofRun cX9_ofRun 2 (some .int)) ({ frames := 1, cells := 0, slots := 0, locals := 22 }) (va_Pc [.ref o, .int 6] (wS D (tyL cI cZ cJ) (mW o 0 q cI cZ) sz)) (wQi (0) D (mW o 0 q cI cZ) (va_A (mW o 0 q cI cZ) sz)) 0 0 (va_A (mW o 0 q cI cZ) sz) := by
  refine wStart (lv := [(0, .ref o), (1, .int 6)]) (Qc := fun A => wQi (0) D (mW o 0 q cI cZ) A) (by decide) (Nat.le_of_ble_eq_true rfl) rfl ?_
  intro p e s m args below meth c ls A H S hr hlocks hnm hl hK hP hD hS hA
  have hx := S.1
  have hb := S.2.1
  refine lv_aload_n hx hb dX9_ofRun_0 rfl (lv_at hl 0 rfl) ?_
  refine lv_iconst (v := 0) hx hb dX9_ofRun_1 (by decide) ?_
  refine xp (ci := 9) (v := .int 0) S inX9 tyX9 tyX9_ok nmX9 rfl hK hP hD hS mW_0 0 (by decide) kw_6_147 rfl rfl rfl rfl (Nat.le_of_ble_eq_true rfl) dX9_ofRun_2 (fun H locs hP hD hS => ?_)
  have hP : va_P D vwCl (mW o 0 q cI cZ) H := hP
  have hD : va_D A (mW o 0 q cI cZ) := hD
  refine lv_iload_n hx hb dX9_ofRun_5 rfl (lv_at hl 1 rfl) ?_
  refine lv_iconst (v := 0) hx hb dX9_ofRun_6 (by decide) ?_
  refine lv_bipush (v := 10) hx hb dX9_ofRun_7 (by decide) ?_
  refine rdS (As := [.int 6, .int 0, .int 10]) S (c_X9_isIn_85 l D cI cZ cJ o q) ms_X9_isIn kw_7_100 ⟨rfl, rfl⟩ ⟨Nat.le_of_ble_eq_true rfl, Nat.le_of_ble_eq_true rfl⟩ hP hK hl.1 (Nat.le_of_ble_eq_true rfl) ⟨Nat.le_of_ble_eq_true rfl, Nat.le_of_ble_eq_true rfl⟩ dX9_ofRun_9 ?_
  refine lv_if_ne (tgt := 23) hx hb dX9_ofRun_12 (by decide) (fun _ => ?_) (fun c => absurd c (by decide))
  refine lv_iload_n hx hb dX9_ofRun_23 rfl (lv_at hl 1 rfl) ?_
  refine lv_bipush (v := 10) hx hb dX9_ofRun_24 (by decide) ?_
  refine lv_icmp_ne (tgt := 36) hx hb dX9_ofRun_26 (by decide) (fun _ => ?_) (fun c => absurd c (by decide))
  refine lv_aload_n hx hb dX9_ofRun_36 rfl (lv_at hl 0 rfl) ?_
  refine xg (ci := 9) S inX9 rfl hK hP mW_0 24 (by decide) mF_24 kw_6_171 rfl dX9_ofRun_37 ?_
  refine lv_iload_n hx hb dX9_ofRun_40 rfl (lv_at hl 1 rfl) ?_
  refine xiald (t0 := 0) (v := 0) S hK hP mW_18 rfl (vin rfl) rfl dX9_ofRun_41 ?_
  exact wEnd S hr hlocks hP hD hS (Nat.le_of_ble_eq_true rfl) (Nat.le_of_ble_eq_true rfl) dX9_ofRun_42 rfl

set_option maxHeartbeats 8000000 in
set_option maxRecDepth 100000 in
theorem c_X9_isIn_86 (l : Launch) (D : va_G) (cI cZ cJ : ClassId) (o : Nat) (q : Nat → Nat) : Met l yX9_isIn (uW yX9_isIn cX9_isIn 3 (some .boolean)) ({ frames := 0, cells := 0, slots := 0, locals := 0 }) (va_Pc [.int 7, .int 0, .int 10] (pS D (tyL cI cZ cJ) (mW o 0 q cI cZ))) (QcRead (1)) 0 0 (fun _ => False) := by
  refine rdStart (lv := [(0, .int 7), (1, .int 0), (2, .int 10)]) (by decide) (Nat.le_of_ble_eq_true rfl) rfl ?_
  intro p e s m args below meth c ls S hr hlocks hl hP hK
  have hx := S.1
  have hb := S.2.1
  refine lv_iload_n hx hb dX9_isIn_0 rfl (lv_at hl 0 rfl) ?_
  refine lv_iload_n hx hb dX9_isIn_1 rfl (lv_at hl 1 rfl) ?_
  refine lv_icmp_lt (tgt := 14) hx hb dX9_isIn_2 (by decide) (fun c => absurd c (by decide)) (fun _ => ?_)
  refine lv_iload_n hx hb dX9_isIn_5 rfl (lv_at hl 0 rfl) ?_
  refine lv_iload_n hx hb dX9_isIn_6 rfl (lv_at hl 2 rfl) ?_
  refine lv_icmp_gt (tgt := 14) hx hb dX9_isIn_7 (by decide) (fun c => absurd c (by decide)) (fun _ => ?_)
  refine lv_iconst (v := 1) hx hb dX9_isIn_10 (by decide) ?_
  refine lv_goto (tgt := 15) hx hb dX9_isIn_11 (by decide) ?_
  exact rdEndZ S hr hlocks dX9_isIn_15 rfl rfl

set_option maxHeartbeats 8000000 in
set_option maxRecDepth 100000 in
theorem m_ofRun_ok7 (l : Launch) (D : va_G) (cI cZ cJ : ClassId) (o : Nat) (q : Nat → Nat) (sz : Nat) : Met l yX9_ofRun (uW yX9_ofRun cX9_ofRun 2 (some .int)) ({ frames := 1, cells := 0, slots := 0, locals := 22 }) (va_Pc [.ref o, .int 7] (wS D (tyL cI cZ cJ) (mW o 0 q cI cZ) sz)) (wQi (0) D (mW o 0 q cI cZ) (va_A (mW o 0 q cI cZ) sz)) 0 0 (va_A (mW o 0 q cI cZ) sz) := by
  refine wStart (lv := [(0, .ref o), (1, .int 7)]) (Qc := fun A => wQi (0) D (mW o 0 q cI cZ) A) (by decide) (Nat.le_of_ble_eq_true rfl) rfl ?_
  intro p e s m args below meth c ls A H S hr hlocks hnm hl hK hP hD hS hA
  have hx := S.1
  have hb := S.2.1
  refine lv_aload_n hx hb dX9_ofRun_0 rfl (lv_at hl 0 rfl) ?_
  refine lv_iconst (v := 0) hx hb dX9_ofRun_1 (by decide) ?_
  refine xp (ci := 9) (v := .int 0) S inX9 tyX9 tyX9_ok nmX9 rfl hK hP hD hS mW_0 0 (by decide) kw_6_147 rfl rfl rfl rfl (Nat.le_of_ble_eq_true rfl) dX9_ofRun_2 (fun H locs hP hD hS => ?_)
  have hP : va_P D vwCl (mW o 0 q cI cZ) H := hP
  have hD : va_D A (mW o 0 q cI cZ) := hD
  refine lv_iload_n hx hb dX9_ofRun_5 rfl (lv_at hl 1 rfl) ?_
  refine lv_iconst (v := 0) hx hb dX9_ofRun_6 (by decide) ?_
  refine lv_bipush (v := 10) hx hb dX9_ofRun_7 (by decide) ?_
  refine rdS (As := [.int 7, .int 0, .int 10]) S (c_X9_isIn_86 l D cI cZ cJ o q) ms_X9_isIn kw_7_100 ⟨rfl, rfl⟩ ⟨Nat.le_of_ble_eq_true rfl, Nat.le_of_ble_eq_true rfl⟩ hP hK hl.1 (Nat.le_of_ble_eq_true rfl) ⟨Nat.le_of_ble_eq_true rfl, Nat.le_of_ble_eq_true rfl⟩ dX9_ofRun_9 ?_
  refine lv_if_ne (tgt := 23) hx hb dX9_ofRun_12 (by decide) (fun _ => ?_) (fun c => absurd c (by decide))
  refine lv_iload_n hx hb dX9_ofRun_23 rfl (lv_at hl 1 rfl) ?_
  refine lv_bipush (v := 10) hx hb dX9_ofRun_24 (by decide) ?_
  refine lv_icmp_ne (tgt := 36) hx hb dX9_ofRun_26 (by decide) (fun _ => ?_) (fun c => absurd c (by decide))
  refine lv_aload_n hx hb dX9_ofRun_36 rfl (lv_at hl 0 rfl) ?_
  refine xg (ci := 9) S inX9 rfl hK hP mW_0 24 (by decide) mF_24 kw_6_171 rfl dX9_ofRun_37 ?_
  refine lv_iload_n hx hb dX9_ofRun_40 rfl (lv_at hl 1 rfl) ?_
  refine xiald (t0 := 0) (v := 0) S hK hP mW_18 rfl (vin rfl) rfl dX9_ofRun_41 ?_
  exact wEnd S hr hlocks hP hD hS (Nat.le_of_ble_eq_true rfl) (Nat.le_of_ble_eq_true rfl) dX9_ofRun_42 rfl

set_option maxHeartbeats 8000000 in
set_option maxRecDepth 100000 in
theorem c_X9_isIn_87 (l : Launch) (D : va_G) (cI cZ cJ : ClassId) (o : Nat) (q : Nat → Nat) : Met l yX9_isIn (uW yX9_isIn cX9_isIn 3 (some .boolean)) ({ frames := 0, cells := 0, slots := 0, locals := 0 }) (va_Pc [.int 8, .int 0, .int 10] (pS D (tyL cI cZ cJ) (mW o 0 q cI cZ))) (QcRead (1)) 0 0 (fun _ => False) := by
  refine rdStart (lv := [(0, .int 8), (1, .int 0), (2, .int 10)]) (by decide) (Nat.le_of_ble_eq_true rfl) rfl ?_
  intro p e s m args below meth c ls S hr hlocks hl hP hK
  have hx := S.1
  have hb := S.2.1
  refine lv_iload_n hx hb dX9_isIn_0 rfl (lv_at hl 0 rfl) ?_
  refine lv_iload_n hx hb dX9_isIn_1 rfl (lv_at hl 1 rfl) ?_
  refine lv_icmp_lt (tgt := 14) hx hb dX9_isIn_2 (by decide) (fun c => absurd c (by decide)) (fun _ => ?_)
  refine lv_iload_n hx hb dX9_isIn_5 rfl (lv_at hl 0 rfl) ?_
  refine lv_iload_n hx hb dX9_isIn_6 rfl (lv_at hl 2 rfl) ?_
  refine lv_icmp_gt (tgt := 14) hx hb dX9_isIn_7 (by decide) (fun c => absurd c (by decide)) (fun _ => ?_)
  refine lv_iconst (v := 1) hx hb dX9_isIn_10 (by decide) ?_
  refine lv_goto (tgt := 15) hx hb dX9_isIn_11 (by decide) ?_
  exact rdEndZ S hr hlocks dX9_isIn_15 rfl rfl

set_option maxHeartbeats 8000000 in
set_option maxRecDepth 100000 in
theorem m_ofRun_ok8 (l : Launch) (D : va_G) (cI cZ cJ : ClassId) (o : Nat) (q : Nat → Nat) (sz : Nat) : Met l yX9_ofRun (uW yX9_ofRun cX9_ofRun 2 (some .int)) ({ frames := 1, cells := 0, slots := 0, locals := 22 }) (va_Pc [.ref o, .int 8] (wS D (tyL cI cZ cJ) (mW o 0 q cI cZ) sz)) (wQi (0) D (mW o 0 q cI cZ) (va_A (mW o 0 q cI cZ) sz)) 0 0 (va_A (mW o 0 q cI cZ) sz) := by
  refine wStart (lv := [(0, .ref o), (1, .int 8)]) (Qc := fun A => wQi (0) D (mW o 0 q cI cZ) A) (by decide) (Nat.le_of_ble_eq_true rfl) rfl ?_
  intro p e s m args below meth c ls A H S hr hlocks hnm hl hK hP hD hS hA
  have hx := S.1
  have hb := S.2.1
  refine lv_aload_n hx hb dX9_ofRun_0 rfl (lv_at hl 0 rfl) ?_
  refine lv_iconst (v := 0) hx hb dX9_ofRun_1 (by decide) ?_
  refine xp (ci := 9) (v := .int 0) S inX9 tyX9 tyX9_ok nmX9 rfl hK hP hD hS mW_0 0 (by decide) kw_6_147 rfl rfl rfl rfl (Nat.le_of_ble_eq_true rfl) dX9_ofRun_2 (fun H locs hP hD hS => ?_)
  have hP : va_P D vwCl (mW o 0 q cI cZ) H := hP
  have hD : va_D A (mW o 0 q cI cZ) := hD
  refine lv_iload_n hx hb dX9_ofRun_5 rfl (lv_at hl 1 rfl) ?_
  refine lv_iconst (v := 0) hx hb dX9_ofRun_6 (by decide) ?_
  refine lv_bipush (v := 10) hx hb dX9_ofRun_7 (by decide) ?_
  refine rdS (As := [.int 8, .int 0, .int 10]) S (c_X9_isIn_87 l D cI cZ cJ o q) ms_X9_isIn kw_7_100 ⟨rfl, rfl⟩ ⟨Nat.le_of_ble_eq_true rfl, Nat.le_of_ble_eq_true rfl⟩ hP hK hl.1 (Nat.le_of_ble_eq_true rfl) ⟨Nat.le_of_ble_eq_true rfl, Nat.le_of_ble_eq_true rfl⟩ dX9_ofRun_9 ?_
  refine lv_if_ne (tgt := 23) hx hb dX9_ofRun_12 (by decide) (fun _ => ?_) (fun c => absurd c (by decide))
  refine lv_iload_n hx hb dX9_ofRun_23 rfl (lv_at hl 1 rfl) ?_
  refine lv_bipush (v := 10) hx hb dX9_ofRun_24 (by decide) ?_
  refine lv_icmp_ne (tgt := 36) hx hb dX9_ofRun_26 (by decide) (fun _ => ?_) (fun c => absurd c (by decide))
  refine lv_aload_n hx hb dX9_ofRun_36 rfl (lv_at hl 0 rfl) ?_
  refine xg (ci := 9) S inX9 rfl hK hP mW_0 24 (by decide) mF_24 kw_6_171 rfl dX9_ofRun_37 ?_
  refine lv_iload_n hx hb dX9_ofRun_40 rfl (lv_at hl 1 rfl) ?_
  refine xiald (t0 := 0) (v := 0) S hK hP mW_18 rfl (vin rfl) rfl dX9_ofRun_41 ?_
  exact wEnd S hr hlocks hP hD hS (Nat.le_of_ble_eq_true rfl) (Nat.le_of_ble_eq_true rfl) dX9_ofRun_42 rfl

set_option maxHeartbeats 8000000 in
set_option maxRecDepth 100000 in
theorem c_X9_isIn_88 (l : Launch) (D : va_G) (cI cZ cJ : ClassId) (o : Nat) (q : Nat → Nat) : Met l yX9_isIn (uW yX9_isIn cX9_isIn 3 (some .boolean)) ({ frames := 0, cells := 0, slots := 0, locals := 0 }) (va_Pc [.int 9, .int 0, .int 10] (pS D (tyL cI cZ cJ) (mW o 0 q cI cZ))) (QcRead (1)) 0 0 (fun _ => False) := by
  refine rdStart (lv := [(0, .int 9), (1, .int 0), (2, .int 10)]) (by decide) (Nat.le_of_ble_eq_true rfl) rfl ?_
  intro p e s m args below meth c ls S hr hlocks hl hP hK
  have hx := S.1
  have hb := S.2.1
  refine lv_iload_n hx hb dX9_isIn_0 rfl (lv_at hl 0 rfl) ?_
  refine lv_iload_n hx hb dX9_isIn_1 rfl (lv_at hl 1 rfl) ?_
  refine lv_icmp_lt (tgt := 14) hx hb dX9_isIn_2 (by decide) (fun c => absurd c (by decide)) (fun _ => ?_)
  refine lv_iload_n hx hb dX9_isIn_5 rfl (lv_at hl 0 rfl) ?_
  refine lv_iload_n hx hb dX9_isIn_6 rfl (lv_at hl 2 rfl) ?_
  refine lv_icmp_gt (tgt := 14) hx hb dX9_isIn_7 (by decide) (fun c => absurd c (by decide)) (fun _ => ?_)
  refine lv_iconst (v := 1) hx hb dX9_isIn_10 (by decide) ?_
  refine lv_goto (tgt := 15) hx hb dX9_isIn_11 (by decide) ?_
  exact rdEndZ S hr hlocks dX9_isIn_15 rfl rfl

set_option maxHeartbeats 8000000 in
set_option maxRecDepth 100000 in
theorem m_ofRun_ok9 (l : Launch) (D : va_G) (cI cZ cJ : ClassId) (o : Nat) (q : Nat → Nat) (sz : Nat) : Met l yX9_ofRun (uW yX9_ofRun cX9_ofRun 2 (some .int)) ({ frames := 1, cells := 0, slots := 0, locals := 22 }) (va_Pc [.ref o, .int 9] (wS D (tyL cI cZ cJ) (mW o 0 q cI cZ) sz)) (wQi (0) D (mW o 0 q cI cZ) (va_A (mW o 0 q cI cZ) sz)) 0 0 (va_A (mW o 0 q cI cZ) sz) := by
  refine wStart (lv := [(0, .ref o), (1, .int 9)]) (Qc := fun A => wQi (0) D (mW o 0 q cI cZ) A) (by decide) (Nat.le_of_ble_eq_true rfl) rfl ?_
  intro p e s m args below meth c ls A H S hr hlocks hnm hl hK hP hD hS hA
  have hx := S.1
  have hb := S.2.1
  refine lv_aload_n hx hb dX9_ofRun_0 rfl (lv_at hl 0 rfl) ?_
  refine lv_iconst (v := 0) hx hb dX9_ofRun_1 (by decide) ?_
  refine xp (ci := 9) (v := .int 0) S inX9 tyX9 tyX9_ok nmX9 rfl hK hP hD hS mW_0 0 (by decide) kw_6_147 rfl rfl rfl rfl (Nat.le_of_ble_eq_true rfl) dX9_ofRun_2 (fun H locs hP hD hS => ?_)
  have hP : va_P D vwCl (mW o 0 q cI cZ) H := hP
  have hD : va_D A (mW o 0 q cI cZ) := hD
  refine lv_iload_n hx hb dX9_ofRun_5 rfl (lv_at hl 1 rfl) ?_
  refine lv_iconst (v := 0) hx hb dX9_ofRun_6 (by decide) ?_
  refine lv_bipush (v := 10) hx hb dX9_ofRun_7 (by decide) ?_
  refine rdS (As := [.int 9, .int 0, .int 10]) S (c_X9_isIn_88 l D cI cZ cJ o q) ms_X9_isIn kw_7_100 ⟨rfl, rfl⟩ ⟨Nat.le_of_ble_eq_true rfl, Nat.le_of_ble_eq_true rfl⟩ hP hK hl.1 (Nat.le_of_ble_eq_true rfl) ⟨Nat.le_of_ble_eq_true rfl, Nat.le_of_ble_eq_true rfl⟩ dX9_ofRun_9 ?_
  refine lv_if_ne (tgt := 23) hx hb dX9_ofRun_12 (by decide) (fun _ => ?_) (fun c => absurd c (by decide))
  refine lv_iload_n hx hb dX9_ofRun_23 rfl (lv_at hl 1 rfl) ?_
  refine lv_bipush (v := 10) hx hb dX9_ofRun_24 (by decide) ?_
  refine lv_icmp_ne (tgt := 36) hx hb dX9_ofRun_26 (by decide) (fun _ => ?_) (fun c => absurd c (by decide))
  refine lv_aload_n hx hb dX9_ofRun_36 rfl (lv_at hl 0 rfl) ?_
  refine xg (ci := 9) S inX9 rfl hK hP mW_0 24 (by decide) mF_24 kw_6_171 rfl dX9_ofRun_37 ?_
  refine lv_iload_n hx hb dX9_ofRun_40 rfl (lv_at hl 1 rfl) ?_
  refine xiald (t0 := 0) (v := 0) S hK hP mW_18 rfl (vin rfl) rfl dX9_ofRun_41 ?_
  exact wEnd S hr hlocks hP hD hS (Nat.le_of_ble_eq_true rfl) (Nat.le_of_ble_eq_true rfl) dX9_ofRun_42 rfl

set_option maxHeartbeats 8000000 in
set_option maxRecDepth 100000 in
theorem c_X9_isIn_89 (l : Launch) (D : va_G) (cI cZ cJ : ClassId) (o : Nat) (q : Nat → Nat) : Met l yX9_isIn (uW yX9_isIn cX9_isIn 3 (some .boolean)) ({ frames := 0, cells := 0, slots := 0, locals := 0 }) (va_Pc [.int 10, .int 0, .int 10] (pS D (tyL cI cZ cJ) (mW o 0 q cI cZ))) (QcRead (1)) 0 0 (fun _ => False) := by
  refine rdStart (lv := [(0, .int 10), (1, .int 0), (2, .int 10)]) (by decide) (Nat.le_of_ble_eq_true rfl) rfl ?_
  intro p e s m args below meth c ls S hr hlocks hl hP hK
  have hx := S.1
  have hb := S.2.1
  refine lv_iload_n hx hb dX9_isIn_0 rfl (lv_at hl 0 rfl) ?_
  refine lv_iload_n hx hb dX9_isIn_1 rfl (lv_at hl 1 rfl) ?_
  refine lv_icmp_lt (tgt := 14) hx hb dX9_isIn_2 (by decide) (fun c => absurd c (by decide)) (fun _ => ?_)
  refine lv_iload_n hx hb dX9_isIn_5 rfl (lv_at hl 0 rfl) ?_
  refine lv_iload_n hx hb dX9_isIn_6 rfl (lv_at hl 2 rfl) ?_
  refine lv_icmp_gt (tgt := 14) hx hb dX9_isIn_7 (by decide) (fun c => absurd c (by decide)) (fun _ => ?_)
  refine lv_iconst (v := 1) hx hb dX9_isIn_10 (by decide) ?_
  refine lv_goto (tgt := 15) hx hb dX9_isIn_11 (by decide) ?_
  exact rdEndZ S hr hlocks dX9_isIn_15 rfl rfl

set_option maxHeartbeats 8000000 in
set_option maxRecDepth 100000 in
theorem m_ofRun_ok10 (l : Launch) (D : va_G) (cI cZ cJ : ClassId) (o : Nat) (q : Nat → Nat) (sz : Nat) : Met l yX9_ofRun (uW yX9_ofRun cX9_ofRun 2 (some .int)) ({ frames := 1, cells := 0, slots := 0, locals := 22 }) (va_Pc [.ref o, .int 10] (wS D (tyL cI cZ cJ) (mW o 0 q cI cZ) sz)) (wQi (0) D (mW o 0 q cI cZ) (va_A (mW o 0 q cI cZ) sz)) 0 0 (va_A (mW o 0 q cI cZ) sz) := by
  refine wStart (lv := [(0, .ref o), (1, .int 10)]) (Qc := fun A => wQi (0) D (mW o 0 q cI cZ) A) (by decide) (Nat.le_of_ble_eq_true rfl) rfl ?_
  intro p e s m args below meth c ls A H S hr hlocks hnm hl hK hP hD hS hA
  have hx := S.1
  have hb := S.2.1
  refine lv_aload_n hx hb dX9_ofRun_0 rfl (lv_at hl 0 rfl) ?_
  refine lv_iconst (v := 0) hx hb dX9_ofRun_1 (by decide) ?_
  refine xp (ci := 9) (v := .int 0) S inX9 tyX9 tyX9_ok nmX9 rfl hK hP hD hS mW_0 0 (by decide) kw_6_147 rfl rfl rfl rfl (Nat.le_of_ble_eq_true rfl) dX9_ofRun_2 (fun H locs hP hD hS => ?_)
  have hP : va_P D vwCl (mW o 0 q cI cZ) H := hP
  have hD : va_D A (mW o 0 q cI cZ) := hD
  refine lv_iload_n hx hb dX9_ofRun_5 rfl (lv_at hl 1 rfl) ?_
  refine lv_iconst (v := 0) hx hb dX9_ofRun_6 (by decide) ?_
  refine lv_bipush (v := 10) hx hb dX9_ofRun_7 (by decide) ?_
  refine rdS (As := [.int 10, .int 0, .int 10]) S (c_X9_isIn_89 l D cI cZ cJ o q) ms_X9_isIn kw_7_100 ⟨rfl, rfl⟩ ⟨Nat.le_of_ble_eq_true rfl, Nat.le_of_ble_eq_true rfl⟩ hP hK hl.1 (Nat.le_of_ble_eq_true rfl) ⟨Nat.le_of_ble_eq_true rfl, Nat.le_of_ble_eq_true rfl⟩ dX9_ofRun_9 ?_
  refine lv_if_ne (tgt := 23) hx hb dX9_ofRun_12 (by decide) (fun _ => ?_) (fun c => absurd c (by decide))
  refine lv_iload_n hx hb dX9_ofRun_23 rfl (lv_at hl 1 rfl) ?_
  refine lv_bipush (v := 10) hx hb dX9_ofRun_24 (by decide) ?_
  refine lv_icmp_ne (tgt := 36) hx hb dX9_ofRun_26 (by decide) (fun c => absurd c (by decide)) (fun _ => ?_)
  refine lv_aload_n hx hb dX9_ofRun_29 rfl (lv_at hl 0 rfl) ?_
  refine xg (ci := 9) S inX9 rfl hK hP mW_0 23 (by decide) mF_23 kw_6_170 rfl dX9_ofRun_30 ?_
  refine lv_goto (tgt := 42) hx hb dX9_ofRun_33 (by decide) ?_
  exact wEnd S hr hlocks hP hD hS (Nat.le_of_ble_eq_true rfl) (Nat.le_of_ble_eq_true rfl) dX9_ofRun_42 rfl

set_option maxHeartbeats 8000000 in
set_option maxRecDepth 100000 in
theorem m_printed_k (l : Launch) (D : va_G) (cI cZ cJ : ClassId) (o : Nat) (q : Nat → Nat) (sz : Nat) (x1 : Int32) (x2 : Int32) : Met l yX9_printed (uW yX9_printed cX9_printed 3 (some .int)) ({ frames := 1, cells := 0, slots := 0, locals := 22 }) (va_Pc [.ref o, .int x1, .int x2] (wS D (tyL cI cZ cJ) (mW o 0 q cI cZ) sz)) (wQi (0) D (mW o 1 q cI cZ) (va_A (mW o 0 q cI cZ) sz)) 0 0 (va_A (mW o 0 q cI cZ) sz) := by
  refine wStart (lv := [(0, .ref o), (1, .int x1), (2, .int x2)]) (Qc := fun A => wQi (0) D (mW o 1 q cI cZ) A) (by decide) (Nat.le_of_ble_eq_true rfl) rfl ?_
  intro p e s m args below meth c ls A H S hr hlocks hnm hl hK hP hD hS hA
  have hx := S.1
  have hb := S.2.1
  refine lv_aload_n hx hb dX9_printed_0 rfl (lv_at hl 0 rfl) ?_
  refine lv_iconst (v := 0) hx hb dX9_printed_1 (by decide) ?_
  refine xp (ci := 9) (v := .int 0) S inX9 tyX9 tyX9_ok nmX9 rfl hK hP hD hS mW_0 0 (by decide) kw_6_147 rfl rfl rfl rfl (Nat.le_of_ble_eq_true rfl) dX9_printed_2 (fun H locs hP hD hS => ?_)
  have hP : va_P D vwCl (mW o 0 q cI cZ) H := hP
  have hD : va_D A (mW o 0 q cI cZ) := hD
  refine lv_iload_n hx hb dX9_printed_5 rfl (lv_at hl 1 rfl) ?_
  refine lv_iconst (v := 0) hx hb dX9_printed_6 (by decide) ?_
  refine lv_aload_n hx hb dX9_printed_7 rfl (lv_at hl 0 rfl) ?_
  refine xg (ci := 9) S inX9 rfl hK hP mW_0 25 (by decide) mF_25 kw_6_172 rfl dX9_printed_8 ?_
  refine xalen (t0 := 0) (v := 0) S hK hP mW_19 rfl (by decide) dX9_printed_11 ?_
  refine lv_iconst (v := 3) hx hb dX9_printed_12 (by decide) ?_
  refine xidiv (v := 0) S dX9_printed_13 (by decide) (by decide) ?_
  refine lv_iconst (v := 1) hx hb dX9_printed_14 (by decide) ?_
  refine xisub (v := (-1)) S dX9_printed_15 (by decide) ?_
  refine rdS (As := [.int x1, .int 0, .int (-1)]) S (c_X9_isIn_67 l D cI cZ cJ o q x1) ms_X9_isIn kw_7_100 ⟨rfl, rfl⟩ ⟨Nat.le_of_ble_eq_true rfl, Nat.le_of_ble_eq_true rfl⟩ hP hK hl.1 (Nat.le_of_ble_eq_true rfl) ⟨Nat.le_of_ble_eq_true rfl, Nat.le_of_ble_eq_true rfl⟩ dX9_printed_16 ?_
  refine lv_if_ne (tgt := 28) hx hb dX9_printed_19 (by decide) (fun c => absurd c (by decide)) (fun _ => ?_)
  refine lv_aload_n hx hb dX9_printed_22 rfl (lv_at hl 0 rfl) ?_
  refine lv_iconst (v := 1) hx hb dX9_printed_23 (by decide) ?_
  refine wrV (As := [.int 1]) (ci := 9) S (c_X9_no_0 l D cI cZ cJ o q H.size) mi_X9_no kw_7_103 rfl rfl ⟨Nat.le_of_ble_eq_true rfl, Nat.le_of_ble_eq_true rfl⟩ hP hD hK hS hA mW_0 rfl rfl hl.1 (Nat.le_of_ble_eq_true rfl) ⟨Nat.le_of_ble_eq_true rfl, Nat.le_of_ble_eq_true rfl⟩ dX9_printed_24 (fun H locs hz hP hD hS => ?_)
  exact wEnd S hr hlocks hP hD hS (Nat.le_of_ble_eq_true rfl) (Nat.le_of_ble_eq_true rfl) dX9_printed_27 rfl

set_option maxHeartbeats 8000000 in
set_option maxRecDepth 100000 in
theorem m_many_k (l : Launch) (D : va_G) (cI cZ cJ : ClassId) (o : Nat) (q : Nat → Nat) (sz : Nat) (x1 : Int32) (ou_x1_0_10 : ¬ (0 ≤ x1 ∧ x1 ≤ 10)) : Met l yX9_many (uW yX9_many cX9_many 2 (some .int)) ({ frames := 1, cells := 0, slots := 0, locals := 22 }) (va_Pc [.ref o, .int x1] (wS D (tyL cI cZ cJ) (mW o 0 q cI cZ) sz)) (wQi (0) D (mW o 1 q cI cZ) (va_A (mW o 0 q cI cZ) sz)) 0 0 (va_A (mW o 0 q cI cZ) sz) := by
  refine wStart (lv := [(0, .ref o), (1, .int x1)]) (Qc := fun A => wQi (0) D (mW o 1 q cI cZ) A) (by decide) (Nat.le_of_ble_eq_true rfl) rfl ?_
  intro p e s m args below meth c ls A H S hr hlocks hnm hl hK hP hD hS hA
  have hx := S.1
  have hb := S.2.1
  refine lv_aload_n hx hb dX9_many_0 rfl (lv_at hl 0 rfl) ?_
  refine lv_iconst (v := 0) hx hb dX9_many_1 (by decide) ?_
  refine xp (ci := 9) (v := .int 0) S inX9 tyX9 tyX9_ok nmX9 rfl hK hP hD hS mW_0 0 (by decide) kw_6_147 rfl rfl rfl rfl (Nat.le_of_ble_eq_true rfl) dX9_many_2 (fun H locs hP hD hS => ?_)
  have hP : va_P D vwCl (mW o 0 q cI cZ) H := hP
  have hD : va_D A (mW o 0 q cI cZ) := hD
  refine lv_iload_n hx hb dX9_many_5 rfl (lv_at hl 1 rfl) ?_
  refine lv_iconst (v := 0) hx hb dX9_many_6 (by decide) ?_
  refine lv_bipush (v := 10) hx hb dX9_many_7 (by decide) ?_
  refine rdS (As := [.int x1, .int 0, .int 10]) S (c_X9_isIn_78 l D cI cZ cJ o q x1 ou_x1_0_10) ms_X9_isIn kw_7_100 ⟨rfl, rfl⟩ ⟨Nat.le_of_ble_eq_true rfl, Nat.le_of_ble_eq_true rfl⟩ hP hK hl.1 (Nat.le_of_ble_eq_true rfl) ⟨Nat.le_of_ble_eq_true rfl, Nat.le_of_ble_eq_true rfl⟩ dX9_many_9 ?_
  refine lv_if_eq (tgt := 23) hx hb dX9_many_12 (by decide) (fun _ => ?_) (fun c => absurd c (by decide))
  refine lv_aload_n hx hb dX9_many_23 rfl (lv_at hl 0 rfl) ?_
  refine lv_iconst (v := 1) hx hb dX9_many_24 (by decide) ?_
  refine wrV (As := [.int 1]) (ci := 9) S (c_X9_no_0 l D cI cZ cJ o q H.size) mi_X9_no kw_7_103 rfl rfl ⟨Nat.le_of_ble_eq_true rfl, Nat.le_of_ble_eq_true rfl⟩ hP hD hK hS hA mW_0 rfl rfl hl.1 (Nat.le_of_ble_eq_true rfl) ⟨Nat.le_of_ble_eq_true rfl, Nat.le_of_ble_eq_true rfl⟩ dX9_many_25 (fun H locs hz hP hD hS => ?_)
  exact wEnd S hr hlocks hP hD hS (Nat.le_of_ble_eq_true rfl) (Nat.le_of_ble_eq_true rfl) dX9_many_28 rfl

set_option maxHeartbeats 8000000 in
set_option maxRecDepth 100000 in
theorem c_X9_manyNow_0 (l : Launch) (D : va_G) (cI cZ cJ : ClassId) (o : Nat) (q : Nat → Nat) : Met l yX9_manyNow (uW yX9_manyNow cX9_manyNow 4 (some .int)) ({ frames := 0, cells := 0, slots := 0, locals := 0 }) (va_Pc [.ref o, .int 0] (pS D (tyL cI cZ cJ) (mW o 0 q cI cZ))) (QcRead (1)) 0 0 (fun _ => False) := by
  refine rdStart (lv := [(0, .ref o), (1, .int 0)]) (by decide) (Nat.le_of_ble_eq_true rfl) rfl ?_
  intro p e s m args below meth c ls S hr hlocks hl hP hK
  have hx := S.1
  have hb := S.2.1
  refine lv_iconst (v := 0) hx hb dX9_manyNow_0 (by decide) ?_
  refine lv_istore_n (lv' := [(2, .int 0), (0, .ref o), (1, .int 0)]) hx hb dX9_manyNow_1 rfl hl (by decide) rfl (fun ls hl => ?_)
  refine lv_iload_n hx hb dX9_manyNow_2 rfl (lv_at hl 2 rfl) ?_
  refine lv_tableIn (off := 53) (tgt := 56) hx hb dX9_manyNow_3 (by decide) (by decide) (by decide) (by decide) ?_
  refine lv_aload_n hx hb dX9_manyNow_56 rfl (lv_at hl 1 rfl) ?_
  refine xg (ci := 9) S inX9 rfl hK hP mW_0 1 (by decide) mF_1 kw_6_148 rfl dX9_manyNow_57 ?_
  exact rdEnd S hr hlocks dX9_manyNow_60 rfl

set_option maxHeartbeats 8000000 in
set_option maxRecDepth 100000 in
theorem m_many_ok0 (l : Launch) (D : va_G) (cI cZ cJ : ClassId) (o : Nat) (q : Nat → Nat) (sz : Nat) : Met l yX9_many (uW yX9_many cX9_many 2 (some .int)) ({ frames := 1, cells := 0, slots := 0, locals := 23 }) (va_Pc [.ref o, .int 0] (wS D (tyL cI cZ cJ) (mW o 0 q cI cZ) sz)) (wQi (1) D (mW o 0 q cI cZ) (va_A (mW o 0 q cI cZ) sz)) 0 0 (va_A (mW o 0 q cI cZ) sz) := by
  refine wStart (lv := [(0, .ref o), (1, .int 0)]) (Qc := fun A => wQi (1) D (mW o 0 q cI cZ) A) (by decide) (Nat.le_of_ble_eq_true rfl) rfl ?_
  intro p e s m args below meth c ls A H S hr hlocks hnm hl hK hP hD hS hA
  have hx := S.1
  have hb := S.2.1
  refine lv_aload_n hx hb dX9_many_0 rfl (lv_at hl 0 rfl) ?_
  refine lv_iconst (v := 0) hx hb dX9_many_1 (by decide) ?_
  refine xp (ci := 9) (v := .int 0) S inX9 tyX9 tyX9_ok nmX9 rfl hK hP hD hS mW_0 0 (by decide) kw_6_147 rfl rfl rfl rfl (Nat.le_of_ble_eq_true rfl) dX9_many_2 (fun H locs hP hD hS => ?_)
  have hP : va_P D vwCl (mW o 0 q cI cZ) H := hP
  have hD : va_D A (mW o 0 q cI cZ) := hD
  refine lv_iload_n hx hb dX9_many_5 rfl (lv_at hl 1 rfl) ?_
  refine lv_iconst (v := 0) hx hb dX9_many_6 (by decide) ?_
  refine lv_bipush (v := 10) hx hb dX9_many_7 (by decide) ?_
  refine rdS (As := [.int 0, .int 0, .int 10]) S (c_X9_isIn_79 l D cI cZ cJ o q) ms_X9_isIn kw_7_100 ⟨rfl, rfl⟩ ⟨Nat.le_of_ble_eq_true rfl, Nat.le_of_ble_eq_true rfl⟩ hP hK hl.1 (Nat.le_of_ble_eq_true rfl) ⟨Nat.le_of_ble_eq_true rfl, Nat.le_of_ble_eq_true rfl⟩ dX9_many_9 ?_
  refine lv_if_eq (tgt := 23) hx hb dX9_many_12 (by decide) (fun c => absurd c (by decide)) (fun _ => ?_)
  refine lv_aload_n hx hb dX9_many_15 rfl (lv_at hl 0 rfl) ?_
  refine lv_iload_n hx hb dX9_many_16 rfl (lv_at hl 1 rfl) ?_
  refine rdV (As := [.int 0]) (ci := 9) S (c_X9_manyNow_0 l D cI cZ cJ o q) mi_X9_manyNow kw_9_27 ⟨rfl, rfl⟩ ⟨Nat.le_of_ble_eq_true rfl, Nat.le_of_ble_eq_true rfl⟩ hP hK mW_0 rfl rfl hl.1 (Nat.le_of_ble_eq_true rfl) ⟨Nat.le_of_ble_eq_true rfl, Nat.le_of_ble_eq_true rfl⟩ dX9_many_17 ?_
  refine lv_goto (tgt := 28) hx hb dX9_many_20 (by decide) ?_
  exact wEnd S hr hlocks hP hD hS (Nat.le_of_ble_eq_true rfl) (Nat.le_of_ble_eq_true rfl) dX9_many_28 rfl

set_option maxHeartbeats 8000000 in
set_option maxRecDepth 100000 in
theorem c_X9_manyNow_1 (l : Launch) (D : va_G) (cI cZ cJ : ClassId) (o : Nat) (q : Nat → Nat) : Met l yX9_manyNow (uW yX9_manyNow cX9_manyNow 4 (some .int)) ({ frames := 0, cells := 0, slots := 0, locals := 0 }) (va_Pc [.ref o, .int 1] (pS D (tyL cI cZ cJ) (mW o 0 q cI cZ))) (QcRead (0)) 0 0 (fun _ => False) := by
  refine rdStart (lv := [(0, .ref o), (1, .int 1)]) (by decide) (Nat.le_of_ble_eq_true rfl) rfl ?_
  intro p e s m args below meth c ls S hr hlocks hl hP hK
  have hx := S.1
  have hb := S.2.1
  refine lv_iconst (v := 0) hx hb dX9_manyNow_0 (by decide) ?_
  refine lv_istore_n (lv' := [(2, .int 0), (0, .ref o), (1, .int 1)]) hx hb dX9_manyNow_1 rfl hl (by decide) rfl (fun ls hl => ?_)
  refine lv_iload_n hx hb dX9_manyNow_2 rfl (lv_at hl 2 rfl) ?_
  refine lv_tableIn (off := 58) (tgt := 61) hx hb dX9_manyNow_3 (by decide) (by decide) (by decide) (by decide) ?_
  refine lv_aload_n hx hb dX9_manyNow_61 rfl (lv_at hl 1 rfl) ?_
  refine xg (ci := 9) S inX9 rfl hK hP mW_0 13 (by decide) mF_13 kw_6_160 rfl dX9_manyNow_62 ?_
  exact rdEnd S hr hlocks dX9_manyNow_65 rfl

set_option maxHeartbeats 8000000 in
set_option maxRecDepth 100000 in
theorem m_many_ok1 (l : Launch) (D : va_G) (cI cZ cJ : ClassId) (o : Nat) (q : Nat → Nat) (sz : Nat) : Met l yX9_many (uW yX9_many cX9_many 2 (some .int)) ({ frames := 1, cells := 0, slots := 0, locals := 23 }) (va_Pc [.ref o, .int 1] (wS D (tyL cI cZ cJ) (mW o 0 q cI cZ) sz)) (wQi (0) D (mW o 0 q cI cZ) (va_A (mW o 0 q cI cZ) sz)) 0 0 (va_A (mW o 0 q cI cZ) sz) := by
  refine wStart (lv := [(0, .ref o), (1, .int 1)]) (Qc := fun A => wQi (0) D (mW o 0 q cI cZ) A) (by decide) (Nat.le_of_ble_eq_true rfl) rfl ?_
  intro p e s m args below meth c ls A H S hr hlocks hnm hl hK hP hD hS hA
  have hx := S.1
  have hb := S.2.1
  refine lv_aload_n hx hb dX9_many_0 rfl (lv_at hl 0 rfl) ?_
  refine lv_iconst (v := 0) hx hb dX9_many_1 (by decide) ?_
  refine xp (ci := 9) (v := .int 0) S inX9 tyX9 tyX9_ok nmX9 rfl hK hP hD hS mW_0 0 (by decide) kw_6_147 rfl rfl rfl rfl (Nat.le_of_ble_eq_true rfl) dX9_many_2 (fun H locs hP hD hS => ?_)
  have hP : va_P D vwCl (mW o 0 q cI cZ) H := hP
  have hD : va_D A (mW o 0 q cI cZ) := hD
  refine lv_iload_n hx hb dX9_many_5 rfl (lv_at hl 1 rfl) ?_
  refine lv_iconst (v := 0) hx hb dX9_many_6 (by decide) ?_
  refine lv_bipush (v := 10) hx hb dX9_many_7 (by decide) ?_
  refine rdS (As := [.int 1, .int 0, .int 10]) S (c_X9_isIn_80 l D cI cZ cJ o q) ms_X9_isIn kw_7_100 ⟨rfl, rfl⟩ ⟨Nat.le_of_ble_eq_true rfl, Nat.le_of_ble_eq_true rfl⟩ hP hK hl.1 (Nat.le_of_ble_eq_true rfl) ⟨Nat.le_of_ble_eq_true rfl, Nat.le_of_ble_eq_true rfl⟩ dX9_many_9 ?_
  refine lv_if_eq (tgt := 23) hx hb dX9_many_12 (by decide) (fun c => absurd c (by decide)) (fun _ => ?_)
  refine lv_aload_n hx hb dX9_many_15 rfl (lv_at hl 0 rfl) ?_
  refine lv_iload_n hx hb dX9_many_16 rfl (lv_at hl 1 rfl) ?_
  refine rdV (As := [.int 1]) (ci := 9) S (c_X9_manyNow_1 l D cI cZ cJ o q) mi_X9_manyNow kw_9_27 ⟨rfl, rfl⟩ ⟨Nat.le_of_ble_eq_true rfl, Nat.le_of_ble_eq_true rfl⟩ hP hK mW_0 rfl rfl hl.1 (Nat.le_of_ble_eq_true rfl) ⟨Nat.le_of_ble_eq_true rfl, Nat.le_of_ble_eq_true rfl⟩ dX9_many_17 ?_
  refine lv_goto (tgt := 28) hx hb dX9_many_20 (by decide) ?_
  exact wEnd S hr hlocks hP hD hS (Nat.le_of_ble_eq_true rfl) (Nat.le_of_ble_eq_true rfl) dX9_many_28 rfl

set_option maxHeartbeats 8000000 in
set_option maxRecDepth 100000 in
theorem c_X9_manyNow_2 (l : Launch) (D : va_G) (cI cZ cJ : ClassId) (o : Nat) (q : Nat → Nat) : Met l yX9_manyNow (uW yX9_manyNow cX9_manyNow 4 (some .int)) ({ frames := 0, cells := 0, slots := 0, locals := 0 }) (va_Pc [.ref o, .int 2] (pS D (tyL cI cZ cJ) (mW o 0 q cI cZ))) (QcRead (0)) 0 0 (fun _ => False) := by
  refine rdStart (lv := [(0, .ref o), (1, .int 2)]) (by decide) (Nat.le_of_ble_eq_true rfl) rfl ?_
  intro p e s m args below meth c ls S hr hlocks hl hP hK
  have hx := S.1
  have hb := S.2.1
  refine lv_iconst (v := 0) hx hb dX9_manyNow_0 (by decide) ?_
  refine lv_istore_n (lv' := [(2, .int 0), (0, .ref o), (1, .int 2)]) hx hb dX9_manyNow_1 rfl hl (by decide) rfl (fun ls hl => ?_)
  refine lv_iload_n hx hb dX9_manyNow_2 rfl (lv_at hl 2 rfl) ?_
  refine lv_tableIn (off := 63) (tgt := 66) hx hb dX9_manyNow_3 (by decide) (by decide) (by decide) (by decide) ?_
  refine lv_iconst (v := 0) hx hb dX9_manyNow_66 (by decide) ?_
  refine lv_istore_n (lv' := [(3, .int 0), (2, .int 0), (0, .ref o), (1, .int 2)]) hx hb dX9_manyNow_67 rfl hl (by decide) rfl (fun ls hl => ?_)
  refine lv_iload_n hx hb dX9_manyNow_68 rfl (lv_at hl 0 rfl) ?_
  refine lv_aload_n hx hb dX9_manyNow_69 rfl (lv_at hl 2 rfl) ?_
  refine xg (ci := 9) S inX9 rfl hK hP mW_0 13 (by decide) mF_13 kw_6_160 rfl dX9_manyNow_70 ?_
  refine lv_icmp_ge (tgt := 132) hx hb dX9_manyNow_73 (by decide) (fun _ => ?_) (fun c => absurd c (by decide))
  refine lv_iload_n hx hb dX9_manyNow_132 rfl (lv_at hl 1 rfl) ?_
  exact rdEnd S hr hlocks dX9_manyNow_133 rfl

set_option maxHeartbeats 8000000 in
set_option maxRecDepth 100000 in
theorem m_many_ok2 (l : Launch) (D : va_G) (cI cZ cJ : ClassId) (o : Nat) (q : Nat → Nat) (sz : Nat) : Met l yX9_many (uW yX9_many cX9_many 2 (some .int)) ({ frames := 1, cells := 0, slots := 0, locals := 23 }) (va_Pc [.ref o, .int 2] (wS D (tyL cI cZ cJ) (mW o 0 q cI cZ) sz)) (wQi (0) D (mW o 0 q cI cZ) (va_A (mW o 0 q cI cZ) sz)) 0 0 (va_A (mW o 0 q cI cZ) sz) := by
  refine wStart (lv := [(0, .ref o), (1, .int 2)]) (Qc := fun A => wQi (0) D (mW o 0 q cI cZ) A) (by decide) (Nat.le_of_ble_eq_true rfl) rfl ?_
  intro p e s m args below meth c ls A H S hr hlocks hnm hl hK hP hD hS hA
  have hx := S.1
  have hb := S.2.1
  refine lv_aload_n hx hb dX9_many_0 rfl (lv_at hl 0 rfl) ?_
  refine lv_iconst (v := 0) hx hb dX9_many_1 (by decide) ?_
  refine xp (ci := 9) (v := .int 0) S inX9 tyX9 tyX9_ok nmX9 rfl hK hP hD hS mW_0 0 (by decide) kw_6_147 rfl rfl rfl rfl (Nat.le_of_ble_eq_true rfl) dX9_many_2 (fun H locs hP hD hS => ?_)
  have hP : va_P D vwCl (mW o 0 q cI cZ) H := hP
  have hD : va_D A (mW o 0 q cI cZ) := hD
  refine lv_iload_n hx hb dX9_many_5 rfl (lv_at hl 1 rfl) ?_
  refine lv_iconst (v := 0) hx hb dX9_many_6 (by decide) ?_
  refine lv_bipush (v := 10) hx hb dX9_many_7 (by decide) ?_
  refine rdS (As := [.int 2, .int 0, .int 10]) S (c_X9_isIn_81 l D cI cZ cJ o q) ms_X9_isIn kw_7_100 ⟨rfl, rfl⟩ ⟨Nat.le_of_ble_eq_true rfl, Nat.le_of_ble_eq_true rfl⟩ hP hK hl.1 (Nat.le_of_ble_eq_true rfl) ⟨Nat.le_of_ble_eq_true rfl, Nat.le_of_ble_eq_true rfl⟩ dX9_many_9 ?_
  refine lv_if_eq (tgt := 23) hx hb dX9_many_12 (by decide) (fun c => absurd c (by decide)) (fun _ => ?_)
  refine lv_aload_n hx hb dX9_many_15 rfl (lv_at hl 0 rfl) ?_
  refine lv_iload_n hx hb dX9_many_16 rfl (lv_at hl 1 rfl) ?_
  refine rdV (As := [.int 2]) (ci := 9) S (c_X9_manyNow_2 l D cI cZ cJ o q) mi_X9_manyNow kw_9_27 ⟨rfl, rfl⟩ ⟨Nat.le_of_ble_eq_true rfl, Nat.le_of_ble_eq_true rfl⟩ hP hK mW_0 rfl rfl hl.1 (Nat.le_of_ble_eq_true rfl) ⟨Nat.le_of_ble_eq_true rfl, Nat.le_of_ble_eq_true rfl⟩ dX9_many_17 ?_
  refine lv_goto (tgt := 28) hx hb dX9_many_20 (by decide) ?_
  exact wEnd S hr hlocks hP hD hS (Nat.le_of_ble_eq_true rfl) (Nat.le_of_ble_eq_true rfl) dX9_many_28 rfl

set_option maxHeartbeats 8000000 in
set_option maxRecDepth 100000 in
theorem c_X9_manyNow_3 (l : Launch) (D : va_G) (cI cZ cJ : ClassId) (o : Nat) (q : Nat → Nat) (sz : Nat) : Met l yX9_manyNow (uW yX9_manyNow cX9_manyNow 4 (some .int)) ({ frames := 2, cells := 1, slots := 111, locals := 49 }) (va_Pc [.ref o, .int 3] (wS D (tyL cI cZ cJ) (mW o 0 q cI cZ) sz)) (wQi (1) D (mW o 0 q cI cZ) (va_A (mW o 0 q cI cZ) sz)) 1 111 (va_A (mW o 0 q cI cZ) sz) := by
  refine wStart (lv := [(0, .ref o), (1, .int 3)]) (Qc := fun A => wQi (1) D (mW o 0 q cI cZ) A) (by decide) (Nat.le_of_ble_eq_true rfl) rfl ?_
  intro p e s m args below meth c ls A H S hr hlocks hnm hl hK hP hD hS hA
  have hx := S.1
  have hb := S.2.1
  refine lv_iconst (v := 0) hx hb dX9_manyNow_0 (by decide) ?_
  refine lv_istore_n (lv' := [(2, .int 0), (0, .ref o), (1, .int 3)]) hx hb dX9_manyNow_1 rfl hl (by decide) rfl (fun ls hl => ?_)
  refine lv_iload_n hx hb dX9_manyNow_2 rfl (lv_at hl 2 rfl) ?_
  refine lv_tableIn (off := 131) (tgt := 134) hx hb dX9_manyNow_3 (by decide) (by decide) (by decide) (by decide) ?_
  refine lv_aload_n hx hb dX9_manyNow_134 rfl (lv_at hl 1 rfl) ?_
  refine wrV (As := []) (ci := 9) S (c_X9_faults_0 l D cI cZ cJ o q H.size) mi_X9_faults kw_7_229 rfl rfl ⟨Nat.le_of_ble_eq_true rfl, Nat.le_of_ble_eq_true rfl⟩ hP hD hK hS hA mW_0 rfl rfl hl.1 (Nat.le_of_ble_eq_true rfl) ⟨Nat.le_of_ble_eq_true rfl, Nat.le_of_ble_eq_true rfl⟩ dX9_manyNow_135 (fun H locs hz hP hD hS => ?_)
  exact wEnd S hr hlocks hP hD hS (Nat.le_of_ble_eq_true rfl) (Nat.le_of_ble_eq_true rfl) dX9_manyNow_138 rfl

set_option maxHeartbeats 8000000 in
set_option maxRecDepth 100000 in
theorem m_many_ok3 (l : Launch) (D : va_G) (cI cZ cJ : ClassId) (o : Nat) (q : Nat → Nat) (sz : Nat) : Met l yX9_many (uW yX9_many cX9_many 2 (some .int)) ({ frames := 3, cells := 1, slots := 111, locals := 72 }) (va_Pc [.ref o, .int 3] (wS D (tyL cI cZ cJ) (mW o 0 q cI cZ) sz)) (wQi (1) D (mW o 0 q cI cZ) (va_A (mW o 0 q cI cZ) sz)) 1 111 (va_A (mW o 0 q cI cZ) sz) := by
  refine wStart (lv := [(0, .ref o), (1, .int 3)]) (Qc := fun A => wQi (1) D (mW o 0 q cI cZ) A) (by decide) (Nat.le_of_ble_eq_true rfl) rfl ?_
  intro p e s m args below meth c ls A H S hr hlocks hnm hl hK hP hD hS hA
  have hx := S.1
  have hb := S.2.1
  refine lv_aload_n hx hb dX9_many_0 rfl (lv_at hl 0 rfl) ?_
  refine lv_iconst (v := 0) hx hb dX9_many_1 (by decide) ?_
  refine xp (ci := 9) (v := .int 0) S inX9 tyX9 tyX9_ok nmX9 rfl hK hP hD hS mW_0 0 (by decide) kw_6_147 rfl rfl rfl rfl (Nat.le_of_ble_eq_true rfl) dX9_many_2 (fun H locs hP hD hS => ?_)
  have hP : va_P D vwCl (mW o 0 q cI cZ) H := hP
  have hD : va_D A (mW o 0 q cI cZ) := hD
  refine lv_iload_n hx hb dX9_many_5 rfl (lv_at hl 1 rfl) ?_
  refine lv_iconst (v := 0) hx hb dX9_many_6 (by decide) ?_
  refine lv_bipush (v := 10) hx hb dX9_many_7 (by decide) ?_
  refine rdS (As := [.int 3, .int 0, .int 10]) S (c_X9_isIn_82 l D cI cZ cJ o q) ms_X9_isIn kw_7_100 ⟨rfl, rfl⟩ ⟨Nat.le_of_ble_eq_true rfl, Nat.le_of_ble_eq_true rfl⟩ hP hK hl.1 (Nat.le_of_ble_eq_true rfl) ⟨Nat.le_of_ble_eq_true rfl, Nat.le_of_ble_eq_true rfl⟩ dX9_many_9 ?_
  refine lv_if_eq (tgt := 23) hx hb dX9_many_12 (by decide) (fun c => absurd c (by decide)) (fun _ => ?_)
  refine lv_aload_n hx hb dX9_many_15 rfl (lv_at hl 0 rfl) ?_
  refine lv_iload_n hx hb dX9_many_16 rfl (lv_at hl 1 rfl) ?_
  refine wrV (As := [.int 3]) (ci := 9) S (c_X9_manyNow_3 l D cI cZ cJ o q H.size) mi_X9_manyNow kw_9_27 rfl rfl ⟨Nat.le_of_ble_eq_true rfl, Nat.le_of_ble_eq_true rfl⟩ hP hD hK hS hA mW_0 rfl rfl hl.1 (Nat.le_of_ble_eq_true rfl) ⟨Nat.le_of_ble_eq_true rfl, Nat.le_of_ble_eq_true rfl⟩ dX9_many_17 (fun H locs hz hP hD hS => ?_)
  refine lv_goto (tgt := 28) hx hb dX9_many_20 (by decide) ?_
  exact wEnd S hr hlocks hP hD hS (Nat.le_of_ble_eq_true rfl) (Nat.le_of_ble_eq_true rfl) dX9_many_28 rfl

set_option maxHeartbeats 8000000 in
set_option maxRecDepth 100000 in
theorem c_X9_manyNow_4 (l : Launch) (D : va_G) (cI cZ cJ : ClassId) (o : Nat) (q : Nat → Nat) : Met l yX9_manyNow (uW yX9_manyNow cX9_manyNow 4 (some .int)) ({ frames := 0, cells := 0, slots := 0, locals := 0 }) (va_Pc [.ref o, .int 4] (pS D (tyL cI cZ cJ) (mW o 0 q cI cZ))) (QcRead (0)) 0 0 (fun _ => False) := by
  refine rdStart (lv := [(0, .ref o), (1, .int 4)]) (by decide) (Nat.le_of_ble_eq_true rfl) rfl ?_
  intro p e s m args below meth c ls S hr hlocks hl hP hK
  have hx := S.1
  have hb := S.2.1
  refine lv_iconst (v := 0) hx hb dX9_manyNow_0 (by decide) ?_
  refine lv_istore_n (lv' := [(2, .int 0), (0, .ref o), (1, .int 4)]) hx hb dX9_manyNow_1 rfl hl (by decide) rfl (fun ls hl => ?_)
  refine lv_iload_n hx hb dX9_manyNow_2 rfl (lv_at hl 2 rfl) ?_
  refine lv_tableIn (off := 63) (tgt := 66) hx hb dX9_manyNow_3 (by decide) (by decide) (by decide) (by decide) ?_
  refine lv_iconst (v := 0) hx hb dX9_manyNow_66 (by decide) ?_
  refine lv_istore_n (lv' := [(3, .int 0), (2, .int 0), (0, .ref o), (1, .int 4)]) hx hb dX9_manyNow_67 rfl hl (by decide) rfl (fun ls hl => ?_)
  refine lv_iload_n hx hb dX9_manyNow_68 rfl (lv_at hl 0 rfl) ?_
  refine lv_aload_n hx hb dX9_manyNow_69 rfl (lv_at hl 2 rfl) ?_
  refine xg (ci := 9) S inX9 rfl hK hP mW_0 13 (by decide) mF_13 kw_6_160 rfl dX9_manyNow_70 ?_
  refine lv_icmp_ge (tgt := 132) hx hb dX9_manyNow_73 (by decide) (fun _ => ?_) (fun c => absurd c (by decide))
  refine lv_iload_n hx hb dX9_manyNow_132 rfl (lv_at hl 1 rfl) ?_
  exact rdEnd S hr hlocks dX9_manyNow_133 rfl

set_option maxHeartbeats 8000000 in
set_option maxRecDepth 100000 in
theorem m_many_ok4 (l : Launch) (D : va_G) (cI cZ cJ : ClassId) (o : Nat) (q : Nat → Nat) (sz : Nat) : Met l yX9_many (uW yX9_many cX9_many 2 (some .int)) ({ frames := 1, cells := 0, slots := 0, locals := 23 }) (va_Pc [.ref o, .int 4] (wS D (tyL cI cZ cJ) (mW o 0 q cI cZ) sz)) (wQi (0) D (mW o 0 q cI cZ) (va_A (mW o 0 q cI cZ) sz)) 0 0 (va_A (mW o 0 q cI cZ) sz) := by
  refine wStart (lv := [(0, .ref o), (1, .int 4)]) (Qc := fun A => wQi (0) D (mW o 0 q cI cZ) A) (by decide) (Nat.le_of_ble_eq_true rfl) rfl ?_
  intro p e s m args below meth c ls A H S hr hlocks hnm hl hK hP hD hS hA
  have hx := S.1
  have hb := S.2.1
  refine lv_aload_n hx hb dX9_many_0 rfl (lv_at hl 0 rfl) ?_
  refine lv_iconst (v := 0) hx hb dX9_many_1 (by decide) ?_
  refine xp (ci := 9) (v := .int 0) S inX9 tyX9 tyX9_ok nmX9 rfl hK hP hD hS mW_0 0 (by decide) kw_6_147 rfl rfl rfl rfl (Nat.le_of_ble_eq_true rfl) dX9_many_2 (fun H locs hP hD hS => ?_)
  have hP : va_P D vwCl (mW o 0 q cI cZ) H := hP
  have hD : va_D A (mW o 0 q cI cZ) := hD
  refine lv_iload_n hx hb dX9_many_5 rfl (lv_at hl 1 rfl) ?_
  refine lv_iconst (v := 0) hx hb dX9_many_6 (by decide) ?_
  refine lv_bipush (v := 10) hx hb dX9_many_7 (by decide) ?_
  refine rdS (As := [.int 4, .int 0, .int 10]) S (c_X9_isIn_83 l D cI cZ cJ o q) ms_X9_isIn kw_7_100 ⟨rfl, rfl⟩ ⟨Nat.le_of_ble_eq_true rfl, Nat.le_of_ble_eq_true rfl⟩ hP hK hl.1 (Nat.le_of_ble_eq_true rfl) ⟨Nat.le_of_ble_eq_true rfl, Nat.le_of_ble_eq_true rfl⟩ dX9_many_9 ?_
  refine lv_if_eq (tgt := 23) hx hb dX9_many_12 (by decide) (fun c => absurd c (by decide)) (fun _ => ?_)
  refine lv_aload_n hx hb dX9_many_15 rfl (lv_at hl 0 rfl) ?_
  refine lv_iload_n hx hb dX9_many_16 rfl (lv_at hl 1 rfl) ?_
  refine rdV (As := [.int 4]) (ci := 9) S (c_X9_manyNow_4 l D cI cZ cJ o q) mi_X9_manyNow kw_9_27 ⟨rfl, rfl⟩ ⟨Nat.le_of_ble_eq_true rfl, Nat.le_of_ble_eq_true rfl⟩ hP hK mW_0 rfl rfl hl.1 (Nat.le_of_ble_eq_true rfl) ⟨Nat.le_of_ble_eq_true rfl, Nat.le_of_ble_eq_true rfl⟩ dX9_many_17 ?_
  refine lv_goto (tgt := 28) hx hb dX9_many_20 (by decide) ?_
  exact wEnd S hr hlocks hP hD hS (Nat.le_of_ble_eq_true rfl) (Nat.le_of_ble_eq_true rfl) dX9_many_28 rfl

set_option maxHeartbeats 8000000 in
set_option maxRecDepth 100000 in
theorem c_X9_manyNow_5 (l : Launch) (D : va_G) (cI cZ cJ : ClassId) (o : Nat) (q : Nat → Nat) : Met l yX9_manyNow (uW yX9_manyNow cX9_manyNow 4 (some .int)) ({ frames := 0, cells := 0, slots := 0, locals := 0 }) (va_Pc [.ref o, .int 5] (pS D (tyL cI cZ cJ) (mW o 0 q cI cZ))) (QcRead (0)) 0 0 (fun _ => False) := by
  refine rdStart (lv := [(0, .ref o), (1, .int 5)]) (by decide) (Nat.le_of_ble_eq_true rfl) rfl ?_
  intro p e s m args below meth c ls S hr hlocks hl hP hK
  have hx := S.1
  have hb := S.2.1
  refine lv_iconst (v := 0) hx hb dX9_manyNow_0 (by decide) ?_
  refine lv_istore_n (lv' := [(2, .int 0), (0, .ref o), (1, .int 5)]) hx hb dX9_manyNow_1 rfl hl (by decide) rfl (fun ls hl => ?_)
  refine lv_iload_n hx hb dX9_manyNow_2 rfl (lv_at hl 2 rfl) ?_
  refine lv_tableIn (off := 63) (tgt := 66) hx hb dX9_manyNow_3 (by decide) (by decide) (by decide) (by decide) ?_
  refine lv_iconst (v := 0) hx hb dX9_manyNow_66 (by decide) ?_
  refine lv_istore_n (lv' := [(3, .int 0), (2, .int 0), (0, .ref o), (1, .int 5)]) hx hb dX9_manyNow_67 rfl hl (by decide) rfl (fun ls hl => ?_)
  refine lv_iload_n hx hb dX9_manyNow_68 rfl (lv_at hl 0 rfl) ?_
  refine lv_aload_n hx hb dX9_manyNow_69 rfl (lv_at hl 2 rfl) ?_
  refine xg (ci := 9) S inX9 rfl hK hP mW_0 13 (by decide) mF_13 kw_6_160 rfl dX9_manyNow_70 ?_
  refine lv_icmp_ge (tgt := 132) hx hb dX9_manyNow_73 (by decide) (fun _ => ?_) (fun c => absurd c (by decide))
  refine lv_iload_n hx hb dX9_manyNow_132 rfl (lv_at hl 1 rfl) ?_
  exact rdEnd S hr hlocks dX9_manyNow_133 rfl

set_option maxHeartbeats 8000000 in
set_option maxRecDepth 100000 in
theorem m_many_ok5 (l : Launch) (D : va_G) (cI cZ cJ : ClassId) (o : Nat) (q : Nat → Nat) (sz : Nat) : Met l yX9_many (uW yX9_many cX9_many 2 (some .int)) ({ frames := 1, cells := 0, slots := 0, locals := 23 }) (va_Pc [.ref o, .int 5] (wS D (tyL cI cZ cJ) (mW o 0 q cI cZ) sz)) (wQi (0) D (mW o 0 q cI cZ) (va_A (mW o 0 q cI cZ) sz)) 0 0 (va_A (mW o 0 q cI cZ) sz) := by
  refine wStart (lv := [(0, .ref o), (1, .int 5)]) (Qc := fun A => wQi (0) D (mW o 0 q cI cZ) A) (by decide) (Nat.le_of_ble_eq_true rfl) rfl ?_
  intro p e s m args below meth c ls A H S hr hlocks hnm hl hK hP hD hS hA
  have hx := S.1
  have hb := S.2.1
  refine lv_aload_n hx hb dX9_many_0 rfl (lv_at hl 0 rfl) ?_
  refine lv_iconst (v := 0) hx hb dX9_many_1 (by decide) ?_
  refine xp (ci := 9) (v := .int 0) S inX9 tyX9 tyX9_ok nmX9 rfl hK hP hD hS mW_0 0 (by decide) kw_6_147 rfl rfl rfl rfl (Nat.le_of_ble_eq_true rfl) dX9_many_2 (fun H locs hP hD hS => ?_)
  have hP : va_P D vwCl (mW o 0 q cI cZ) H := hP
  have hD : va_D A (mW o 0 q cI cZ) := hD
  refine lv_iload_n hx hb dX9_many_5 rfl (lv_at hl 1 rfl) ?_
  refine lv_iconst (v := 0) hx hb dX9_many_6 (by decide) ?_
  refine lv_bipush (v := 10) hx hb dX9_many_7 (by decide) ?_
  refine rdS (As := [.int 5, .int 0, .int 10]) S (c_X9_isIn_84 l D cI cZ cJ o q) ms_X9_isIn kw_7_100 ⟨rfl, rfl⟩ ⟨Nat.le_of_ble_eq_true rfl, Nat.le_of_ble_eq_true rfl⟩ hP hK hl.1 (Nat.le_of_ble_eq_true rfl) ⟨Nat.le_of_ble_eq_true rfl, Nat.le_of_ble_eq_true rfl⟩ dX9_many_9 ?_
  refine lv_if_eq (tgt := 23) hx hb dX9_many_12 (by decide) (fun c => absurd c (by decide)) (fun _ => ?_)
  refine lv_aload_n hx hb dX9_many_15 rfl (lv_at hl 0 rfl) ?_
  refine lv_iload_n hx hb dX9_many_16 rfl (lv_at hl 1 rfl) ?_
  refine rdV (As := [.int 5]) (ci := 9) S (c_X9_manyNow_5 l D cI cZ cJ o q) mi_X9_manyNow kw_9_27 ⟨rfl, rfl⟩ ⟨Nat.le_of_ble_eq_true rfl, Nat.le_of_ble_eq_true rfl⟩ hP hK mW_0 rfl rfl hl.1 (Nat.le_of_ble_eq_true rfl) ⟨Nat.le_of_ble_eq_true rfl, Nat.le_of_ble_eq_true rfl⟩ dX9_many_17 ?_
  refine lv_goto (tgt := 28) hx hb dX9_many_20 (by decide) ?_
  exact wEnd S hr hlocks hP hD hS (Nat.le_of_ble_eq_true rfl) (Nat.le_of_ble_eq_true rfl) dX9_many_28 rfl

set_option maxHeartbeats 8000000 in
set_option maxRecDepth 100000 in
theorem c_X9_bits_0 (l : Launch) (D : va_G) (cI cZ cJ : ClassId) (o : Nat) (q : Nat → Nat) : Met l yX9_bits (uW yX9_bits cX9_bits 3 (some .int)) ({ frames := 0, cells := 0, slots := 0, locals := 0 }) (va_Pc [.int 0] (pS D (tyL cI cZ cJ) (mW o 0 q cI cZ))) (QcRead (0)) 0 0 (fun _ => False) := by
  refine rdStart (lv := [(0, .int 0)]) (by decide) (Nat.le_of_ble_eq_true rfl) rfl ?_
  intro p e s m args below meth c ls S hr hlocks hl hP hK
  have hx := S.1
  have hb := S.2.1
  refine lv_iconst (v := 0) hx hb dX9_bits_0 (by decide) ?_
  refine lv_istore_n (lv' := [(1, .int 0), (0, .int 0)]) hx hb dX9_bits_1 rfl hl (by decide) rfl (fun ls hl => ?_)
  refine lv_iload_n hx hb dX9_bits_2 rfl (lv_at hl 1 rfl) ?_
  refine lv_istore_n (lv' := [(2, .int 0), (1, .int 0), (0, .int 0)]) hx hb dX9_bits_3 rfl hl (by decide) rfl (fun ls hl => ?_)
  refine lv_iload_n hx hb dX9_bits_4 rfl (lv_at hl 0 rfl) ?_
  refine lv_if_le (tgt := 21) hx hb dX9_bits_5 (by decide) (fun _ => ?_) (fun c => absurd c (by decide))
  refine lv_iload_n hx hb dX9_bits_21 rfl (lv_at hl 1 rfl) ?_
  exact rdEnd S hr hlocks dX9_bits_22 rfl

set_option maxHeartbeats 8000000 in
set_option maxRecDepth 100000 in
theorem c_X9_manyNow_6 (l : Launch) (D : va_G) (cI cZ cJ : ClassId) (o : Nat) (q : Nat → Nat) : Met l yX9_manyNow (uW yX9_manyNow cX9_manyNow 4 (some .int)) ({ frames := 1, cells := 0, slots := 0, locals := 23 }) (va_Pc [.ref o, .int 6] (pS D (tyL cI cZ cJ) (mW o 0 q cI cZ))) (QcRead (0)) 0 0 (fun _ => False) := by
  refine rdStart (lv := [(0, .ref o), (1, .int 6)]) (by decide) (Nat.le_of_ble_eq_true rfl) rfl ?_
  intro p e s m args below meth c ls S hr hlocks hl hP hK
  have hx := S.1
  have hb := S.2.1
  refine lv_iconst (v := 0) hx hb dX9_manyNow_0 (by decide) ?_
  refine lv_istore_n (lv' := [(2, .int 0), (0, .ref o), (1, .int 6)]) hx hb dX9_manyNow_1 rfl hl (by decide) rfl (fun ls hl => ?_)
  refine lv_iload_n hx hb dX9_manyNow_2 rfl (lv_at hl 2 rfl) ?_
  refine lv_tableIn (off := 136) (tgt := 139) hx hb dX9_manyNow_3 (by decide) (by decide) (by decide) (by decide) ?_
  refine lv_iconst (v := 0) hx hb dX9_manyNow_139 (by decide) ?_
  refine lv_istore_n (lv' := [(3, .int 0), (2, .int 0), (0, .ref o), (1, .int 6)]) hx hb dX9_manyNow_140 rfl hl (by decide) rfl (fun ls hl => ?_)
  refine lv_iload_n hx hb dX9_manyNow_141 rfl (lv_at hl 0 rfl) ?_
  refine lv_aload_n hx hb dX9_manyNow_142 rfl (lv_at hl 2 rfl) ?_
  refine xg (ci := 9) S inX9 rfl hK hP mW_0 1 (by decide) mF_1 kw_6_148 rfl dX9_manyNow_143 ?_
  refine lv_icmp_ge (tgt := 166) hx hb dX9_manyNow_146 (by decide) (fun c => absurd c (by decide)) (fun _ => ?_)
  refine lv_iload_n hx hb dX9_manyNow_149 rfl (lv_at hl 1 rfl) ?_
  refine lv_aload_n hx hb dX9_manyNow_150 rfl (lv_at hl 2 rfl) ?_
  refine lv_iload_n hx hb dX9_manyNow_151 rfl (lv_at hl 0 rfl) ?_
  refine rdV (As := [.int 0]) (ci := 9) S (c_X9_escapes_0 l D cI cZ cJ o q) mi_X9_escapes kw_7_206 ⟨rfl, rfl⟩ ⟨Nat.le_of_ble_eq_true rfl, Nat.le_of_ble_eq_true rfl⟩ hP hK mW_0 rfl rfl hl.1 (Nat.le_of_ble_eq_true rfl) ⟨Nat.le_of_ble_eq_true rfl, Nat.le_of_ble_eq_true rfl⟩ dX9_manyNow_152 ?_
  refine rdS (As := [.int 0]) S (c_X9_bits_0 l D cI cZ cJ o q) ms_X9_bits kw_8_147 ⟨rfl, rfl⟩ ⟨Nat.le_of_ble_eq_true rfl, Nat.le_of_ble_eq_true rfl⟩ hP hK hl.1 (Nat.le_of_ble_eq_true rfl) ⟨Nat.le_of_ble_eq_true rfl, Nat.le_of_ble_eq_true rfl⟩ dX9_manyNow_155 ?_
  refine xiadd (v := 0) S dX9_manyNow_158 (by decide) ?_
  refine lv_istore_n (lv' := [(2, .int 0), (3, .int 0), (0, .ref o), (1, .int 6)]) hx hb dX9_manyNow_159 rfl hl (by decide) rfl (fun ls hl => ?_)
  refine lv_iinc (v := 1) (lv' := [(3, .int 1), (2, .int 0), (0, .ref o), (1, .int 6)]) hx hb dX9_manyNow_160 hl (k := 1) rfl (by decide) (by decide) rfl (fun ls hl => ?_)
  refine lv_goto (tgt := 141) hx hb dX9_manyNow_163 (by decide) ?_
  refine lv_iload_n hx hb dX9_manyNow_141 rfl (lv_at hl 0 rfl) ?_
  refine lv_aload_n hx hb dX9_manyNow_142 rfl (lv_at hl 2 rfl) ?_
  refine xg (ci := 9) S inX9 rfl hK hP mW_0 1 (by decide) mF_1 kw_6_148 rfl dX9_manyNow_143 ?_
  refine lv_icmp_ge (tgt := 166) hx hb dX9_manyNow_146 (by decide) (fun _ => ?_) (fun c => absurd c (by decide))
  refine lv_iload_n hx hb dX9_manyNow_166 rfl (lv_at hl 1 rfl) ?_
  exact rdEnd S hr hlocks dX9_manyNow_167 rfl

set_option maxHeartbeats 8000000 in
set_option maxRecDepth 100000 in
theorem m_many_ok6 (l : Launch) (D : va_G) (cI cZ cJ : ClassId) (o : Nat) (q : Nat → Nat) (sz : Nat) : Met l yX9_many (uW yX9_many cX9_many 2 (some .int)) ({ frames := 2, cells := 0, slots := 0, locals := 46 }) (va_Pc [.ref o, .int 6] (wS D (tyL cI cZ cJ) (mW o 0 q cI cZ) sz)) (wQi (0) D (mW o 0 q cI cZ) (va_A (mW o 0 q cI cZ) sz)) 0 0 (va_A (mW o 0 q cI cZ) sz) := by
  refine wStart (lv := [(0, .ref o), (1, .int 6)]) (Qc := fun A => wQi (0) D (mW o 0 q cI cZ) A) (by decide) (Nat.le_of_ble_eq_true rfl) rfl ?_
  intro p e s m args below meth c ls A H S hr hlocks hnm hl hK hP hD hS hA
  have hx := S.1
  have hb := S.2.1
  refine lv_aload_n hx hb dX9_many_0 rfl (lv_at hl 0 rfl) ?_
  refine lv_iconst (v := 0) hx hb dX9_many_1 (by decide) ?_
  refine xp (ci := 9) (v := .int 0) S inX9 tyX9 tyX9_ok nmX9 rfl hK hP hD hS mW_0 0 (by decide) kw_6_147 rfl rfl rfl rfl (Nat.le_of_ble_eq_true rfl) dX9_many_2 (fun H locs hP hD hS => ?_)
  have hP : va_P D vwCl (mW o 0 q cI cZ) H := hP
  have hD : va_D A (mW o 0 q cI cZ) := hD
  refine lv_iload_n hx hb dX9_many_5 rfl (lv_at hl 1 rfl) ?_
  refine lv_iconst (v := 0) hx hb dX9_many_6 (by decide) ?_
  refine lv_bipush (v := 10) hx hb dX9_many_7 (by decide) ?_
  refine rdS (As := [.int 6, .int 0, .int 10]) S (c_X9_isIn_85 l D cI cZ cJ o q) ms_X9_isIn kw_7_100 ⟨rfl, rfl⟩ ⟨Nat.le_of_ble_eq_true rfl, Nat.le_of_ble_eq_true rfl⟩ hP hK hl.1 (Nat.le_of_ble_eq_true rfl) ⟨Nat.le_of_ble_eq_true rfl, Nat.le_of_ble_eq_true rfl⟩ dX9_many_9 ?_
  refine lv_if_eq (tgt := 23) hx hb dX9_many_12 (by decide) (fun c => absurd c (by decide)) (fun _ => ?_)
  refine lv_aload_n hx hb dX9_many_15 rfl (lv_at hl 0 rfl) ?_
  refine lv_iload_n hx hb dX9_many_16 rfl (lv_at hl 1 rfl) ?_
  refine rdV (As := [.int 6]) (ci := 9) S (c_X9_manyNow_6 l D cI cZ cJ o q) mi_X9_manyNow kw_9_27 ⟨rfl, rfl⟩ ⟨Nat.le_of_ble_eq_true rfl, Nat.le_of_ble_eq_true rfl⟩ hP hK mW_0 rfl rfl hl.1 (Nat.le_of_ble_eq_true rfl) ⟨Nat.le_of_ble_eq_true rfl, Nat.le_of_ble_eq_true rfl⟩ dX9_many_17 ?_
  refine lv_goto (tgt := 28) hx hb dX9_many_20 (by decide) ?_
  exact wEnd S hr hlocks hP hD hS (Nat.le_of_ble_eq_true rfl) (Nat.le_of_ble_eq_true rfl) dX9_many_28 rfl

set_option maxHeartbeats 8000000 in
set_option maxRecDepth 100000 in
theorem c_X9_manyNow_7 (l : Launch) (D : va_G) (cI cZ cJ : ClassId) (o : Nat) (q : Nat → Nat) : Met l yX9_manyNow (uW yX9_manyNow cX9_manyNow 4 (some .int)) ({ frames := 0, cells := 0, slots := 0, locals := 0 }) (va_Pc [.ref o, .int 7] (pS D (tyL cI cZ cJ) (mW o 0 q cI cZ))) (QcRead (7)) 0 0 (fun _ => False) := by
  refine rdStart (lv := [(0, .ref o), (1, .int 7)]) (by decide) (Nat.le_of_ble_eq_true rfl) rfl ?_
  intro p e s m args below meth c ls S hr hlocks hl hP hK
  have hx := S.1
  have hb := S.2.1
  refine lv_iconst (v := 0) hx hb dX9_manyNow_0 (by decide) ?_
  refine lv_istore_n (lv' := [(2, .int 0), (0, .ref o), (1, .int 7)]) hx hb dX9_manyNow_1 rfl hl (by decide) rfl (fun ls hl => ?_)
  refine lv_iload_n hx hb dX9_manyNow_2 rfl (lv_at hl 2 rfl) ?_
  refine lv_tableIn (off := 165) (tgt := 168) hx hb dX9_manyNow_3 (by decide) (by decide) (by decide) (by decide) ?_
  refine lv_aload_n hx hb dX9_manyNow_168 rfl (lv_at hl 1 rfl) ?_
  refine xg (ci := 9) S inX9 rfl hK hP mW_0 20 (by decide) mF_20 kw_6_167 rfl dX9_manyNow_169 ?_
  exact rdEnd S hr hlocks dX9_manyNow_172 rfl

set_option maxHeartbeats 8000000 in
set_option maxRecDepth 100000 in
theorem m_many_ok7 (l : Launch) (D : va_G) (cI cZ cJ : ClassId) (o : Nat) (q : Nat → Nat) (sz : Nat) : Met l yX9_many (uW yX9_many cX9_many 2 (some .int)) ({ frames := 1, cells := 0, slots := 0, locals := 23 }) (va_Pc [.ref o, .int 7] (wS D (tyL cI cZ cJ) (mW o 0 q cI cZ) sz)) (wQi (7) D (mW o 0 q cI cZ) (va_A (mW o 0 q cI cZ) sz)) 0 0 (va_A (mW o 0 q cI cZ) sz) := by
  refine wStart (lv := [(0, .ref o), (1, .int 7)]) (Qc := fun A => wQi (7) D (mW o 0 q cI cZ) A) (by decide) (Nat.le_of_ble_eq_true rfl) rfl ?_
  intro p e s m args below meth c ls A H S hr hlocks hnm hl hK hP hD hS hA
  have hx := S.1
  have hb := S.2.1
  refine lv_aload_n hx hb dX9_many_0 rfl (lv_at hl 0 rfl) ?_
  refine lv_iconst (v := 0) hx hb dX9_many_1 (by decide) ?_
  refine xp (ci := 9) (v := .int 0) S inX9 tyX9 tyX9_ok nmX9 rfl hK hP hD hS mW_0 0 (by decide) kw_6_147 rfl rfl rfl rfl (Nat.le_of_ble_eq_true rfl) dX9_many_2 (fun H locs hP hD hS => ?_)
  have hP : va_P D vwCl (mW o 0 q cI cZ) H := hP
  have hD : va_D A (mW o 0 q cI cZ) := hD
  refine lv_iload_n hx hb dX9_many_5 rfl (lv_at hl 1 rfl) ?_
  refine lv_iconst (v := 0) hx hb dX9_many_6 (by decide) ?_
  refine lv_bipush (v := 10) hx hb dX9_many_7 (by decide) ?_
  refine rdS (As := [.int 7, .int 0, .int 10]) S (c_X9_isIn_86 l D cI cZ cJ o q) ms_X9_isIn kw_7_100 ⟨rfl, rfl⟩ ⟨Nat.le_of_ble_eq_true rfl, Nat.le_of_ble_eq_true rfl⟩ hP hK hl.1 (Nat.le_of_ble_eq_true rfl) ⟨Nat.le_of_ble_eq_true rfl, Nat.le_of_ble_eq_true rfl⟩ dX9_many_9 ?_
  refine lv_if_eq (tgt := 23) hx hb dX9_many_12 (by decide) (fun c => absurd c (by decide)) (fun _ => ?_)
  refine lv_aload_n hx hb dX9_many_15 rfl (lv_at hl 0 rfl) ?_
  refine lv_iload_n hx hb dX9_many_16 rfl (lv_at hl 1 rfl) ?_
  refine rdV (As := [.int 7]) (ci := 9) S (c_X9_manyNow_7 l D cI cZ cJ o q) mi_X9_manyNow kw_9_27 ⟨rfl, rfl⟩ ⟨Nat.le_of_ble_eq_true rfl, Nat.le_of_ble_eq_true rfl⟩ hP hK mW_0 rfl rfl hl.1 (Nat.le_of_ble_eq_true rfl) ⟨Nat.le_of_ble_eq_true rfl, Nat.le_of_ble_eq_true rfl⟩ dX9_many_17 ?_
  refine lv_goto (tgt := 28) hx hb dX9_many_20 (by decide) ?_
  exact wEnd S hr hlocks hP hD hS (Nat.le_of_ble_eq_true rfl) (Nat.le_of_ble_eq_true rfl) dX9_many_28 rfl

set_option maxHeartbeats 8000000 in
set_option maxRecDepth 100000 in
theorem c_X9_manyNow_8 (l : Launch) (D : va_G) (cI cZ cJ : ClassId) (o : Nat) (q : Nat → Nat) : Met l yX9_manyNow (uW yX9_manyNow cX9_manyNow 4 (some .int)) ({ frames := 0, cells := 0, slots := 0, locals := 0 }) (va_Pc [.ref o, .int 8] (pS D (tyL cI cZ cJ) (mW o 0 q cI cZ))) (QcRead (1000)) 0 0 (fun _ => False) := by
  refine rdStart (lv := [(0, .ref o), (1, .int 8)]) (by decide) (Nat.le_of_ble_eq_true rfl) rfl ?_
  intro p e s m args below meth c ls S hr hlocks hl hP hK
  have hx := S.1
  have hb := S.2.1
  refine lv_iconst (v := 0) hx hb dX9_manyNow_0 (by decide) ?_
  refine lv_istore_n (lv' := [(2, .int 0), (0, .ref o), (1, .int 8)]) hx hb dX9_manyNow_1 rfl hl (by decide) rfl (fun ls hl => ?_)
  refine lv_iload_n hx hb dX9_manyNow_2 rfl (lv_at hl 2 rfl) ?_
  refine lv_tableIn (off := 170) (tgt := 173) hx hb dX9_manyNow_3 (by decide) (by decide) (by decide) (by decide) ?_
  refine lv_aload_n hx hb dX9_manyNow_173 rfl (lv_at hl 1 rfl) ?_
  refine xg (ci := 9) S inX9 rfl hK hP mW_0 21 (by decide) mF_21 kw_6_168 rfl dX9_manyNow_174 ?_
  exact rdEnd S hr hlocks dX9_manyNow_177 rfl

set_option maxHeartbeats 8000000 in
set_option maxRecDepth 100000 in
theorem m_many_ok8 (l : Launch) (D : va_G) (cI cZ cJ : ClassId) (o : Nat) (q : Nat → Nat) (sz : Nat) : Met l yX9_many (uW yX9_many cX9_many 2 (some .int)) ({ frames := 1, cells := 0, slots := 0, locals := 23 }) (va_Pc [.ref o, .int 8] (wS D (tyL cI cZ cJ) (mW o 0 q cI cZ) sz)) (wQi (1000) D (mW o 0 q cI cZ) (va_A (mW o 0 q cI cZ) sz)) 0 0 (va_A (mW o 0 q cI cZ) sz) := by
  refine wStart (lv := [(0, .ref o), (1, .int 8)]) (Qc := fun A => wQi (1000) D (mW o 0 q cI cZ) A) (by decide) (Nat.le_of_ble_eq_true rfl) rfl ?_
  intro p e s m args below meth c ls A H S hr hlocks hnm hl hK hP hD hS hA
  have hx := S.1
  have hb := S.2.1
  refine lv_aload_n hx hb dX9_many_0 rfl (lv_at hl 0 rfl) ?_
  refine lv_iconst (v := 0) hx hb dX9_many_1 (by decide) ?_
  refine xp (ci := 9) (v := .int 0) S inX9 tyX9 tyX9_ok nmX9 rfl hK hP hD hS mW_0 0 (by decide) kw_6_147 rfl rfl rfl rfl (Nat.le_of_ble_eq_true rfl) dX9_many_2 (fun H locs hP hD hS => ?_)
  have hP : va_P D vwCl (mW o 0 q cI cZ) H := hP
  have hD : va_D A (mW o 0 q cI cZ) := hD
  refine lv_iload_n hx hb dX9_many_5 rfl (lv_at hl 1 rfl) ?_
  refine lv_iconst (v := 0) hx hb dX9_many_6 (by decide) ?_
  refine lv_bipush (v := 10) hx hb dX9_many_7 (by decide) ?_
  refine rdS (As := [.int 8, .int 0, .int 10]) S (c_X9_isIn_87 l D cI cZ cJ o q) ms_X9_isIn kw_7_100 ⟨rfl, rfl⟩ ⟨Nat.le_of_ble_eq_true rfl, Nat.le_of_ble_eq_true rfl⟩ hP hK hl.1 (Nat.le_of_ble_eq_true rfl) ⟨Nat.le_of_ble_eq_true rfl, Nat.le_of_ble_eq_true rfl⟩ dX9_many_9 ?_
  refine lv_if_eq (tgt := 23) hx hb dX9_many_12 (by decide) (fun c => absurd c (by decide)) (fun _ => ?_)
  refine lv_aload_n hx hb dX9_many_15 rfl (lv_at hl 0 rfl) ?_
  refine lv_iload_n hx hb dX9_many_16 rfl (lv_at hl 1 rfl) ?_
  refine rdV (As := [.int 8]) (ci := 9) S (c_X9_manyNow_8 l D cI cZ cJ o q) mi_X9_manyNow kw_9_27 ⟨rfl, rfl⟩ ⟨Nat.le_of_ble_eq_true rfl, Nat.le_of_ble_eq_true rfl⟩ hP hK mW_0 rfl rfl hl.1 (Nat.le_of_ble_eq_true rfl) ⟨Nat.le_of_ble_eq_true rfl, Nat.le_of_ble_eq_true rfl⟩ dX9_many_17 ?_
  refine lv_goto (tgt := 28) hx hb dX9_many_20 (by decide) ?_
  exact wEnd S hr hlocks hP hD hS (Nat.le_of_ble_eq_true rfl) (Nat.le_of_ble_eq_true rfl) dX9_many_28 rfl

set_option maxHeartbeats 8000000 in
set_option maxRecDepth 100000 in
theorem c_X9_manyNow_9 (l : Launch) (D : va_G) (cI cZ cJ : ClassId) (o : Nat) (q : Nat → Nat) : Met l yX9_manyNow (uW yX9_manyNow cX9_manyNow 4 (some .int)) ({ frames := 0, cells := 0, slots := 0, locals := 0 }) (va_Pc [.ref o, .int 9] (pS D (tyL cI cZ cJ) (mW o 0 q cI cZ))) (QcRead (20)) 0 0 (fun _ => False) := by
  refine rdStart (lv := [(0, .ref o), (1, .int 9)]) (by decide) (Nat.le_of_ble_eq_true rfl) rfl ?_
  intro p e s m args below meth c ls S hr hlocks hl hP hK
  have hx := S.1
  have hb := S.2.1
  refine lv_iconst (v := 0) hx hb dX9_manyNow_0 (by decide) ?_
  refine lv_istore_n (lv' := [(2, .int 0), (0, .ref o), (1, .int 9)]) hx hb dX9_manyNow_1 rfl hl (by decide) rfl (fun ls hl => ?_)
  refine lv_iload_n hx hb dX9_manyNow_2 rfl (lv_at hl 2 rfl) ?_
  refine lv_tableIn (off := 175) (tgt := 178) hx hb dX9_manyNow_3 (by decide) (by decide) (by decide) (by decide) ?_
  refine lv_aload_n hx hb dX9_manyNow_178 rfl (lv_at hl 1 rfl) ?_
  refine xg (ci := 9) S inX9 rfl hK hP mW_0 22 (by decide) mF_22 kw_6_169 rfl dX9_manyNow_179 ?_
  exact rdEnd S hr hlocks dX9_manyNow_182 rfl

set_option maxHeartbeats 8000000 in
set_option maxRecDepth 100000 in
theorem m_many_ok9 (l : Launch) (D : va_G) (cI cZ cJ : ClassId) (o : Nat) (q : Nat → Nat) (sz : Nat) : Met l yX9_many (uW yX9_many cX9_many 2 (some .int)) ({ frames := 1, cells := 0, slots := 0, locals := 23 }) (va_Pc [.ref o, .int 9] (wS D (tyL cI cZ cJ) (mW o 0 q cI cZ) sz)) (wQi (20) D (mW o 0 q cI cZ) (va_A (mW o 0 q cI cZ) sz)) 0 0 (va_A (mW o 0 q cI cZ) sz) := by
  refine wStart (lv := [(0, .ref o), (1, .int 9)]) (Qc := fun A => wQi (20) D (mW o 0 q cI cZ) A) (by decide) (Nat.le_of_ble_eq_true rfl) rfl ?_
  intro p e s m args below meth c ls A H S hr hlocks hnm hl hK hP hD hS hA
  have hx := S.1
  have hb := S.2.1
  refine lv_aload_n hx hb dX9_many_0 rfl (lv_at hl 0 rfl) ?_
  refine lv_iconst (v := 0) hx hb dX9_many_1 (by decide) ?_
  refine xp (ci := 9) (v := .int 0) S inX9 tyX9 tyX9_ok nmX9 rfl hK hP hD hS mW_0 0 (by decide) kw_6_147 rfl rfl rfl rfl (Nat.le_of_ble_eq_true rfl) dX9_many_2 (fun H locs hP hD hS => ?_)
  have hP : va_P D vwCl (mW o 0 q cI cZ) H := hP
  have hD : va_D A (mW o 0 q cI cZ) := hD
  refine lv_iload_n hx hb dX9_many_5 rfl (lv_at hl 1 rfl) ?_
  refine lv_iconst (v := 0) hx hb dX9_many_6 (by decide) ?_
  refine lv_bipush (v := 10) hx hb dX9_many_7 (by decide) ?_
  refine rdS (As := [.int 9, .int 0, .int 10]) S (c_X9_isIn_88 l D cI cZ cJ o q) ms_X9_isIn kw_7_100 ⟨rfl, rfl⟩ ⟨Nat.le_of_ble_eq_true rfl, Nat.le_of_ble_eq_true rfl⟩ hP hK hl.1 (Nat.le_of_ble_eq_true rfl) ⟨Nat.le_of_ble_eq_true rfl, Nat.le_of_ble_eq_true rfl⟩ dX9_many_9 ?_
  refine lv_if_eq (tgt := 23) hx hb dX9_many_12 (by decide) (fun c => absurd c (by decide)) (fun _ => ?_)
  refine lv_aload_n hx hb dX9_many_15 rfl (lv_at hl 0 rfl) ?_
  refine lv_iload_n hx hb dX9_many_16 rfl (lv_at hl 1 rfl) ?_
  refine rdV (As := [.int 9]) (ci := 9) S (c_X9_manyNow_9 l D cI cZ cJ o q) mi_X9_manyNow kw_9_27 ⟨rfl, rfl⟩ ⟨Nat.le_of_ble_eq_true rfl, Nat.le_of_ble_eq_true rfl⟩ hP hK mW_0 rfl rfl hl.1 (Nat.le_of_ble_eq_true rfl) ⟨Nat.le_of_ble_eq_true rfl, Nat.le_of_ble_eq_true rfl⟩ dX9_many_17 ?_
  refine lv_goto (tgt := 28) hx hb dX9_many_20 (by decide) ?_
  exact wEnd S hr hlocks hP hD hS (Nat.le_of_ble_eq_true rfl) (Nat.le_of_ble_eq_true rfl) dX9_many_28 rfl

set_option maxHeartbeats 8000000 in
set_option maxRecDepth 100000 in
theorem c_X9_manyNow_10 (l : Launch) (D : va_G) (cI cZ cJ : ClassId) (o : Nat) (q : Nat → Nat) (sz : Nat) : Met l yX9_manyNow (uW yX9_manyNow cX9_manyNow 4 (some .int)) ({ frames := 2, cells := 1, slots := 111, locals := 49 }) (va_Pc [.ref o, .int 10] (wS D (tyL cI cZ cJ) (mW o 0 q cI cZ) sz)) (wQi (0) D (mW o 0 q cI cZ) (va_A (mW o 0 q cI cZ) sz)) 1 111 (va_A (mW o 0 q cI cZ) sz) := by
  refine wStart (lv := [(0, .ref o), (1, .int 10)]) (Qc := fun A => wQi (0) D (mW o 0 q cI cZ) A) (by decide) (Nat.le_of_ble_eq_true rfl) rfl ?_
  intro p e s m args below meth c ls A H S hr hlocks hnm hl hK hP hD hS hA
  have hx := S.1
  have hb := S.2.1
  refine lv_iconst (v := 0) hx hb dX9_manyNow_0 (by decide) ?_
  refine lv_istore_n (lv' := [(2, .int 0), (0, .ref o), (1, .int 10)]) hx hb dX9_manyNow_1 rfl hl (by decide) rfl (fun ls hl => ?_)
  refine lv_iload_n hx hb dX9_manyNow_2 rfl (lv_at hl 2 rfl) ?_
  refine lv_tableOut (tgt := 183) hx hb dX9_manyNow_3 (by decide) (by decide) ?_
  refine lv_aload_n hx hb dX9_manyNow_183 rfl (lv_at hl 1 rfl) ?_
  refine wrV (As := []) (ci := 9) S (c_X9_faults_0 l D cI cZ cJ o q H.size) mi_X9_faults kw_7_229 rfl rfl ⟨Nat.le_of_ble_eq_true rfl, Nat.le_of_ble_eq_true rfl⟩ hP hD hK hS hA mW_0 rfl rfl hl.1 (Nat.le_of_ble_eq_true rfl) ⟨Nat.le_of_ble_eq_true rfl, Nat.le_of_ble_eq_true rfl⟩ dX9_manyNow_184 (fun H locs hz hP hD hS => ?_)
  refine lv_if_le (tgt := 194) hx hb dX9_manyNow_187 (by decide) (fun c => absurd c (by decide)) (fun _ => ?_)
  refine lv_iconst (v := 0) hx hb dX9_manyNow_190 (by decide) ?_
  refine lv_goto (tgt := 202) hx hb dX9_manyNow_191 (by decide) ?_
  exact wEnd S hr hlocks hP hD hS (Nat.le_of_ble_eq_true rfl) (Nat.le_of_ble_eq_true rfl) dX9_manyNow_202 rfl

set_option maxHeartbeats 8000000 in
set_option maxRecDepth 100000 in
theorem m_many_ok10 (l : Launch) (D : va_G) (cI cZ cJ : ClassId) (o : Nat) (q : Nat → Nat) (sz : Nat) : Met l yX9_many (uW yX9_many cX9_many 2 (some .int)) ({ frames := 3, cells := 1, slots := 111, locals := 72 }) (va_Pc [.ref o, .int 10] (wS D (tyL cI cZ cJ) (mW o 0 q cI cZ) sz)) (wQi (0) D (mW o 0 q cI cZ) (va_A (mW o 0 q cI cZ) sz)) 1 111 (va_A (mW o 0 q cI cZ) sz) := by
  refine wStart (lv := [(0, .ref o), (1, .int 10)]) (Qc := fun A => wQi (0) D (mW o 0 q cI cZ) A) (by decide) (Nat.le_of_ble_eq_true rfl) rfl ?_
  intro p e s m args below meth c ls A H S hr hlocks hnm hl hK hP hD hS hA
  have hx := S.1
  have hb := S.2.1
  refine lv_aload_n hx hb dX9_many_0 rfl (lv_at hl 0 rfl) ?_
  refine lv_iconst (v := 0) hx hb dX9_many_1 (by decide) ?_
  refine xp (ci := 9) (v := .int 0) S inX9 tyX9 tyX9_ok nmX9 rfl hK hP hD hS mW_0 0 (by decide) kw_6_147 rfl rfl rfl rfl (Nat.le_of_ble_eq_true rfl) dX9_many_2 (fun H locs hP hD hS => ?_)
  have hP : va_P D vwCl (mW o 0 q cI cZ) H := hP
  have hD : va_D A (mW o 0 q cI cZ) := hD
  refine lv_iload_n hx hb dX9_many_5 rfl (lv_at hl 1 rfl) ?_
  refine lv_iconst (v := 0) hx hb dX9_many_6 (by decide) ?_
  refine lv_bipush (v := 10) hx hb dX9_many_7 (by decide) ?_
  refine rdS (As := [.int 10, .int 0, .int 10]) S (c_X9_isIn_89 l D cI cZ cJ o q) ms_X9_isIn kw_7_100 ⟨rfl, rfl⟩ ⟨Nat.le_of_ble_eq_true rfl, Nat.le_of_ble_eq_true rfl⟩ hP hK hl.1 (Nat.le_of_ble_eq_true rfl) ⟨Nat.le_of_ble_eq_true rfl, Nat.le_of_ble_eq_true rfl⟩ dX9_many_9 ?_
  refine lv_if_eq (tgt := 23) hx hb dX9_many_12 (by decide) (fun c => absurd c (by decide)) (fun _ => ?_)
  refine lv_aload_n hx hb dX9_many_15 rfl (lv_at hl 0 rfl) ?_
  refine lv_iload_n hx hb dX9_many_16 rfl (lv_at hl 1 rfl) ?_
  refine wrV (As := [.int 10]) (ci := 9) S (c_X9_manyNow_10 l D cI cZ cJ o q H.size) mi_X9_manyNow kw_9_27 rfl rfl ⟨Nat.le_of_ble_eq_true rfl, Nat.le_of_ble_eq_true rfl⟩ hP hD hK hS hA mW_0 rfl rfl hl.1 (Nat.le_of_ble_eq_true rfl) ⟨Nat.le_of_ble_eq_true rfl, Nat.le_of_ble_eq_true rfl⟩ dX9_many_17 (fun H locs hz hP hD hS => ?_)
  refine lv_goto (tgt := 28) hx hb dX9_many_20 (by decide) ?_
  exact wEnd S hr hlocks hP hD hS (Nat.le_of_ble_eq_true rfl) (Nat.le_of_ble_eq_true rfl) dX9_many_28 rfl

set_option maxHeartbeats 8000000 in
set_option maxRecDepth 100000 in
theorem m_wouldRun_a (l : Launch) (D : va_G) (cI cZ cJ : ClassId) (o : Nat) (q : Nat → Nat) (sz : Nat) (x1 : Int32) (x2 : Int32) (x3 : Int32) (ou_x1_1_3000 : ¬ (1 ≤ x1 ∧ x1 ≤ 3000)) : Met l yX9_wouldRun (uW yX9_wouldRun cX9_wouldRun 4 (some .int)) ({ frames := 1, cells := 0, slots := 0, locals := 22 }) (va_Pc [.ref o, .int x1, .int x2, .int x3] (wS D (tyL cI cZ cJ) (mW o 0 q cI cZ) sz)) (wQi (0) D (mW o 1 q cI cZ) (va_A (mW o 0 q cI cZ) sz)) 0 0 (va_A (mW o 0 q cI cZ) sz) := by
  refine wStart (lv := [(0, .ref o), (1, .int x1), (2, .int x2), (3, .int x3)]) (Qc := fun A => wQi (0) D (mW o 1 q cI cZ) A) (by decide) (Nat.le_of_ble_eq_true rfl) rfl ?_
  intro p e s m args below meth c ls A H S hr hlocks hnm hl hK hP hD hS hA
  have hx := S.1
  have hb := S.2.1
  refine lv_aload_n hx hb dX9_wouldRun_0 rfl (lv_at hl 0 rfl) ?_
  refine lv_iconst (v := 0) hx hb dX9_wouldRun_1 (by decide) ?_
  refine xp (ci := 9) (v := .int 0) S inX9 tyX9 tyX9_ok nmX9 rfl hK hP hD hS mW_0 0 (by decide) kw_6_147 rfl rfl rfl rfl (Nat.le_of_ble_eq_true rfl) dX9_wouldRun_2 (fun H locs hP hD hS => ?_)
  have hP : va_P D vwCl (mW o 0 q cI cZ) H := hP
  have hD : va_D A (mW o 0 q cI cZ) := hD
  refine lv_iload_n hx hb dX9_wouldRun_5 rfl (lv_at hl 1 rfl) ?_
  refine lv_iconst (v := 1) hx hb dX9_wouldRun_6 (by decide) ?_
  refine lv_sipush (v := 3000) hx hb dX9_wouldRun_7 (by decide) ?_
  refine rdS (As := [.int x1, .int 1, .int 3000]) S (c_X9_isIn_74 l D cI cZ cJ o q x1 ou_x1_1_3000) ms_X9_isIn kw_7_100 ⟨rfl, rfl⟩ ⟨Nat.le_of_ble_eq_true rfl, Nat.le_of_ble_eq_true rfl⟩ hP hK hl.1 (Nat.le_of_ble_eq_true rfl) ⟨Nat.le_of_ble_eq_true rfl, Nat.le_of_ble_eq_true rfl⟩ dX9_wouldRun_10 ?_
  refine lv_if_eq (tgt := 36) hx hb dX9_wouldRun_13 (by decide) (fun _ => ?_) (fun c => absurd c (by decide))
  refine lv_aload_n hx hb dX9_wouldRun_36 rfl (lv_at hl 0 rfl) ?_
  refine lv_iconst (v := 1) hx hb dX9_wouldRun_37 (by decide) ?_
  refine wrV (As := [.int 1]) (ci := 9) S (c_X9_no_0 l D cI cZ cJ o q H.size) mi_X9_no kw_7_103 rfl rfl ⟨Nat.le_of_ble_eq_true rfl, Nat.le_of_ble_eq_true rfl⟩ hP hD hK hS hA mW_0 rfl rfl hl.1 (Nat.le_of_ble_eq_true rfl) ⟨Nat.le_of_ble_eq_true rfl, Nat.le_of_ble_eq_true rfl⟩ dX9_wouldRun_38 (fun H locs hz hP hD hS => ?_)
  exact wEnd S hr hlocks hP hD hS (Nat.le_of_ble_eq_true rfl) (Nat.le_of_ble_eq_true rfl) dX9_wouldRun_41 rfl

set_option maxHeartbeats 8000000 in
set_option maxRecDepth 100000 in
theorem m_wouldRun_b (l : Launch) (D : va_G) (cI cZ cJ : ClassId) (o : Nat) (q : Nat → Nat) (sz : Nat) (x1 : Int32) (x2 : Int32) (x3 : Int32) (lo_x1 : 1 ≤ x1) (hi_x1 : x1 ≤ 3000) (ou_x2_1_40 : ¬ (1 ≤ x2 ∧ x2 ≤ 40)) : Met l yX9_wouldRun (uW yX9_wouldRun cX9_wouldRun 4 (some .int)) ({ frames := 1, cells := 0, slots := 0, locals := 22 }) (va_Pc [.ref o, .int x1, .int x2, .int x3] (wS D (tyL cI cZ cJ) (mW o 0 q cI cZ) sz)) (wQi (0) D (mW o 1 q cI cZ) (va_A (mW o 0 q cI cZ) sz)) 0 0 (va_A (mW o 0 q cI cZ) sz) := by
  refine wStart (lv := [(0, .ref o), (1, .int x1), (2, .int x2), (3, .int x3)]) (Qc := fun A => wQi (0) D (mW o 1 q cI cZ) A) (by decide) (Nat.le_of_ble_eq_true rfl) rfl ?_
  intro p e s m args below meth c ls A H S hr hlocks hnm hl hK hP hD hS hA
  have hx := S.1
  have hb := S.2.1
  refine lv_aload_n hx hb dX9_wouldRun_0 rfl (lv_at hl 0 rfl) ?_
  refine lv_iconst (v := 0) hx hb dX9_wouldRun_1 (by decide) ?_
  refine xp (ci := 9) (v := .int 0) S inX9 tyX9 tyX9_ok nmX9 rfl hK hP hD hS mW_0 0 (by decide) kw_6_147 rfl rfl rfl rfl (Nat.le_of_ble_eq_true rfl) dX9_wouldRun_2 (fun H locs hP hD hS => ?_)
  have hP : va_P D vwCl (mW o 0 q cI cZ) H := hP
  have hD : va_D A (mW o 0 q cI cZ) := hD
  refine lv_iload_n hx hb dX9_wouldRun_5 rfl (lv_at hl 1 rfl) ?_
  refine lv_iconst (v := 1) hx hb dX9_wouldRun_6 (by decide) ?_
  refine lv_sipush (v := 3000) hx hb dX9_wouldRun_7 (by decide) ?_
  refine rdS (As := [.int x1, .int 1, .int 3000]) S (c_X9_isIn_75 l D cI cZ cJ o q x1 lo_x1 hi_x1) ms_X9_isIn kw_7_100 ⟨rfl, rfl⟩ ⟨Nat.le_of_ble_eq_true rfl, Nat.le_of_ble_eq_true rfl⟩ hP hK hl.1 (Nat.le_of_ble_eq_true rfl) ⟨Nat.le_of_ble_eq_true rfl, Nat.le_of_ble_eq_true rfl⟩ dX9_wouldRun_10 ?_
  refine lv_if_eq (tgt := 36) hx hb dX9_wouldRun_13 (by decide) (fun c => absurd c (by decide)) (fun _ => ?_)
  refine lv_iload_n hx hb dX9_wouldRun_16 rfl (lv_at hl 2 rfl) ?_
  refine lv_iconst (v := 1) hx hb dX9_wouldRun_17 (by decide) ?_
  refine lv_bipush (v := 40) hx hb dX9_wouldRun_18 (by decide) ?_
  refine rdS (As := [.int x2, .int 1, .int 40]) S (c_X9_isIn_76 l D cI cZ cJ o q x2 ou_x2_1_40) ms_X9_isIn kw_7_100 ⟨rfl, rfl⟩ ⟨Nat.le_of_ble_eq_true rfl, Nat.le_of_ble_eq_true rfl⟩ hP hK hl.1 (Nat.le_of_ble_eq_true rfl) ⟨Nat.le_of_ble_eq_true rfl, Nat.le_of_ble_eq_true rfl⟩ dX9_wouldRun_20 ?_
  refine lv_if_eq (tgt := 36) hx hb dX9_wouldRun_23 (by decide) (fun _ => ?_) (fun c => absurd c (by decide))
  refine lv_aload_n hx hb dX9_wouldRun_36 rfl (lv_at hl 0 rfl) ?_
  refine lv_iconst (v := 1) hx hb dX9_wouldRun_37 (by decide) ?_
  refine wrV (As := [.int 1]) (ci := 9) S (c_X9_no_0 l D cI cZ cJ o q H.size) mi_X9_no kw_7_103 rfl rfl ⟨Nat.le_of_ble_eq_true rfl, Nat.le_of_ble_eq_true rfl⟩ hP hD hK hS hA mW_0 rfl rfl hl.1 (Nat.le_of_ble_eq_true rfl) ⟨Nat.le_of_ble_eq_true rfl, Nat.le_of_ble_eq_true rfl⟩ dX9_wouldRun_38 (fun H locs hz hP hD hS => ?_)
  exact wEnd S hr hlocks hP hD hS (Nat.le_of_ble_eq_true rfl) (Nat.le_of_ble_eq_true rfl) dX9_wouldRun_41 rfl

set_option maxHeartbeats 8000000 in
set_option maxRecDepth 100000 in
theorem c_X9_isIn_90 (l : Launch) (D : va_G) (cI cZ cJ : ClassId) (o : Nat) (q : Nat → Nat) (x3 : Int32) (ou_x3_0_9 : ¬ (0 ≤ x3 ∧ x3 ≤ 9)) : Met l yX9_isIn (uW yX9_isIn cX9_isIn 3 (some .boolean)) ({ frames := 0, cells := 0, slots := 0, locals := 0 }) (va_Pc [.int x3, .int 0, .int 9] (pS D (tyL cI cZ cJ) (mW o 0 q cI cZ))) (QcRead (0)) 0 0 (fun _ => False) := by
  refine rdStart (lv := [(0, .int x3), (1, .int 0), (2, .int 9)]) (by decide) (Nat.le_of_ble_eq_true rfl) rfl ?_
  intro p e s m args below meth c ls S hr hlocks hl hP hK
  have hx := S.1
  have hb := S.2.1
  refine lv_iload_n hx hb dX9_isIn_0 rfl (lv_at hl 0 rfl) ?_
  refine lv_iload_n hx hb dX9_isIn_1 rfl (lv_at hl 1 rfl) ?_
  refine lv_icmp_lt (tgt := 14) hx hb dX9_isIn_2 (by decide) (fun c_2 => ?_) (fun c_2 => ?_)
  · have hi_x3 : x3 ≤ (-1) := u_lt c_2 (by decide)
    refine lv_iconst (v := 0) hx hb dX9_isIn_14 (by decide) ?_
    exact rdEndZ S hr hlocks dX9_isIn_15 rfl rfl
  · have lo_x3 : 0 ≤ x3 := l_nlt c_2
    have lo_x3 : 10 ≤ x3 := o_l ou_x3_0_9 (b_ge lo_x3 (by decide)) (by decide)
    refine lv_iload_n hx hb dX9_isIn_5 rfl (lv_at hl 0 rfl) ?_
    refine lv_iload_n hx hb dX9_isIn_6 rfl (lv_at hl 2 rfl) ?_
    refine lv_icmp_gt (tgt := 14) hx hb dX9_isIn_7 (by decide) (fun _ => ?_) (fun c => absurd (b_gt lo_x3 (by decide)) c)
    refine lv_iconst (v := 0) hx hb dX9_isIn_14 (by decide) ?_
    exact rdEndZ S hr hlocks dX9_isIn_15 rfl rfl

set_option maxHeartbeats 8000000 in
set_option maxRecDepth 100000 in
theorem m_wouldRun_c (l : Launch) (D : va_G) (cI cZ cJ : ClassId) (o : Nat) (q : Nat → Nat) (sz : Nat) (x1 : Int32) (x2 : Int32) (x3 : Int32) (lo_x1 : 1 ≤ x1) (hi_x1 : x1 ≤ 3000) (lo_x2 : 1 ≤ x2) (hi_x2 : x2 ≤ 40) (ou_x3_0_9 : ¬ (0 ≤ x3 ∧ x3 ≤ 9)) : Met l yX9_wouldRun (uW yX9_wouldRun cX9_wouldRun 4 (some .int)) ({ frames := 1, cells := 0, slots := 0, locals := 22 }) (va_Pc [.ref o, .int x1, .int x2, .int x3] (wS D (tyL cI cZ cJ) (mW o 0 q cI cZ) sz)) (wQi (0) D (mW o 1 q cI cZ) (va_A (mW o 0 q cI cZ) sz)) 0 0 (va_A (mW o 0 q cI cZ) sz) := by
  refine wStart (lv := [(0, .ref o), (1, .int x1), (2, .int x2), (3, .int x3)]) (Qc := fun A => wQi (0) D (mW o 1 q cI cZ) A) (by decide) (Nat.le_of_ble_eq_true rfl) rfl ?_
  intro p e s m args below meth c ls A H S hr hlocks hnm hl hK hP hD hS hA
  have hx := S.1
  have hb := S.2.1
  refine lv_aload_n hx hb dX9_wouldRun_0 rfl (lv_at hl 0 rfl) ?_
  refine lv_iconst (v := 0) hx hb dX9_wouldRun_1 (by decide) ?_
  refine xp (ci := 9) (v := .int 0) S inX9 tyX9 tyX9_ok nmX9 rfl hK hP hD hS mW_0 0 (by decide) kw_6_147 rfl rfl rfl rfl (Nat.le_of_ble_eq_true rfl) dX9_wouldRun_2 (fun H locs hP hD hS => ?_)
  have hP : va_P D vwCl (mW o 0 q cI cZ) H := hP
  have hD : va_D A (mW o 0 q cI cZ) := hD
  refine lv_iload_n hx hb dX9_wouldRun_5 rfl (lv_at hl 1 rfl) ?_
  refine lv_iconst (v := 1) hx hb dX9_wouldRun_6 (by decide) ?_
  refine lv_sipush (v := 3000) hx hb dX9_wouldRun_7 (by decide) ?_
  refine rdS (As := [.int x1, .int 1, .int 3000]) S (c_X9_isIn_75 l D cI cZ cJ o q x1 lo_x1 hi_x1) ms_X9_isIn kw_7_100 ⟨rfl, rfl⟩ ⟨Nat.le_of_ble_eq_true rfl, Nat.le_of_ble_eq_true rfl⟩ hP hK hl.1 (Nat.le_of_ble_eq_true rfl) ⟨Nat.le_of_ble_eq_true rfl, Nat.le_of_ble_eq_true rfl⟩ dX9_wouldRun_10 ?_
  refine lv_if_eq (tgt := 36) hx hb dX9_wouldRun_13 (by decide) (fun c => absurd c (by decide)) (fun _ => ?_)
  refine lv_iload_n hx hb dX9_wouldRun_16 rfl (lv_at hl 2 rfl) ?_
  refine lv_iconst (v := 1) hx hb dX9_wouldRun_17 (by decide) ?_
  refine lv_bipush (v := 40) hx hb dX9_wouldRun_18 (by decide) ?_
  refine rdS (As := [.int x2, .int 1, .int 40]) S (c_X9_isIn_77 l D cI cZ cJ o q x2 lo_x2 hi_x2) ms_X9_isIn kw_7_100 ⟨rfl, rfl⟩ ⟨Nat.le_of_ble_eq_true rfl, Nat.le_of_ble_eq_true rfl⟩ hP hK hl.1 (Nat.le_of_ble_eq_true rfl) ⟨Nat.le_of_ble_eq_true rfl, Nat.le_of_ble_eq_true rfl⟩ dX9_wouldRun_20 ?_
  refine lv_if_eq (tgt := 36) hx hb dX9_wouldRun_23 (by decide) (fun c => absurd c (by decide)) (fun _ => ?_)
  refine lv_iload_n hx hb dX9_wouldRun_26 rfl (lv_at hl 3 rfl) ?_
  refine lv_iconst (v := 0) hx hb dX9_wouldRun_27 (by decide) ?_
  refine lv_bipush (v := 9) hx hb dX9_wouldRun_28 (by decide) ?_
  refine rdS (As := [.int x3, .int 0, .int 9]) S (c_X9_isIn_90 l D cI cZ cJ o q x3 ou_x3_0_9) ms_X9_isIn kw_7_100 ⟨rfl, rfl⟩ ⟨Nat.le_of_ble_eq_true rfl, Nat.le_of_ble_eq_true rfl⟩ hP hK hl.1 (Nat.le_of_ble_eq_true rfl) ⟨Nat.le_of_ble_eq_true rfl, Nat.le_of_ble_eq_true rfl⟩ dX9_wouldRun_30 ?_
  refine lv_if_ne (tgt := 42) hx hb dX9_wouldRun_33 (by decide) (fun c => absurd c (by decide)) (fun _ => ?_)
  refine lv_aload_n hx hb dX9_wouldRun_36 rfl (lv_at hl 0 rfl) ?_
  refine lv_iconst (v := 1) hx hb dX9_wouldRun_37 (by decide) ?_
  refine wrV (As := [.int 1]) (ci := 9) S (c_X9_no_0 l D cI cZ cJ o q H.size) mi_X9_no kw_7_103 rfl rfl ⟨Nat.le_of_ble_eq_true rfl, Nat.le_of_ble_eq_true rfl⟩ hP hD hK hS hA mW_0 rfl rfl hl.1 (Nat.le_of_ble_eq_true rfl) ⟨Nat.le_of_ble_eq_true rfl, Nat.le_of_ble_eq_true rfl⟩ dX9_wouldRun_38 (fun H locs hz hP hD hS => ?_)
  exact wEnd S hr hlocks hP hD hS (Nat.le_of_ble_eq_true rfl) (Nat.le_of_ble_eq_true rfl) dX9_wouldRun_41 rfl

set_option maxHeartbeats 8000000 in
set_option maxRecDepth 100000 in
theorem c_X9_isIn_91 (l : Launch) (D : va_G) (cI cZ cJ : ClassId) (o : Nat) (q : Nat → Nat) (x3 : Int32) (lo_x3 : 0 ≤ x3) (hi_x3 : x3 ≤ 9) : Met l yX9_isIn (uW yX9_isIn cX9_isIn 3 (some .boolean)) ({ frames := 0, cells := 0, slots := 0, locals := 0 }) (va_Pc [.int x3, .int 0, .int 9] (pS D (tyL cI cZ cJ) (mW o 0 q cI cZ))) (QcRead (1)) 0 0 (fun _ => False) := by
  refine rdStart (lv := [(0, .int x3), (1, .int 0), (2, .int 9)]) (by decide) (Nat.le_of_ble_eq_true rfl) rfl ?_
  intro p e s m args below meth c ls S hr hlocks hl hP hK
  have hx := S.1
  have hb := S.2.1
  refine lv_iload_n hx hb dX9_isIn_0 rfl (lv_at hl 0 rfl) ?_
  refine lv_iload_n hx hb dX9_isIn_1 rfl (lv_at hl 1 rfl) ?_
  refine lv_icmp_lt (tgt := 14) hx hb dX9_isIn_2 (by decide) (fun c => absurd c (b_nlt lo_x3 (by decide))) (fun _ => ?_)
  refine lv_iload_n hx hb dX9_isIn_5 rfl (lv_at hl 0 rfl) ?_
  refine lv_iload_n hx hb dX9_isIn_6 rfl (lv_at hl 2 rfl) ?_
  refine lv_icmp_gt (tgt := 14) hx hb dX9_isIn_7 (by decide) (fun c => absurd c (b_ngt hi_x3 (by decide))) (fun _ => ?_)
  refine lv_iconst (v := 1) hx hb dX9_isIn_10 (by decide) ?_
  refine lv_goto (tgt := 15) hx hb dX9_isIn_11 (by decide) ?_
  exact rdEndZ S hr hlocks dX9_isIn_15 rfl rfl

set_option maxHeartbeats 8000000 in
set_option maxRecDepth 100000 in
theorem m_wouldRun_ok (l : Launch) (D : va_G) (cI cZ cJ : ClassId) (o : Nat) (q : Nat → Nat) (sz : Nat) (x1 : Int32) (x2 : Int32) (x3 : Int32) (lo_x1 : 1 ≤ x1) (hi_x1 : x1 ≤ 3000) (lo_x2 : 1 ≤ x2) (hi_x2 : x2 ≤ 40) (lo_x3 : 0 ≤ x3) (hi_x3 : x3 ≤ 9) : Met l yX9_wouldRun (uW yX9_wouldRun cX9_wouldRun 4 (some .int)) ({ frames := 2, cells := 1, slots := 111, locals := 49 }) (va_Pc [.ref o, .int x1, .int x2, .int x3] (wS D (tyL cI cZ cJ) (mW o 0 q cI cZ) sz)) (wQi (0) D (mW o 2 q cI cZ) (va_A (mW o 0 q cI cZ) sz)) 1 111 (va_A (mW o 0 q cI cZ) sz) := by
  refine wStart (lv := [(0, .ref o), (1, .int x1), (2, .int x2), (3, .int x3)]) (Qc := fun A => wQi (0) D (mW o 2 q cI cZ) A) (by decide) (Nat.le_of_ble_eq_true rfl) rfl ?_
  intro p e s m args below meth c ls A H S hr hlocks hnm hl hK hP hD hS hA
  have hx := S.1
  have hb := S.2.1
  refine lv_aload_n hx hb dX9_wouldRun_0 rfl (lv_at hl 0 rfl) ?_
  refine lv_iconst (v := 0) hx hb dX9_wouldRun_1 (by decide) ?_
  refine xp (ci := 9) (v := .int 0) S inX9 tyX9 tyX9_ok nmX9 rfl hK hP hD hS mW_0 0 (by decide) kw_6_147 rfl rfl rfl rfl (Nat.le_of_ble_eq_true rfl) dX9_wouldRun_2 (fun H locs hP hD hS => ?_)
  have hP : va_P D vwCl (mW o 0 q cI cZ) H := hP
  have hD : va_D A (mW o 0 q cI cZ) := hD
  refine lv_iload_n hx hb dX9_wouldRun_5 rfl (lv_at hl 1 rfl) ?_
  refine lv_iconst (v := 1) hx hb dX9_wouldRun_6 (by decide) ?_
  refine lv_sipush (v := 3000) hx hb dX9_wouldRun_7 (by decide) ?_
  refine rdS (As := [.int x1, .int 1, .int 3000]) S (c_X9_isIn_75 l D cI cZ cJ o q x1 lo_x1 hi_x1) ms_X9_isIn kw_7_100 ⟨rfl, rfl⟩ ⟨Nat.le_of_ble_eq_true rfl, Nat.le_of_ble_eq_true rfl⟩ hP hK hl.1 (Nat.le_of_ble_eq_true rfl) ⟨Nat.le_of_ble_eq_true rfl, Nat.le_of_ble_eq_true rfl⟩ dX9_wouldRun_10 ?_
  refine lv_if_eq (tgt := 36) hx hb dX9_wouldRun_13 (by decide) (fun c => absurd c (by decide)) (fun _ => ?_)
  refine lv_iload_n hx hb dX9_wouldRun_16 rfl (lv_at hl 2 rfl) ?_
  refine lv_iconst (v := 1) hx hb dX9_wouldRun_17 (by decide) ?_
  refine lv_bipush (v := 40) hx hb dX9_wouldRun_18 (by decide) ?_
  refine rdS (As := [.int x2, .int 1, .int 40]) S (c_X9_isIn_77 l D cI cZ cJ o q x2 lo_x2 hi_x2) ms_X9_isIn kw_7_100 ⟨rfl, rfl⟩ ⟨Nat.le_of_ble_eq_true rfl, Nat.le_of_ble_eq_true rfl⟩ hP hK hl.1 (Nat.le_of_ble_eq_true rfl) ⟨Nat.le_of_ble_eq_true rfl, Nat.le_of_ble_eq_true rfl⟩ dX9_wouldRun_20 ?_
  refine lv_if_eq (tgt := 36) hx hb dX9_wouldRun_23 (by decide) (fun c => absurd c (by decide)) (fun _ => ?_)
  refine lv_iload_n hx hb dX9_wouldRun_26 rfl (lv_at hl 3 rfl) ?_
  refine lv_iconst (v := 0) hx hb dX9_wouldRun_27 (by decide) ?_
  refine lv_bipush (v := 9) hx hb dX9_wouldRun_28 (by decide) ?_
  refine rdS (As := [.int x3, .int 0, .int 9]) S (c_X9_isIn_91 l D cI cZ cJ o q x3 lo_x3 hi_x3) ms_X9_isIn kw_7_100 ⟨rfl, rfl⟩ ⟨Nat.le_of_ble_eq_true rfl, Nat.le_of_ble_eq_true rfl⟩ hP hK hl.1 (Nat.le_of_ble_eq_true rfl) ⟨Nat.le_of_ble_eq_true rfl, Nat.le_of_ble_eq_true rfl⟩ dX9_wouldRun_30 ?_
  refine lv_if_ne (tgt := 42) hx hb dX9_wouldRun_33 (by decide) (fun _ => ?_) (fun c => absurd c (by decide))
  refine lv_aload_n hx hb dX9_wouldRun_42 rfl (lv_at hl 0 rfl) ?_
  refine wrV (As := []) (ci := 9) S (c_X9_faults_0 l D cI cZ cJ o q H.size) mi_X9_faults kw_7_229 rfl rfl ⟨Nat.le_of_ble_eq_true rfl, Nat.le_of_ble_eq_true rfl⟩ hP hD hK hS hA mW_0 rfl rfl hl.1 (Nat.le_of_ble_eq_true rfl) ⟨Nat.le_of_ble_eq_true rfl, Nat.le_of_ble_eq_true rfl⟩ dX9_wouldRun_43 (fun H locs hz hP hD hS => ?_)
  refine lv_if_le (tgt := 57) hx hb dX9_wouldRun_46 (by decide) (fun c => absurd c (by decide)) (fun _ => ?_)
  refine lv_aload_n hx hb dX9_wouldRun_49 rfl (lv_at hl 0 rfl) ?_
  refine lv_iconst (v := 2) hx hb dX9_wouldRun_50 (by decide) ?_
  refine wrV (As := [.int 2]) (ci := 9) S (c_X9_no_1 l D cI cZ cJ o q H.size) mi_X9_no kw_7_103 rfl rfl ⟨Nat.le_of_ble_eq_true rfl, Nat.le_of_ble_eq_true rfl⟩ hP hD hK hS hA mW_0 rfl rfl hl.1 (Nat.le_of_ble_eq_true rfl) ⟨Nat.le_of_ble_eq_true rfl, Nat.le_of_ble_eq_true rfl⟩ dX9_wouldRun_51 (fun H locs hz hP hD hS => ?_)
  refine lv_goto (tgt := 69) hx hb dX9_wouldRun_54 (by decide) ?_
  exact wEnd S hr hlocks hP hD hS (Nat.le_of_ble_eq_true rfl) (Nat.le_of_ble_eq_true rfl) dX9_wouldRun_69 rfl

set_option maxHeartbeats 8000000 in
set_option maxRecDepth 100000 in
theorem m_with_a (l : Launch) (D : va_G) (cI cZ cJ : ClassId) (o : Nat) (q : Nat → Nat) (sz : Nat) (x1 : Int32) (x2 : Int32) (ou_x1_0_7 : ¬ (0 ≤ x1 ∧ x1 ≤ 7)) : Met l yX9_with (uW yX9_with cX9_with 3 (some .int)) ({ frames := 1, cells := 0, slots := 0, locals := 22 }) (va_Pc [.ref o, .int x1, .int x2] (wS D (tyL cI cZ cJ) (mW o 0 q cI cZ) sz)) (wQi (0) D (mW o 1 q cI cZ) (va_A (mW o 0 q cI cZ) sz)) 0 0 (va_A (mW o 0 q cI cZ) sz) := by
  refine wStart (lv := [(0, .ref o), (1, .int x1), (2, .int x2)]) (Qc := fun A => wQi (0) D (mW o 1 q cI cZ) A) (by decide) (Nat.le_of_ble_eq_true rfl) rfl ?_
  intro p e s m args below meth c ls A H S hr hlocks hnm hl hK hP hD hS hA
  have hx := S.1
  have hb := S.2.1
  refine lv_aload_n hx hb dX9_with_0 rfl (lv_at hl 0 rfl) ?_
  refine lv_iconst (v := 0) hx hb dX9_with_1 (by decide) ?_
  refine xp (ci := 9) (v := .int 0) S inX9 tyX9 tyX9_ok nmX9 rfl hK hP hD hS mW_0 0 (by decide) kw_6_147 rfl rfl rfl rfl (Nat.le_of_ble_eq_true rfl) dX9_with_2 (fun H locs hP hD hS => ?_)
  have hP : va_P D vwCl (mW o 0 q cI cZ) H := hP
  have hD : va_D A (mW o 0 q cI cZ) := hD
  refine lv_iload_n hx hb dX9_with_5 rfl (lv_at hl 1 rfl) ?_
  refine lv_iconst (v := 0) hx hb dX9_with_6 (by decide) ?_
  refine lv_bipush (v := 7) hx hb dX9_with_7 (by decide) ?_
  refine rdS (As := [.int x1, .int 0, .int 7]) S (c_X9_isIn_72 l D cI cZ cJ o q x1 ou_x1_0_7) ms_X9_isIn kw_7_100 ⟨rfl, rfl⟩ ⟨Nat.le_of_ble_eq_true rfl, Nat.le_of_ble_eq_true rfl⟩ hP hK hl.1 (Nat.le_of_ble_eq_true rfl) ⟨Nat.le_of_ble_eq_true rfl, Nat.le_of_ble_eq_true rfl⟩ dX9_with_9 ?_
  refine lv_if_eq (tgt := 24) hx hb dX9_with_12 (by decide) (fun _ => ?_) (fun c => absurd c (by decide))
  refine lv_aload_n hx hb dX9_with_24 rfl (lv_at hl 0 rfl) ?_
  refine lv_iconst (v := 1) hx hb dX9_with_25 (by decide) ?_
  refine wrV (As := [.int 1]) (ci := 9) S (c_X9_no_0 l D cI cZ cJ o q H.size) mi_X9_no kw_7_103 rfl rfl ⟨Nat.le_of_ble_eq_true rfl, Nat.le_of_ble_eq_true rfl⟩ hP hD hK hS hA mW_0 rfl rfl hl.1 (Nat.le_of_ble_eq_true rfl) ⟨Nat.le_of_ble_eq_true rfl, Nat.le_of_ble_eq_true rfl⟩ dX9_with_26 (fun H locs hz hP hD hS => ?_)
  exact wEnd S hr hlocks hP hD hS (Nat.le_of_ble_eq_true rfl) (Nat.le_of_ble_eq_true rfl) dX9_with_29 rfl

set_option maxHeartbeats 8000000 in
set_option maxRecDepth 100000 in
theorem m_with_b (l : Launch) (D : va_G) (cI cZ cJ : ClassId) (o : Nat) (q : Nat → Nat) (sz : Nat) (x1 : Int32) (x2 : Int32) (lo_x1 : 0 ≤ x1) (hi_x1 : x1 ≤ 7) (ou_x2_0_2 : ¬ (0 ≤ x2 ∧ x2 ≤ 2)) : Met l yX9_with (uW yX9_with cX9_with 3 (some .int)) ({ frames := 1, cells := 0, slots := 0, locals := 22 }) (va_Pc [.ref o, .int x1, .int x2] (wS D (tyL cI cZ cJ) (mW o 0 q cI cZ) sz)) (wQi (0) D (mW o 1 q cI cZ) (va_A (mW o 0 q cI cZ) sz)) 0 0 (va_A (mW o 0 q cI cZ) sz) := by
  refine wStart (lv := [(0, .ref o), (1, .int x1), (2, .int x2)]) (Qc := fun A => wQi (0) D (mW o 1 q cI cZ) A) (by decide) (Nat.le_of_ble_eq_true rfl) rfl ?_
  intro p e s m args below meth c ls A H S hr hlocks hnm hl hK hP hD hS hA
  have hx := S.1
  have hb := S.2.1
  refine lv_aload_n hx hb dX9_with_0 rfl (lv_at hl 0 rfl) ?_
  refine lv_iconst (v := 0) hx hb dX9_with_1 (by decide) ?_
  refine xp (ci := 9) (v := .int 0) S inX9 tyX9 tyX9_ok nmX9 rfl hK hP hD hS mW_0 0 (by decide) kw_6_147 rfl rfl rfl rfl (Nat.le_of_ble_eq_true rfl) dX9_with_2 (fun H locs hP hD hS => ?_)
  have hP : va_P D vwCl (mW o 0 q cI cZ) H := hP
  have hD : va_D A (mW o 0 q cI cZ) := hD
  refine lv_iload_n hx hb dX9_with_5 rfl (lv_at hl 1 rfl) ?_
  refine lv_iconst (v := 0) hx hb dX9_with_6 (by decide) ?_
  refine lv_bipush (v := 7) hx hb dX9_with_7 (by decide) ?_
  refine rdS (As := [.int x1, .int 0, .int 7]) S (c_X9_isIn_73 l D cI cZ cJ o q x1 lo_x1 hi_x1) ms_X9_isIn kw_7_100 ⟨rfl, rfl⟩ ⟨Nat.le_of_ble_eq_true rfl, Nat.le_of_ble_eq_true rfl⟩ hP hK hl.1 (Nat.le_of_ble_eq_true rfl) ⟨Nat.le_of_ble_eq_true rfl, Nat.le_of_ble_eq_true rfl⟩ dX9_with_9 ?_
  refine lv_if_eq (tgt := 24) hx hb dX9_with_12 (by decide) (fun c => absurd c (by decide)) (fun _ => ?_)
  refine lv_iload_n hx hb dX9_with_15 rfl (lv_at hl 2 rfl) ?_
  refine lv_iconst (v := 0) hx hb dX9_with_16 (by decide) ?_
  refine lv_iconst (v := 2) hx hb dX9_with_17 (by decide) ?_
  refine rdS (As := [.int x2, .int 0, .int 2]) S (c_X9_isIn_68 l D cI cZ cJ o q x2 ou_x2_0_2) ms_X9_isIn kw_7_100 ⟨rfl, rfl⟩ ⟨Nat.le_of_ble_eq_true rfl, Nat.le_of_ble_eq_true rfl⟩ hP hK hl.1 (Nat.le_of_ble_eq_true rfl) ⟨Nat.le_of_ble_eq_true rfl, Nat.le_of_ble_eq_true rfl⟩ dX9_with_18 ?_
  refine lv_if_ne (tgt := 30) hx hb dX9_with_21 (by decide) (fun c => absurd c (by decide)) (fun _ => ?_)
  refine lv_aload_n hx hb dX9_with_24 rfl (lv_at hl 0 rfl) ?_
  refine lv_iconst (v := 1) hx hb dX9_with_25 (by decide) ?_
  refine wrV (As := [.int 1]) (ci := 9) S (c_X9_no_0 l D cI cZ cJ o q H.size) mi_X9_no kw_7_103 rfl rfl ⟨Nat.le_of_ble_eq_true rfl, Nat.le_of_ble_eq_true rfl⟩ hP hD hK hS hA mW_0 rfl rfl hl.1 (Nat.le_of_ble_eq_true rfl) ⟨Nat.le_of_ble_eq_true rfl, Nat.le_of_ble_eq_true rfl⟩ dX9_with_26 (fun H locs hz hP hD hS => ?_)
  exact wEnd S hr hlocks hP hD hS (Nat.le_of_ble_eq_true rfl) (Nat.le_of_ble_eq_true rfl) dX9_with_29 rfl

set_option maxHeartbeats 8000000 in
set_option maxRecDepth 100000 in
theorem c_X9_isIn_92 (l : Launch) (D : va_G) (cI cZ cJ : ClassId) (o : Nat) (q : Nat → Nat) (x2 : Int32) (lo_x2 : 0 ≤ x2) (hi_x2 : x2 ≤ 2) : Met l yX9_isIn (uW yX9_isIn cX9_isIn 3 (some .boolean)) ({ frames := 0, cells := 0, slots := 0, locals := 0 }) (va_Pc [.int x2, .int 0, .int 2] (pS D (tyL cI cZ cJ) (mW o 0 q cI cZ))) (QcRead (1)) 0 0 (fun _ => False) := by
  refine rdStart (lv := [(0, .int x2), (1, .int 0), (2, .int 2)]) (by decide) (Nat.le_of_ble_eq_true rfl) rfl ?_
  intro p e s m args below meth c ls S hr hlocks hl hP hK
  have hx := S.1
  have hb := S.2.1
  refine lv_iload_n hx hb dX9_isIn_0 rfl (lv_at hl 0 rfl) ?_
  refine lv_iload_n hx hb dX9_isIn_1 rfl (lv_at hl 1 rfl) ?_
  refine lv_icmp_lt (tgt := 14) hx hb dX9_isIn_2 (by decide) (fun c => absurd c (b_nlt lo_x2 (by decide))) (fun _ => ?_)
  refine lv_iload_n hx hb dX9_isIn_5 rfl (lv_at hl 0 rfl) ?_
  refine lv_iload_n hx hb dX9_isIn_6 rfl (lv_at hl 2 rfl) ?_
  refine lv_icmp_gt (tgt := 14) hx hb dX9_isIn_7 (by decide) (fun c => absurd c (b_ngt hi_x2 (by decide))) (fun _ => ?_)
  refine lv_iconst (v := 1) hx hb dX9_isIn_10 (by decide) ?_
  refine lv_goto (tgt := 15) hx hb dX9_isIn_11 (by decide) ?_
  exact rdEndZ S hr hlocks dX9_isIn_15 rfl rfl

set_option maxHeartbeats 8000000 in
set_option maxRecDepth 100000 in
theorem m_with_ok (l : Launch) (D : va_G) (cI cZ cJ : ClassId) (o : Nat) (q : Nat → Nat) (sz : Nat) (x1 : Int32) (x2 : Int32) (lo_x1 : 0 ≤ x1) (hi_x1 : x1 ≤ 7) (lo_x2 : 0 ≤ x2) (hi_x2 : x2 ≤ 2) : Met l yX9_with (uW yX9_with cX9_with 3 (some .int)) ({ frames := 2, cells := 1, slots := 111, locals := 49 }) (va_Pc [.ref o, .int x1, .int x2] (wS D (tyL cI cZ cJ) (mW o 0 q cI cZ) sz)) (wQi (0) D (mW o 2 q cI cZ) (va_A (mW o 0 q cI cZ) sz)) 1 111 (va_A (mW o 0 q cI cZ) sz) := by
  refine wStart (lv := [(0, .ref o), (1, .int x1), (2, .int x2)]) (Qc := fun A => wQi (0) D (mW o 2 q cI cZ) A) (by decide) (Nat.le_of_ble_eq_true rfl) rfl ?_
  intro p e s m args below meth c ls A H S hr hlocks hnm hl hK hP hD hS hA
  have hx := S.1
  have hb := S.2.1
  refine lv_aload_n hx hb dX9_with_0 rfl (lv_at hl 0 rfl) ?_
  refine lv_iconst (v := 0) hx hb dX9_with_1 (by decide) ?_
  refine xp (ci := 9) (v := .int 0) S inX9 tyX9 tyX9_ok nmX9 rfl hK hP hD hS mW_0 0 (by decide) kw_6_147 rfl rfl rfl rfl (Nat.le_of_ble_eq_true rfl) dX9_with_2 (fun H locs hP hD hS => ?_)
  have hP : va_P D vwCl (mW o 0 q cI cZ) H := hP
  have hD : va_D A (mW o 0 q cI cZ) := hD
  refine lv_iload_n hx hb dX9_with_5 rfl (lv_at hl 1 rfl) ?_
  refine lv_iconst (v := 0) hx hb dX9_with_6 (by decide) ?_
  refine lv_bipush (v := 7) hx hb dX9_with_7 (by decide) ?_
  refine rdS (As := [.int x1, .int 0, .int 7]) S (c_X9_isIn_73 l D cI cZ cJ o q x1 lo_x1 hi_x1) ms_X9_isIn kw_7_100 ⟨rfl, rfl⟩ ⟨Nat.le_of_ble_eq_true rfl, Nat.le_of_ble_eq_true rfl⟩ hP hK hl.1 (Nat.le_of_ble_eq_true rfl) ⟨Nat.le_of_ble_eq_true rfl, Nat.le_of_ble_eq_true rfl⟩ dX9_with_9 ?_
  refine lv_if_eq (tgt := 24) hx hb dX9_with_12 (by decide) (fun c => absurd c (by decide)) (fun _ => ?_)
  refine lv_iload_n hx hb dX9_with_15 rfl (lv_at hl 2 rfl) ?_
  refine lv_iconst (v := 0) hx hb dX9_with_16 (by decide) ?_
  refine lv_iconst (v := 2) hx hb dX9_with_17 (by decide) ?_
  refine rdS (As := [.int x2, .int 0, .int 2]) S (c_X9_isIn_92 l D cI cZ cJ o q x2 lo_x2 hi_x2) ms_X9_isIn kw_7_100 ⟨rfl, rfl⟩ ⟨Nat.le_of_ble_eq_true rfl, Nat.le_of_ble_eq_true rfl⟩ hP hK hl.1 (Nat.le_of_ble_eq_true rfl) ⟨Nat.le_of_ble_eq_true rfl, Nat.le_of_ble_eq_true rfl⟩ dX9_with_18 ?_
  refine lv_if_ne (tgt := 30) hx hb dX9_with_21 (by decide) (fun _ => ?_) (fun c => absurd c (by decide))
  refine lv_aload_n hx hb dX9_with_30 rfl (lv_at hl 0 rfl) ?_
  refine wrV (As := []) (ci := 9) S (c_X9_faults_0 l D cI cZ cJ o q H.size) mi_X9_faults kw_7_229 rfl rfl ⟨Nat.le_of_ble_eq_true rfl, Nat.le_of_ble_eq_true rfl⟩ hP hD hK hS hA mW_0 rfl rfl hl.1 (Nat.le_of_ble_eq_true rfl) ⟨Nat.le_of_ble_eq_true rfl, Nat.le_of_ble_eq_true rfl⟩ dX9_with_31 (fun H locs hz hP hD hS => ?_)
  refine lv_if_le (tgt := 43) hx hb dX9_with_34 (by decide) (fun c => absurd c (by decide)) (fun _ => ?_)
  refine lv_aload_n hx hb dX9_with_37 rfl (lv_at hl 0 rfl) ?_
  refine lv_iconst (v := 2) hx hb dX9_with_38 (by decide) ?_
  refine wrV (As := [.int 2]) (ci := 9) S (c_X9_no_1 l D cI cZ cJ o q H.size) mi_X9_no kw_7_103 rfl rfl ⟨Nat.le_of_ble_eq_true rfl, Nat.le_of_ble_eq_true rfl⟩ hP hD hK hS hA mW_0 rfl rfl hl.1 (Nat.le_of_ble_eq_true rfl) ⟨Nat.le_of_ble_eq_true rfl, Nat.le_of_ble_eq_true rfl⟩ dX9_with_39 (fun H locs hz hP hD hS => ?_)
  exact wEnd S hr hlocks hP hD hS (Nat.le_of_ble_eq_true rfl) (Nat.le_of_ble_eq_true rfl) dX9_with_42 rfl

set_option maxHeartbeats 8000000 in
set_option maxRecDepth 100000 in
theorem m_hiddenBy_p (l : Launch) (D : va_G) (cI cZ cJ : ClassId) (o : Nat) (q : Nat → Nat) (sz : Nat) (x1 : Int32) (x2 : Int32) (ne_x1_0 : ¬ x1 = 0) : Met l yX9_hiddenBy (uW yX9_hiddenBy cX9_hiddenBy 3 (some .int)) ({ frames := 2, cells := 0, slots := 0, locals := 43 }) (va_Pc [.ref o, .int x1, .int x2] (wS D (tyL cI cZ cJ) (mW o 0 q cI cZ) sz)) (wQi (0) D (mW o 1 q cI cZ) (va_A (mW o 0 q cI cZ) sz)) 0 0 (va_A (mW o 0 q cI cZ) sz) := by
  refine wStart (lv := [(0, .ref o), (1, .int x1), (2, .int x2)]) (Qc := fun A => wQi (0) D (mW o 1 q cI cZ) A) (by decide) (Nat.le_of_ble_eq_true rfl) rfl ?_
  intro p e s m args below meth c ls A H S hr hlocks hnm hl hK hP hD hS hA
  have hx := S.1
  have hb := S.2.1
  refine lv_aload_n hx hb dX9_hiddenBy_0 rfl (lv_at hl 0 rfl) ?_
  refine lv_iconst (v := 0) hx hb dX9_hiddenBy_1 (by decide) ?_
  refine xp (ci := 9) (v := .int 0) S inX9 tyX9 tyX9_ok nmX9 rfl hK hP hD hS mW_0 0 (by decide) kw_6_147 rfl rfl rfl rfl (Nat.le_of_ble_eq_true rfl) dX9_hiddenBy_2 (fun H locs hP hD hS => ?_)
  have hP : va_P D vwCl (mW o 0 q cI cZ) H := hP
  have hD : va_D A (mW o 0 q cI cZ) := hD
  refine lv_aload_n hx hb dX9_hiddenBy_5 rfl (lv_at hl 0 rfl) ?_
  refine lv_iload_n hx hb dX9_hiddenBy_6 rfl (lv_at hl 1 rfl) ?_
  refine rdV (As := [.int x1]) (ci := 9) S (c_X9_isProcedure_0 l D cI cZ cJ o q x1 ne_x1_0) mi_X9_isProcedure kw_7_96 ⟨rfl, rfl⟩ ⟨Nat.le_of_ble_eq_true rfl, Nat.le_of_ble_eq_true rfl⟩ hP hK mW_0 rfl rfl hl.1 (Nat.le_of_ble_eq_true rfl) ⟨Nat.le_of_ble_eq_true rfl, Nat.le_of_ble_eq_true rfl⟩ dX9_hiddenBy_7 ?_
  refine lv_if_ne (tgt := 19) hx hb dX9_hiddenBy_10 (by decide) (fun c => absurd c (by decide)) (fun _ => ?_)
  refine lv_aload_n hx hb dX9_hiddenBy_13 rfl (lv_at hl 0 rfl) ?_
  refine lv_iconst (v := 1) hx hb dX9_hiddenBy_14 (by decide) ?_
  refine wrV (As := [.int 1]) (ci := 9) S (c_X9_no_0 l D cI cZ cJ o q H.size) mi_X9_no kw_7_103 rfl rfl ⟨Nat.le_of_ble_eq_true rfl, Nat.le_of_ble_eq_true rfl⟩ hP hD hK hS hA mW_0 rfl rfl hl.1 (Nat.le_of_ble_eq_true rfl) ⟨Nat.le_of_ble_eq_true rfl, Nat.le_of_ble_eq_true rfl⟩ dX9_hiddenBy_15 (fun H locs hz hP hD hS => ?_)
  exact wEnd S hr hlocks hP hD hS (Nat.le_of_ble_eq_true rfl) (Nat.le_of_ble_eq_true rfl) dX9_hiddenBy_18 rfl

set_option maxHeartbeats 8000000 in
set_option maxRecDepth 100000 in
theorem m_hiddenBy_n (l : Launch) (D : va_G) (cI cZ cJ : ClassId) (o : Nat) (q : Nat → Nat) (sz : Nat) (x2 : Int32) (ou_x2_0_15 : ¬ (0 ≤ x2 ∧ x2 ≤ 15)) : Met l yX9_hiddenBy (uW yX9_hiddenBy cX9_hiddenBy 3 (some .int)) ({ frames := 2, cells := 0, slots := 0, locals := 43 }) (va_Pc [.ref o, .int 0, .int x2] (wS D (tyL cI cZ cJ) (mW o 0 q cI cZ) sz)) (wQi (0) D (mW o 2 q cI cZ) (va_A (mW o 0 q cI cZ) sz)) 0 0 (va_A (mW o 0 q cI cZ) sz) := by
  refine wStart (lv := [(0, .ref o), (1, .int 0), (2, .int x2)]) (Qc := fun A => wQi (0) D (mW o 2 q cI cZ) A) (by decide) (Nat.le_of_ble_eq_true rfl) rfl ?_
  intro p e s m args below meth c ls A H S hr hlocks hnm hl hK hP hD hS hA
  have hx := S.1
  have hb := S.2.1
  refine lv_aload_n hx hb dX9_hiddenBy_0 rfl (lv_at hl 0 rfl) ?_
  refine lv_iconst (v := 0) hx hb dX9_hiddenBy_1 (by decide) ?_
  refine xp (ci := 9) (v := .int 0) S inX9 tyX9 tyX9_ok nmX9 rfl hK hP hD hS mW_0 0 (by decide) kw_6_147 rfl rfl rfl rfl (Nat.le_of_ble_eq_true rfl) dX9_hiddenBy_2 (fun H locs hP hD hS => ?_)
  have hP : va_P D vwCl (mW o 0 q cI cZ) H := hP
  have hD : va_D A (mW o 0 q cI cZ) := hD
  refine lv_aload_n hx hb dX9_hiddenBy_5 rfl (lv_at hl 0 rfl) ?_
  refine lv_iload_n hx hb dX9_hiddenBy_6 rfl (lv_at hl 1 rfl) ?_
  refine rdV (As := [.int 0]) (ci := 9) S (c_X9_isProcedure_1 l D cI cZ cJ o q) mi_X9_isProcedure kw_7_96 ⟨rfl, rfl⟩ ⟨Nat.le_of_ble_eq_true rfl, Nat.le_of_ble_eq_true rfl⟩ hP hK mW_0 rfl rfl hl.1 (Nat.le_of_ble_eq_true rfl) ⟨Nat.le_of_ble_eq_true rfl, Nat.le_of_ble_eq_true rfl⟩ dX9_hiddenBy_7 ?_
  refine lv_if_ne (tgt := 19) hx hb dX9_hiddenBy_10 (by decide) (fun _ => ?_) (fun c => absurd c (by decide))
  refine lv_iload_n hx hb dX9_hiddenBy_19 rfl (lv_at hl 2 rfl) ?_
  refine rdS (As := [.int x2]) S (c_X9_isName_0 l D cI cZ cJ o q x2 ou_x2_0_15) ms_X9_isName kw_7_107 ⟨rfl, rfl⟩ ⟨Nat.le_of_ble_eq_true rfl, Nat.le_of_ble_eq_true rfl⟩ hP hK hl.1 (Nat.le_of_ble_eq_true rfl) ⟨Nat.le_of_ble_eq_true rfl, Nat.le_of_ble_eq_true rfl⟩ dX9_hiddenBy_20 ?_
  refine lv_if_eq (tgt := 35) hx hb dX9_hiddenBy_23 (by decide) (fun _ => ?_) (fun c => absurd c (by decide))
  refine lv_aload_n hx hb dX9_hiddenBy_35 rfl (lv_at hl 0 rfl) ?_
  refine lv_iconst (v := 2) hx hb dX9_hiddenBy_36 (by decide) ?_
  refine wrV (As := [.int 2]) (ci := 9) S (c_X9_no_1 l D cI cZ cJ o q H.size) mi_X9_no kw_7_103 rfl rfl ⟨Nat.le_of_ble_eq_true rfl, Nat.le_of_ble_eq_true rfl⟩ hP hD hK hS hA mW_0 rfl rfl hl.1 (Nat.le_of_ble_eq_true rfl) ⟨Nat.le_of_ble_eq_true rfl, Nat.le_of_ble_eq_true rfl⟩ dX9_hiddenBy_37 (fun H locs hz hP hD hS => ?_)
  exact wEnd S hr hlocks hP hD hS (Nat.le_of_ble_eq_true rfl) (Nat.le_of_ble_eq_true rfl) dX9_hiddenBy_40 rfl

set_option maxHeartbeats 8000000 in
set_option maxRecDepth 100000 in
theorem c_X9_hiddenNow_0 (l : Launch) (D : va_G) (cI cZ cJ : ClassId) (o : Nat) (q : Nat → Nat) (x2 : Int32) (lo_x2 : 0 ≤ x2) (hi_x2 : x2 ≤ 15) : Met l yX9_hiddenNow (uW yX9_hiddenNow cX9_hiddenNow 6 (some .int)) ({ frames := 0, cells := 0, slots := 0, locals := 0 }) (va_Pc [.ref o, .int 0, .int x2] (pS D (tyL cI cZ cJ) (mW o 0 q cI cZ))) (QcRead (0)) 0 0 (fun _ => False) := by
  refine rdStart (lv := [(0, .ref o), (1, .int 0), (2, .int x2)]) (by decide) (Nat.le_of_ble_eq_true rfl) rfl ?_
  intro p e s m args below meth c ls S hr hlocks hl hP hK
  have hx := S.1
  have hb := S.2.1
  refine lv_aload_n hx hb dX9_hiddenNow_0 rfl (lv_at hl 0 rfl) ?_
  refine xg (ci := 9) S inX9 rfl hK hP mW_0 8 (by decide) mF_8 kw_6_155 rfl dX9_hiddenNow_1 ?_
  refine lv_iload_n hx hb dX9_hiddenNow_4 rfl (lv_at hl 1 rfl) ?_
  refine lv_bipush (v := 16) hx hb dX9_hiddenNow_5 (by decide) ?_
  refine ximul (v := 0) S dX9_hiddenNow_7 (by decide) ?_
  refine lv_iload_n hx hb dX9_hiddenNow_8 rfl (lv_at hl 2 rfl) ?_
  refine xiadd (v := x2) S dX9_hiddenNow_9 (Int32.zero_add _) ?_
  refine xiald (t0 := 0) (v := (-1)) S hK hP mW_7 rfl (b_in lo_x2 hi_x2 (by decide) (by decide)) rfl dX9_hiddenNow_10 ?_
  refine lv_iconst (v := (-1)) hx hb dX9_hiddenNow_11 (by decide) ?_
  refine lv_icmp_eq (tgt := 17) hx hb dX9_hiddenNow_12 (by decide) (fun _ => ?_) (fun c => absurd c (by decide))
  refine lv_iconst (v := 0) hx hb dX9_hiddenNow_17 (by decide) ?_
  refine lv_istore_n (lv' := [(3, .int 0), (0, .ref o), (1, .int 0), (2, .int x2)]) hx hb dX9_hiddenNow_18 rfl hl (by decide) rfl (fun ls hl => ?_)
  refine lv_iconst (v := 0) hx hb dX9_hiddenNow_19 (by decide) ?_
  refine lv_istore (lv' := [(4, .int 0), (3, .int 0), (0, .ref o), (1, .int 0), (2, .int x2)]) hx hb dX9_hiddenNow_20 hl (by decide) rfl (fun ls hl => ?_)
  refine lv_iload hx hb dX9_hiddenNow_22 (lv_at hl 0 rfl) ?_
  refine lv_aload_n hx hb dX9_hiddenNow_24 rfl (lv_at hl 2 rfl) ?_
  refine xg (ci := 9) S inX9 rfl hK hP mW_0 13 (by decide) mF_13 kw_6_160 rfl dX9_hiddenNow_25 ?_
  refine lv_icmp_ge (tgt := 135) hx hb dX9_hiddenNow_28 (by decide) (fun _ => ?_) (fun c => absurd c (by decide))
  refine lv_iload_n hx hb dX9_hiddenNow_135 rfl (lv_at hl 1 rfl) ?_
  exact rdEnd S hr hlocks dX9_hiddenNow_136 rfl

set_option maxHeartbeats 8000000 in
set_option maxRecDepth 100000 in
theorem m_hiddenBy_ok (l : Launch) (D : va_G) (cI cZ cJ : ClassId) (o : Nat) (q : Nat → Nat) (sz : Nat) (x2 : Int32) (lo_x2 : 0 ≤ x2) (hi_x2 : x2 ≤ 15) : Met l yX9_hiddenBy (uW yX9_hiddenBy cX9_hiddenBy 3 (some .int)) ({ frames := 2, cells := 0, slots := 0, locals := 43 }) (va_Pc [.ref o, .int 0, .int x2] (wS D (tyL cI cZ cJ) (mW o 0 q cI cZ) sz)) (wQi (0) D (mW o 0 q cI cZ) (va_A (mW o 0 q cI cZ) sz)) 0 0 (va_A (mW o 0 q cI cZ) sz) := by
  refine wStart (lv := [(0, .ref o), (1, .int 0), (2, .int x2)]) (Qc := fun A => wQi (0) D (mW o 0 q cI cZ) A) (by decide) (Nat.le_of_ble_eq_true rfl) rfl ?_
  intro p e s m args below meth c ls A H S hr hlocks hnm hl hK hP hD hS hA
  have hx := S.1
  have hb := S.2.1
  refine lv_aload_n hx hb dX9_hiddenBy_0 rfl (lv_at hl 0 rfl) ?_
  refine lv_iconst (v := 0) hx hb dX9_hiddenBy_1 (by decide) ?_
  refine xp (ci := 9) (v := .int 0) S inX9 tyX9 tyX9_ok nmX9 rfl hK hP hD hS mW_0 0 (by decide) kw_6_147 rfl rfl rfl rfl (Nat.le_of_ble_eq_true rfl) dX9_hiddenBy_2 (fun H locs hP hD hS => ?_)
  have hP : va_P D vwCl (mW o 0 q cI cZ) H := hP
  have hD : va_D A (mW o 0 q cI cZ) := hD
  refine lv_aload_n hx hb dX9_hiddenBy_5 rfl (lv_at hl 0 rfl) ?_
  refine lv_iload_n hx hb dX9_hiddenBy_6 rfl (lv_at hl 1 rfl) ?_
  refine rdV (As := [.int 0]) (ci := 9) S (c_X9_isProcedure_1 l D cI cZ cJ o q) mi_X9_isProcedure kw_7_96 ⟨rfl, rfl⟩ ⟨Nat.le_of_ble_eq_true rfl, Nat.le_of_ble_eq_true rfl⟩ hP hK mW_0 rfl rfl hl.1 (Nat.le_of_ble_eq_true rfl) ⟨Nat.le_of_ble_eq_true rfl, Nat.le_of_ble_eq_true rfl⟩ dX9_hiddenBy_7 ?_
  refine lv_if_ne (tgt := 19) hx hb dX9_hiddenBy_10 (by decide) (fun _ => ?_) (fun c => absurd c (by decide))
  refine lv_iload_n hx hb dX9_hiddenBy_19 rfl (lv_at hl 2 rfl) ?_
  refine rdS (As := [.int x2]) S (c_X9_isName_1 l D cI cZ cJ o q x2 lo_x2 hi_x2) ms_X9_isName kw_7_107 ⟨rfl, rfl⟩ ⟨Nat.le_of_ble_eq_true rfl, Nat.le_of_ble_eq_true rfl⟩ hP hK hl.1 (Nat.le_of_ble_eq_true rfl) ⟨Nat.le_of_ble_eq_true rfl, Nat.le_of_ble_eq_true rfl⟩ dX9_hiddenBy_20 ?_
  refine lv_if_eq (tgt := 35) hx hb dX9_hiddenBy_23 (by decide) (fun c => absurd c (by decide)) (fun _ => ?_)
  refine lv_aload_n hx hb dX9_hiddenBy_26 rfl (lv_at hl 0 rfl) ?_
  refine lv_iload_n hx hb dX9_hiddenBy_27 rfl (lv_at hl 1 rfl) ?_
  refine lv_iload_n hx hb dX9_hiddenBy_28 rfl (lv_at hl 2 rfl) ?_
  refine rdV (As := [.int 0, .int x2]) (ci := 9) S (c_X9_hiddenNow_0 l D cI cZ cJ o q x2 lo_x2 hi_x2) mi_X9_hiddenNow kw_9_47 ⟨rfl, rfl⟩ ⟨Nat.le_of_ble_eq_true rfl, Nat.le_of_ble_eq_true rfl⟩ hP hK mW_0 rfl rfl hl.1 (Nat.le_of_ble_eq_true rfl) ⟨Nat.le_of_ble_eq_true rfl, Nat.le_of_ble_eq_true rfl⟩ dX9_hiddenBy_29 ?_
  refine lv_goto (tgt := 40) hx hb dX9_hiddenBy_32 (by decide) ?_
  exact wEnd S hr hlocks hP hD hS (Nat.le_of_ble_eq_true rfl) (Nat.le_of_ble_eq_true rfl) dX9_hiddenBy_40 rfl

set_option maxHeartbeats 8000000 in
set_option maxRecDepth 100000 in
theorem c_X9_hiddenNow_1 (l : Launch) (D : va_G) (cI cZ cJ : ClassId) (o : Nat) (q : Nat → Nat) : Met l yX9_hiddenNow (uW yX9_hiddenNow cX9_hiddenNow 6 (some .int)) ({ frames := 0, cells := 0, slots := 0, locals := 0 }) (va_Pc [.ref o, .int 0, .int 0] (pS D (tyL cI cZ cJ) (mW o 0 q cI cZ))) (QcRead (0)) 0 0 (fun _ => False) := by
  refine rdStart (lv := [(0, .ref o), (1, .int 0), (2, .int 0)]) (by decide) (Nat.le_of_ble_eq_true rfl) rfl ?_
  intro p e s m args below meth c ls S hr hlocks hl hP hK
  have hx := S.1
  have hb := S.2.1
  refine lv_aload_n hx hb dX9_hiddenNow_0 rfl (lv_at hl 0 rfl) ?_
  refine xg (ci := 9) S inX9 rfl hK hP mW_0 8 (by decide) mF_8 kw_6_155 rfl dX9_hiddenNow_1 ?_
  refine lv_iload_n hx hb dX9_hiddenNow_4 rfl (lv_at hl 1 rfl) ?_
  refine lv_bipush (v := 16) hx hb dX9_hiddenNow_5 (by decide) ?_
  refine ximul (v := 0) S dX9_hiddenNow_7 (by decide) ?_
  refine lv_iload_n hx hb dX9_hiddenNow_8 rfl (lv_at hl 2 rfl) ?_
  refine xiadd (v := 0) S dX9_hiddenNow_9 (by decide) ?_
  refine xiald (t0 := 0) (v := (-1)) S hK hP mW_7 rfl (vin rfl) rfl dX9_hiddenNow_10 ?_
  refine lv_iconst (v := (-1)) hx hb dX9_hiddenNow_11 (by decide) ?_
  refine lv_icmp_eq (tgt := 17) hx hb dX9_hiddenNow_12 (by decide) (fun _ => ?_) (fun c => absurd c (by decide))
  refine lv_iconst (v := 0) hx hb dX9_hiddenNow_17 (by decide) ?_
  refine lv_istore_n (lv' := [(3, .int 0), (0, .ref o), (1, .int 0), (2, .int 0)]) hx hb dX9_hiddenNow_18 rfl hl (by decide) rfl (fun ls hl => ?_)
  refine lv_iconst (v := 0) hx hb dX9_hiddenNow_19 (by decide) ?_
  refine lv_istore (lv' := [(4, .int 0), (3, .int 0), (0, .ref o), (1, .int 0), (2, .int 0)]) hx hb dX9_hiddenNow_20 hl (by decide) rfl (fun ls hl => ?_)
  refine lv_iload hx hb dX9_hiddenNow_22 (lv_at hl 0 rfl) ?_
  refine lv_aload_n hx hb dX9_hiddenNow_24 rfl (lv_at hl 2 rfl) ?_
  refine xg (ci := 9) S inX9 rfl hK hP mW_0 13 (by decide) mF_13 kw_6_160 rfl dX9_hiddenNow_25 ?_
  refine lv_icmp_ge (tgt := 135) hx hb dX9_hiddenNow_28 (by decide) (fun _ => ?_) (fun c => absurd c (by decide))
  refine lv_iload_n hx hb dX9_hiddenNow_135 rfl (lv_at hl 1 rfl) ?_
  exact rdEnd S hr hlocks dX9_hiddenNow_136 rfl

set_option maxHeartbeats 8000000 in
set_option maxRecDepth 100000 in
theorem c_X9_hiddenNow_2 (l : Launch) (D : va_G) (cI cZ cJ : ClassId) (o : Nat) (q : Nat → Nat) : Met l yX9_hiddenNow (uW yX9_hiddenNow cX9_hiddenNow 6 (some .int)) ({ frames := 0, cells := 0, slots := 0, locals := 0 }) (va_Pc [.ref o, .int 0, .int 1] (pS D (tyL cI cZ cJ) (mW o 0 q cI cZ))) (QcRead (0)) 0 0 (fun _ => False) := by
  refine rdStart (lv := [(0, .ref o), (1, .int 0), (2, .int 1)]) (by decide) (Nat.le_of_ble_eq_true rfl) rfl ?_
  intro p e s m args below meth c ls S hr hlocks hl hP hK
  have hx := S.1
  have hb := S.2.1
  refine lv_aload_n hx hb dX9_hiddenNow_0 rfl (lv_at hl 0 rfl) ?_
  refine xg (ci := 9) S inX9 rfl hK hP mW_0 8 (by decide) mF_8 kw_6_155 rfl dX9_hiddenNow_1 ?_
  refine lv_iload_n hx hb dX9_hiddenNow_4 rfl (lv_at hl 1 rfl) ?_
  refine lv_bipush (v := 16) hx hb dX9_hiddenNow_5 (by decide) ?_
  refine ximul (v := 0) S dX9_hiddenNow_7 (by decide) ?_
  refine lv_iload_n hx hb dX9_hiddenNow_8 rfl (lv_at hl 2 rfl) ?_
  refine xiadd (v := 1) S dX9_hiddenNow_9 (by decide) ?_
  refine xiald (t0 := 0) (v := (-1)) S hK hP mW_7 rfl (vin rfl) rfl dX9_hiddenNow_10 ?_
  refine lv_iconst (v := (-1)) hx hb dX9_hiddenNow_11 (by decide) ?_
  refine lv_icmp_eq (tgt := 17) hx hb dX9_hiddenNow_12 (by decide) (fun _ => ?_) (fun c => absurd c (by decide))
  refine lv_iconst (v := 0) hx hb dX9_hiddenNow_17 (by decide) ?_
  refine lv_istore_n (lv' := [(3, .int 0), (0, .ref o), (1, .int 0), (2, .int 1)]) hx hb dX9_hiddenNow_18 rfl hl (by decide) rfl (fun ls hl => ?_)
  refine lv_iconst (v := 0) hx hb dX9_hiddenNow_19 (by decide) ?_
  refine lv_istore (lv' := [(4, .int 0), (3, .int 0), (0, .ref o), (1, .int 0), (2, .int 1)]) hx hb dX9_hiddenNow_20 hl (by decide) rfl (fun ls hl => ?_)
  refine lv_iload hx hb dX9_hiddenNow_22 (lv_at hl 0 rfl) ?_
  refine lv_aload_n hx hb dX9_hiddenNow_24 rfl (lv_at hl 2 rfl) ?_
  refine xg (ci := 9) S inX9 rfl hK hP mW_0 13 (by decide) mF_13 kw_6_160 rfl dX9_hiddenNow_25 ?_
  refine lv_icmp_ge (tgt := 135) hx hb dX9_hiddenNow_28 (by decide) (fun _ => ?_) (fun c => absurd c (by decide))
  refine lv_iload_n hx hb dX9_hiddenNow_135 rfl (lv_at hl 1 rfl) ?_
  exact rdEnd S hr hlocks dX9_hiddenNow_136 rfl

set_option maxHeartbeats 8000000 in
set_option maxRecDepth 100000 in
theorem c_X9_hiddenNow_3 (l : Launch) (D : va_G) (cI cZ cJ : ClassId) (o : Nat) (q : Nat → Nat) : Met l yX9_hiddenNow (uW yX9_hiddenNow cX9_hiddenNow 6 (some .int)) ({ frames := 0, cells := 0, slots := 0, locals := 0 }) (va_Pc [.ref o, .int 0, .int 2] (pS D (tyL cI cZ cJ) (mW o 0 q cI cZ))) (QcRead (0)) 0 0 (fun _ => False) := by
  refine rdStart (lv := [(0, .ref o), (1, .int 0), (2, .int 2)]) (by decide) (Nat.le_of_ble_eq_true rfl) rfl ?_
  intro p e s m args below meth c ls S hr hlocks hl hP hK
  have hx := S.1
  have hb := S.2.1
  refine lv_aload_n hx hb dX9_hiddenNow_0 rfl (lv_at hl 0 rfl) ?_
  refine xg (ci := 9) S inX9 rfl hK hP mW_0 8 (by decide) mF_8 kw_6_155 rfl dX9_hiddenNow_1 ?_
  refine lv_iload_n hx hb dX9_hiddenNow_4 rfl (lv_at hl 1 rfl) ?_
  refine lv_bipush (v := 16) hx hb dX9_hiddenNow_5 (by decide) ?_
  refine ximul (v := 0) S dX9_hiddenNow_7 (by decide) ?_
  refine lv_iload_n hx hb dX9_hiddenNow_8 rfl (lv_at hl 2 rfl) ?_
  refine xiadd (v := 2) S dX9_hiddenNow_9 (by decide) ?_
  refine xiald (t0 := 0) (v := (-1)) S hK hP mW_7 rfl (vin rfl) rfl dX9_hiddenNow_10 ?_
  refine lv_iconst (v := (-1)) hx hb dX9_hiddenNow_11 (by decide) ?_
  refine lv_icmp_eq (tgt := 17) hx hb dX9_hiddenNow_12 (by decide) (fun _ => ?_) (fun c => absurd c (by decide))
  refine lv_iconst (v := 0) hx hb dX9_hiddenNow_17 (by decide) ?_
  refine lv_istore_n (lv' := [(3, .int 0), (0, .ref o), (1, .int 0), (2, .int 2)]) hx hb dX9_hiddenNow_18 rfl hl (by decide) rfl (fun ls hl => ?_)
  refine lv_iconst (v := 0) hx hb dX9_hiddenNow_19 (by decide) ?_
  refine lv_istore (lv' := [(4, .int 0), (3, .int 0), (0, .ref o), (1, .int 0), (2, .int 2)]) hx hb dX9_hiddenNow_20 hl (by decide) rfl (fun ls hl => ?_)
  refine lv_iload hx hb dX9_hiddenNow_22 (lv_at hl 0 rfl) ?_
  refine lv_aload_n hx hb dX9_hiddenNow_24 rfl (lv_at hl 2 rfl) ?_
  refine xg (ci := 9) S inX9 rfl hK hP mW_0 13 (by decide) mF_13 kw_6_160 rfl dX9_hiddenNow_25 ?_
  refine lv_icmp_ge (tgt := 135) hx hb dX9_hiddenNow_28 (by decide) (fun _ => ?_) (fun c => absurd c (by decide))
  refine lv_iload_n hx hb dX9_hiddenNow_135 rfl (lv_at hl 1 rfl) ?_
  exact rdEnd S hr hlocks dX9_hiddenNow_136 rfl

set_option maxHeartbeats 8000000 in
set_option maxRecDepth 100000 in
theorem c_X9_hiddenNow_4 (l : Launch) (D : va_G) (cI cZ cJ : ClassId) (o : Nat) (q : Nat → Nat) : Met l yX9_hiddenNow (uW yX9_hiddenNow cX9_hiddenNow 6 (some .int)) ({ frames := 0, cells := 0, slots := 0, locals := 0 }) (va_Pc [.ref o, .int 0, .int 3] (pS D (tyL cI cZ cJ) (mW o 0 q cI cZ))) (QcRead (0)) 0 0 (fun _ => False) := by
  refine rdStart (lv := [(0, .ref o), (1, .int 0), (2, .int 3)]) (by decide) (Nat.le_of_ble_eq_true rfl) rfl ?_
  intro p e s m args below meth c ls S hr hlocks hl hP hK
  have hx := S.1
  have hb := S.2.1
  refine lv_aload_n hx hb dX9_hiddenNow_0 rfl (lv_at hl 0 rfl) ?_
  refine xg (ci := 9) S inX9 rfl hK hP mW_0 8 (by decide) mF_8 kw_6_155 rfl dX9_hiddenNow_1 ?_
  refine lv_iload_n hx hb dX9_hiddenNow_4 rfl (lv_at hl 1 rfl) ?_
  refine lv_bipush (v := 16) hx hb dX9_hiddenNow_5 (by decide) ?_
  refine ximul (v := 0) S dX9_hiddenNow_7 (by decide) ?_
  refine lv_iload_n hx hb dX9_hiddenNow_8 rfl (lv_at hl 2 rfl) ?_
  refine xiadd (v := 3) S dX9_hiddenNow_9 (by decide) ?_
  refine xiald (t0 := 0) (v := (-1)) S hK hP mW_7 rfl (vin rfl) rfl dX9_hiddenNow_10 ?_
  refine lv_iconst (v := (-1)) hx hb dX9_hiddenNow_11 (by decide) ?_
  refine lv_icmp_eq (tgt := 17) hx hb dX9_hiddenNow_12 (by decide) (fun _ => ?_) (fun c => absurd c (by decide))
  refine lv_iconst (v := 0) hx hb dX9_hiddenNow_17 (by decide) ?_
  refine lv_istore_n (lv' := [(3, .int 0), (0, .ref o), (1, .int 0), (2, .int 3)]) hx hb dX9_hiddenNow_18 rfl hl (by decide) rfl (fun ls hl => ?_)
  refine lv_iconst (v := 0) hx hb dX9_hiddenNow_19 (by decide) ?_
  refine lv_istore (lv' := [(4, .int 0), (3, .int 0), (0, .ref o), (1, .int 0), (2, .int 3)]) hx hb dX9_hiddenNow_20 hl (by decide) rfl (fun ls hl => ?_)
  refine lv_iload hx hb dX9_hiddenNow_22 (lv_at hl 0 rfl) ?_
  refine lv_aload_n hx hb dX9_hiddenNow_24 rfl (lv_at hl 2 rfl) ?_
  refine xg (ci := 9) S inX9 rfl hK hP mW_0 13 (by decide) mF_13 kw_6_160 rfl dX9_hiddenNow_25 ?_
  refine lv_icmp_ge (tgt := 135) hx hb dX9_hiddenNow_28 (by decide) (fun _ => ?_) (fun c => absurd c (by decide))
  refine lv_iload_n hx hb dX9_hiddenNow_135 rfl (lv_at hl 1 rfl) ?_
  exact rdEnd S hr hlocks dX9_hiddenNow_136 rfl

set_option maxHeartbeats 8000000 in
set_option maxRecDepth 100000 in
theorem c_X9_hiddenNow_5 (l : Launch) (D : va_G) (cI cZ cJ : ClassId) (o : Nat) (q : Nat → Nat) : Met l yX9_hiddenNow (uW yX9_hiddenNow cX9_hiddenNow 6 (some .int)) ({ frames := 0, cells := 0, slots := 0, locals := 0 }) (va_Pc [.ref o, .int 0, .int 4] (pS D (tyL cI cZ cJ) (mW o 0 q cI cZ))) (QcRead (0)) 0 0 (fun _ => False) := by
  refine rdStart (lv := [(0, .ref o), (1, .int 0), (2, .int 4)]) (by decide) (Nat.le_of_ble_eq_true rfl) rfl ?_
  intro p e s m args below meth c ls S hr hlocks hl hP hK
  have hx := S.1
  have hb := S.2.1
  refine lv_aload_n hx hb dX9_hiddenNow_0 rfl (lv_at hl 0 rfl) ?_
  refine xg (ci := 9) S inX9 rfl hK hP mW_0 8 (by decide) mF_8 kw_6_155 rfl dX9_hiddenNow_1 ?_
  refine lv_iload_n hx hb dX9_hiddenNow_4 rfl (lv_at hl 1 rfl) ?_
  refine lv_bipush (v := 16) hx hb dX9_hiddenNow_5 (by decide) ?_
  refine ximul (v := 0) S dX9_hiddenNow_7 (by decide) ?_
  refine lv_iload_n hx hb dX9_hiddenNow_8 rfl (lv_at hl 2 rfl) ?_
  refine xiadd (v := 4) S dX9_hiddenNow_9 (by decide) ?_
  refine xiald (t0 := 0) (v := (-1)) S hK hP mW_7 rfl (vin rfl) rfl dX9_hiddenNow_10 ?_
  refine lv_iconst (v := (-1)) hx hb dX9_hiddenNow_11 (by decide) ?_
  refine lv_icmp_eq (tgt := 17) hx hb dX9_hiddenNow_12 (by decide) (fun _ => ?_) (fun c => absurd c (by decide))
  refine lv_iconst (v := 0) hx hb dX9_hiddenNow_17 (by decide) ?_
  refine lv_istore_n (lv' := [(3, .int 0), (0, .ref o), (1, .int 0), (2, .int 4)]) hx hb dX9_hiddenNow_18 rfl hl (by decide) rfl (fun ls hl => ?_)
  refine lv_iconst (v := 0) hx hb dX9_hiddenNow_19 (by decide) ?_
  refine lv_istore (lv' := [(4, .int 0), (3, .int 0), (0, .ref o), (1, .int 0), (2, .int 4)]) hx hb dX9_hiddenNow_20 hl (by decide) rfl (fun ls hl => ?_)
  refine lv_iload hx hb dX9_hiddenNow_22 (lv_at hl 0 rfl) ?_
  refine lv_aload_n hx hb dX9_hiddenNow_24 rfl (lv_at hl 2 rfl) ?_
  refine xg (ci := 9) S inX9 rfl hK hP mW_0 13 (by decide) mF_13 kw_6_160 rfl dX9_hiddenNow_25 ?_
  refine lv_icmp_ge (tgt := 135) hx hb dX9_hiddenNow_28 (by decide) (fun _ => ?_) (fun c => absurd c (by decide))
  refine lv_iload_n hx hb dX9_hiddenNow_135 rfl (lv_at hl 1 rfl) ?_
  exact rdEnd S hr hlocks dX9_hiddenNow_136 rfl

set_option maxHeartbeats 8000000 in
set_option maxRecDepth 100000 in
theorem c_X9_hiddenNow_6 (l : Launch) (D : va_G) (cI cZ cJ : ClassId) (o : Nat) (q : Nat → Nat) : Met l yX9_hiddenNow (uW yX9_hiddenNow cX9_hiddenNow 6 (some .int)) ({ frames := 0, cells := 0, slots := 0, locals := 0 }) (va_Pc [.ref o, .int 0, .int 5] (pS D (tyL cI cZ cJ) (mW o 0 q cI cZ))) (QcRead (0)) 0 0 (fun _ => False) := by
  refine rdStart (lv := [(0, .ref o), (1, .int 0), (2, .int 5)]) (by decide) (Nat.le_of_ble_eq_true rfl) rfl ?_
  intro p e s m args below meth c ls S hr hlocks hl hP hK
  have hx := S.1
  have hb := S.2.1
  refine lv_aload_n hx hb dX9_hiddenNow_0 rfl (lv_at hl 0 rfl) ?_
  refine xg (ci := 9) S inX9 rfl hK hP mW_0 8 (by decide) mF_8 kw_6_155 rfl dX9_hiddenNow_1 ?_
  refine lv_iload_n hx hb dX9_hiddenNow_4 rfl (lv_at hl 1 rfl) ?_
  refine lv_bipush (v := 16) hx hb dX9_hiddenNow_5 (by decide) ?_
  refine ximul (v := 0) S dX9_hiddenNow_7 (by decide) ?_
  refine lv_iload_n hx hb dX9_hiddenNow_8 rfl (lv_at hl 2 rfl) ?_
  refine xiadd (v := 5) S dX9_hiddenNow_9 (by decide) ?_
  refine xiald (t0 := 0) (v := (-1)) S hK hP mW_7 rfl (vin rfl) rfl dX9_hiddenNow_10 ?_
  refine lv_iconst (v := (-1)) hx hb dX9_hiddenNow_11 (by decide) ?_
  refine lv_icmp_eq (tgt := 17) hx hb dX9_hiddenNow_12 (by decide) (fun _ => ?_) (fun c => absurd c (by decide))
  refine lv_iconst (v := 0) hx hb dX9_hiddenNow_17 (by decide) ?_
  refine lv_istore_n (lv' := [(3, .int 0), (0, .ref o), (1, .int 0), (2, .int 5)]) hx hb dX9_hiddenNow_18 rfl hl (by decide) rfl (fun ls hl => ?_)
  refine lv_iconst (v := 0) hx hb dX9_hiddenNow_19 (by decide) ?_
  refine lv_istore (lv' := [(4, .int 0), (3, .int 0), (0, .ref o), (1, .int 0), (2, .int 5)]) hx hb dX9_hiddenNow_20 hl (by decide) rfl (fun ls hl => ?_)
  refine lv_iload hx hb dX9_hiddenNow_22 (lv_at hl 0 rfl) ?_
  refine lv_aload_n hx hb dX9_hiddenNow_24 rfl (lv_at hl 2 rfl) ?_
  refine xg (ci := 9) S inX9 rfl hK hP mW_0 13 (by decide) mF_13 kw_6_160 rfl dX9_hiddenNow_25 ?_
  refine lv_icmp_ge (tgt := 135) hx hb dX9_hiddenNow_28 (by decide) (fun _ => ?_) (fun c => absurd c (by decide))
  refine lv_iload_n hx hb dX9_hiddenNow_135 rfl (lv_at hl 1 rfl) ?_
  exact rdEnd S hr hlocks dX9_hiddenNow_136 rfl

set_option maxHeartbeats 8000000 in
set_option maxRecDepth 100000 in
theorem c_X9_hiddenNow_7 (l : Launch) (D : va_G) (cI cZ cJ : ClassId) (o : Nat) (q : Nat → Nat) : Met l yX9_hiddenNow (uW yX9_hiddenNow cX9_hiddenNow 6 (some .int)) ({ frames := 0, cells := 0, slots := 0, locals := 0 }) (va_Pc [.ref o, .int 0, .int 6] (pS D (tyL cI cZ cJ) (mW o 0 q cI cZ))) (QcRead (0)) 0 0 (fun _ => False) := by
  refine rdStart (lv := [(0, .ref o), (1, .int 0), (2, .int 6)]) (by decide) (Nat.le_of_ble_eq_true rfl) rfl ?_
  intro p e s m args below meth c ls S hr hlocks hl hP hK
  have hx := S.1
  have hb := S.2.1
  refine lv_aload_n hx hb dX9_hiddenNow_0 rfl (lv_at hl 0 rfl) ?_
  refine xg (ci := 9) S inX9 rfl hK hP mW_0 8 (by decide) mF_8 kw_6_155 rfl dX9_hiddenNow_1 ?_
  refine lv_iload_n hx hb dX9_hiddenNow_4 rfl (lv_at hl 1 rfl) ?_
  refine lv_bipush (v := 16) hx hb dX9_hiddenNow_5 (by decide) ?_
  refine ximul (v := 0) S dX9_hiddenNow_7 (by decide) ?_
  refine lv_iload_n hx hb dX9_hiddenNow_8 rfl (lv_at hl 2 rfl) ?_
  refine xiadd (v := 6) S dX9_hiddenNow_9 (by decide) ?_
  refine xiald (t0 := 0) (v := (-1)) S hK hP mW_7 rfl (vin rfl) rfl dX9_hiddenNow_10 ?_
  refine lv_iconst (v := (-1)) hx hb dX9_hiddenNow_11 (by decide) ?_
  refine lv_icmp_eq (tgt := 17) hx hb dX9_hiddenNow_12 (by decide) (fun _ => ?_) (fun c => absurd c (by decide))
  refine lv_iconst (v := 0) hx hb dX9_hiddenNow_17 (by decide) ?_
  refine lv_istore_n (lv' := [(3, .int 0), (0, .ref o), (1, .int 0), (2, .int 6)]) hx hb dX9_hiddenNow_18 rfl hl (by decide) rfl (fun ls hl => ?_)
  refine lv_iconst (v := 0) hx hb dX9_hiddenNow_19 (by decide) ?_
  refine lv_istore (lv' := [(4, .int 0), (3, .int 0), (0, .ref o), (1, .int 0), (2, .int 6)]) hx hb dX9_hiddenNow_20 hl (by decide) rfl (fun ls hl => ?_)
  refine lv_iload hx hb dX9_hiddenNow_22 (lv_at hl 0 rfl) ?_
  refine lv_aload_n hx hb dX9_hiddenNow_24 rfl (lv_at hl 2 rfl) ?_
  refine xg (ci := 9) S inX9 rfl hK hP mW_0 13 (by decide) mF_13 kw_6_160 rfl dX9_hiddenNow_25 ?_
  refine lv_icmp_ge (tgt := 135) hx hb dX9_hiddenNow_28 (by decide) (fun _ => ?_) (fun c => absurd c (by decide))
  refine lv_iload_n hx hb dX9_hiddenNow_135 rfl (lv_at hl 1 rfl) ?_
  exact rdEnd S hr hlocks dX9_hiddenNow_136 rfl
