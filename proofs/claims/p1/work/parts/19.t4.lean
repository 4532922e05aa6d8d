set_option maxHeartbeats 8000000 in
set_option maxRecDepth 100000 in
theorem c_X5_has_0 (l : Launch) (D : va_G) (cI cZ cJ : ClassId) (o : Nat) (u : Nat → Nat) (x3 : Int32) : Met l yX5_has (uW yX5_has cX5_has 2 (some .boolean)) ({ frames := 0, cells := 0, slots := 0, locals := 0 }) (va_Pc [.ref (u 12), .int x3] (pS D (tyL cI cZ cJ) (xW o u cI cZ cJ))) (QcRead (0)) 0 0 (fun _ => False) := by
  refine rdStart (lv := [(0, .ref (u 12)), (1, .int x3)]) (by decide) (Nat.le_of_ble_eq_true rfl) rfl ?_
  intro p e s m args below meth c ls S hr hlocks hl hP hK
  have hx := S.1
  have hb := S.2.1
  refine lv_iload_n hx hb dX5_has_0 rfl (lv_at hl 1 rfl) ?_
  refine lv_if_lt (tgt := 16) hx hb dX5_has_1 (by decide) (fun c_1 => ?_) (fun c_1 => ?_)
  · have hi_x3 : x3 ≤ (-1) := u_lt c_1 (by decide)
    refine lv_iconst (v := 0) hx hb dX5_has_16 (by decide) ?_
    exact rdEndZ S hr hlocks dX5_has_17 rfl rfl
  · have lo_x3 : 0 ≤ x3 := l_nlt c_1
    refine lv_iload_n hx hb dX5_has_4 rfl (lv_at hl 1 rfl) ?_
    refine lv_aload_n hx hb dX5_has_5 rfl (lv_at hl 0 rfl) ?_
    refine xg (ci := 5) S inX5 rfl hK hP xW_13 0 (by decide) rfl kw_1_107 rfl dX5_has_6 ?_
    refine lv_icmp_ge (tgt := 16) hx hb dX5_has_9 (by decide) (fun _ => ?_) (fun c => absurd (b_ge lo_x3 (by decide)) c)
    refine lv_iconst (v := 0) hx hb dX5_has_16 (by decide) ?_
    exact rdEndZ S hr hlocks dX5_has_17 rfl rfl

set_option maxHeartbeats 8000000 in
set_option maxRecDepth 100000 in
theorem c_X5_isPartFor_0 (l : Launch) (D : va_G) (cI cZ cJ : ClassId) (o : Nat) (u : Nat → Nat) (x3 : Int32) : Met l yX5_isPartFor (uW yX5_isPartFor cX5_isPartFor 3 (some .boolean)) ({ frames := 1, cells := 0, slots := 0, locals := 21 }) (va_Pc [.ref (u 12), .int 4, .int x3] (pS D (tyL cI cZ cJ) (xW o u cI cZ cJ))) (QcRead (0)) 0 0 (fun _ => False) := by
  refine rdStart (lv := [(0, .ref (u 12)), (1, .int 4), (2, .int x3)]) (by decide) (Nat.le_of_ble_eq_true rfl) rfl ?_
  intro p e s m args below meth c ls S hr hlocks hl hP hK
  have hx := S.1
  have hb := S.2.1
  refine lv_aload_n hx hb dX5_isPartFor_0 rfl (lv_at hl 0 rfl) ?_
  refine lv_iload_n hx hb dX5_isPartFor_1 rfl (lv_at hl 2 rfl) ?_
  refine rdV (As := [.int x3]) (ci := 5) S (c_X5_has_0 l D cI cZ cJ o u x3) mi_X5_has kw_6_40 ⟨rfl, rfl⟩ ⟨Nat.le_of_ble_eq_true rfl, Nat.le_of_ble_eq_true rfl⟩ hP hK xW_13 rfl rfl hl.1 (Nat.le_of_ble_eq_true rfl) ⟨Nat.le_of_ble_eq_true rfl, Nat.le_of_ble_eq_true rfl⟩ dX5_isPartFor_2 ?_
  refine lv_if_eq (tgt := 16) hx hb dX5_isPartFor_5 (by decide) (fun _ => ?_) (fun c => absurd c (by decide))
  refine lv_iconst (v := 0) hx hb dX5_isPartFor_16 (by decide) ?_
  exact rdEndZ S hr hlocks dX5_isPartFor_17 rfl rfl

set_option maxHeartbeats 8000000 in
set_option maxRecDepth 100000 in
theorem c_X5_fills_9 (l : Launch) (D : va_G) (cI cZ cJ : ClassId) (o : Nat) (u : Nat → Nat) (x3 : Int32) : Met l yX5_fills (uW yX5_fills cX5_fills 3 (some .boolean)) ({ frames := 2, cells := 0, slots := 0, locals := 43 }) (va_Pc [.ref (u 12), .int 4, .int x3] (pS D (tyL cI cZ cJ) (xW o u cI cZ cJ))) (QcRead (0)) 0 0 (fun _ => False) := by
  refine rdStart (lv := [(0, .ref (u 12)), (1, .int 4), (2, .int x3)]) (by decide) (Nat.le_of_ble_eq_true rfl) rfl ?_
  intro p e s m args below meth c ls S hr hlocks hl hP hK
  have hx := S.1
  have hb := S.2.1
  refine lv_iload_n hx hb dX5_fills_0 rfl (lv_at hl 1 rfl) ?_
  refine lv_tableIn (off := 118) (tgt := 119) hx hb dX5_fills_1 (by decide) (by decide) (by decide) (by decide) ?_
  refine lv_aload_n hx hb dX5_fills_119 rfl (lv_at hl 0 rfl) ?_
  refine lv_iload_n hx hb dX5_fills_120 rfl (lv_at hl 1 rfl) ?_
  refine lv_iload_n hx hb dX5_fills_121 rfl (lv_at hl 2 rfl) ?_
  refine rdV (As := [.int 4, .int x3]) (ci := 5) S (c_X5_isPartFor_0 l D cI cZ cJ o u x3) mi_X5_isPartFor kw_6_36 ⟨rfl, rfl⟩ ⟨Nat.le_of_ble_eq_true rfl, Nat.le_of_ble_eq_true rfl⟩ hP hK xW_13 rfl rfl hl.1 (Nat.le_of_ble_eq_true rfl) ⟨Nat.le_of_ble_eq_true rfl, Nat.le_of_ble_eq_true rfl⟩ dX5_fills_122 ?_
  exact rdEndZ S hr hlocks dX5_fills_125 rfl rfl

set_option maxHeartbeats 8000000 in
set_option maxRecDepth 100000 in
theorem c_X5_suits_10 (l : Launch) (D : va_G) (cI cZ cJ : ClassId) (o : Nat) (u : Nat → Nat) (ra ga : Nat → Nat) (sz : Nat) (x2 : Int32) (x3 : Int32) (x4 : Int32) : Met l yX5_suits (uW yX5_suits cX5_suits 5 (some .boolean)) ({ frames := 3, cells := 0, slots := 0, locals := 65 }) (va_Pc [.ref (u 12), .int 2, .int x2, .int x3, .int x4] (aS ra ga D (tyL cI cZ cJ) (xW o u cI cZ cJ) sz)) (wQi (0) D (xW o u cI cZ cJ) (va_A (xW o u cI cZ cJ) sz)) 0 0 (va_A (xW o u cI cZ cJ) sz) := by
  refine aStart (lv := [(0, .ref (u 12)), (1, .int 2), (2, .int x2), (3, .int x3), (4, .int x4)]) (Qc := fun A => wQi (0) D (xW o u cI cZ cJ) A) (by decide) (Nat.le_of_ble_eq_true rfl) rfl ?_
  intro p e s m args below meth c ls A H S hr hlocks hnm hl hK hP hD hS hA hB
  have hx := S.1
  have hb := S.2.1
  refine lv_iload_n hx hb dX5_suits_0 rfl (lv_at hl 1 rfl) ?_
  refine lv_if_lt (tgt := 10) hx hb dX5_suits_1 (by decide) (fun c => absurd c (by decide)) (fun _ => ?_)
  refine lv_iload_n hx hb dX5_suits_4 rfl (lv_at hl 1 rfl) ?_
  refine lv_bipush (v := 21) hx hb dX5_suits_5 (by decide) ?_
  refine lv_icmp_le (tgt := 12) hx hb dX5_suits_7 (by decide) (fun _ => ?_) (fun c => absurd c (by decide))
  refine lv_aload_n hx hb dX5_suits_12 rfl (lv_at hl 0 rfl) ?_
  refine xgs S hB.z0 hS kw_3_91 rfl dX5_suits_13 ?_
  refine lv_iload_n hx hb dX5_suits_16 rfl (lv_at hl 1 rfl) ?_
  refine xti (v := 2) S hB.t0 hS (vin rfl) rfl dX5_suits_17 ?_
  refine lv_iload_n hx hb dX5_suits_18 rfl (lv_at hl 2 rfl) ?_
  by_cases d_19 : x2 < 0
  · have hi_x2 : x2 ≤ (-1) := u_lt d_19 (by decide)
    refine aVi (As := [.int 2, .int x2]) (ci := 5) S (c_X5_fills_6 l D cI cZ cJ o u ra ga H.size x2 hi_x2) mi_X5_fills kw_6_31 rfl rfl ⟨Nat.le_of_ble_eq_true rfl, Nat.le_of_ble_eq_true rfl⟩ hP hD hK hS hA hB xW_13 rfl rfl hl.1 (Nat.le_of_ble_eq_true rfl) ⟨Nat.le_of_ble_eq_true rfl, Nat.le_of_ble_eq_true rfl⟩ dX5_suits_19 (fun H locs hz hP hD hS => ?_)
    refine lv_if_eq (tgt := 112) hx hb dX5_suits_22 (by decide) (fun _ => ?_) (fun c => absurd c (by decide))
    refine lv_iconst (v := 0) hx hb dX5_suits_112 (by decide) ?_
    exact wEndZ S hr hlocks hP hD hS (Nat.le_of_ble_eq_true rfl) (Nat.le_of_ble_eq_true rfl) dX5_suits_113 rfl rfl
  · have lo_x2 : 0 ≤ x2 := l_nlt d_19
    by_cases d_19 : 16 ≤ x2
    · have lo_x2 : 16 ≤ x2 := d_19
      refine aVi (As := [.int 2, .int x2]) (ci := 5) S (c_X5_fills_7 l D cI cZ cJ o u ra ga H.size x2 lo_x2) mi_X5_fills kw_6_31 rfl rfl ⟨Nat.le_of_ble_eq_true rfl, Nat.le_of_ble_eq_true rfl⟩ hP hD hK hS hA hB xW_13 rfl rfl hl.1 (Nat.le_of_ble_eq_true rfl) ⟨Nat.le_of_ble_eq_true rfl, Nat.le_of_ble_eq_true rfl⟩ dX5_suits_19 (fun H locs hz hP hD hS => ?_)
      refine lv_if_eq (tgt := 112) hx hb dX5_suits_22 (by decide) (fun _ => ?_) (fun c => absurd c (by decide))
      refine lv_iconst (v := 0) hx hb dX5_suits_112 (by decide) ?_
      exact wEndZ S hr hlocks hP hD hS (Nat.le_of_ble_eq_true rfl) (Nat.le_of_ble_eq_true rfl) dX5_suits_113 rfl rfl
    · have hi_x2 : x2 ≤ 15 := u_nge d_19 (by decide)
      refine aVi (As := [.int 2, .int x2]) (ci := 5) S (c_X5_fills_8 l D cI cZ cJ o u ra ga H.size x2 lo_x2 hi_x2) mi_X5_fills kw_6_31 rfl rfl ⟨Nat.le_of_ble_eq_true rfl, Nat.le_of_ble_eq_true rfl⟩ hP hD hK hS hA hB xW_13 rfl rfl hl.1 (Nat.le_of_ble_eq_true rfl) ⟨Nat.le_of_ble_eq_true rfl, Nat.le_of_ble_eq_true rfl⟩ dX5_suits_19 (fun H locs hz hP hD hS => ?_)
      refine lv_if_eq (tgt := 112) hx hb dX5_suits_22 (by decide) (fun c => absurd c (by decide)) (fun _ => ?_)
      refine lv_aload_n hx hb dX5_suits_25 rfl (lv_at hl 0 rfl) ?_
      refine xgs S hB.z1 hS kw_3_228 rfl dX5_suits_26 ?_
      refine lv_iload_n hx hb dX5_suits_29 rfl (lv_at hl 1 rfl) ?_
      refine xti (v := 4) S hB.t1 hS (vin rfl) rfl dX5_suits_30 ?_
      refine lv_iload_n hx hb dX5_suits_31 rfl (lv_at hl 3 rfl) ?_
      refine rdV (As := [.int 4, .int x3]) (ci := 5) S (c_X5_fills_9 l D cI cZ cJ o u x3) mi_X5_fills kw_6_31 ⟨rfl, rfl⟩ ⟨Nat.le_of_ble_eq_true rfl, Nat.le_of_ble_eq_true rfl⟩ hP hK xW_13 rfl rfl hl.1 (Nat.le_of_ble_eq_true rfl) ⟨Nat.le_of_ble_eq_true rfl, Nat.le_of_ble_eq_true rfl⟩ dX5_suits_32 ?_
      refine lv_if_eq (tgt := 112) hx hb dX5_suits_35 (by decide) (fun _ => ?_) (fun c => absurd c (by decide))
      refine lv_iconst (v := 0) hx hb dX5_suits_112 (by decide) ?_
      exact wEndZ S hr hlocks hP hD hS (Nat.le_of_ble_eq_true rfl) (Nat.le_of_ble_eq_true rfl) dX5_suits_113 rfl rfl

set_option maxHeartbeats 8000000 in
set_option maxRecDepth 100000 in
theorem c_X5_fills_10 (l : Launch) (D : va_G) (cI cZ cJ : ClassId) (o : Nat) (u : Nat → Nat) (x2 : Int32) (ne_x2_0 : ¬ x2 = 0) : Met l yX5_fills (uW yX5_fills cX5_fills 3 (some .boolean)) ({ frames := 0, cells := 0, slots := 0, locals := 0 }) (va_Pc [.ref (u 12), .int 0, .int x2] (pS D (tyL cI cZ cJ) (xW o u cI cZ cJ))) (QcRead (0)) 0 0 (fun _ => False) := by
  refine rdStart (lv := [(0, .ref (u 12)), (1, .int 0), (2, .int x2)]) (by decide) (Nat.le_of_ble_eq_true rfl) rfl ?_
  intro p e s m args below meth c ls S hr hlocks hl hP hK
  have hx := S.1
  have hb := S.2.1
  refine lv_iload_n hx hb dX5_fills_0 rfl (lv_at hl 1 rfl) ?_
  refine lv_tableIn (off := 47) (tgt := 48) hx hb dX5_fills_1 (by decide) (by decide) (by decide) (by decide) ?_
  refine lv_iload_n hx hb dX5_fills_48 rfl (lv_at hl 2 rfl) ?_
  refine lv_if_ne (tgt := 56) hx hb dX5_fills_49 (by decide) (fun _ => ?_) (fun c => absurd c ne_x2_0)
  refine lv_iconst (v := 0) hx hb dX5_fills_56 (by decide) ?_
  exact rdEndZ S hr hlocks dX5_fills_57 rfl rfl

set_option maxHeartbeats 8000000 in
set_option maxRecDepth 100000 in
theorem c_X5_suits_11 (l : Launch) (D : va_G) (cI cZ cJ : ClassId) (o : Nat) (u : Nat → Nat) (ra ga : Nat → Nat) (sz : Nat) (x2 : Int32) (x3 : Int32) (x4 : Int32) : Met l yX5_suits (uW yX5_suits cX5_suits 5 (some .boolean)) ({ frames := 3, cells := 0, slots := 0, locals := 65 }) (va_Pc [.ref (u 12), .int 3, .int x2, .int x3, .int x4] (aS ra ga D (tyL cI cZ cJ) (xW o u cI cZ cJ) sz)) (wQi (0) D (xW o u cI cZ cJ) (va_A (xW o u cI cZ cJ) sz)) 0 0 (va_A (xW o u cI cZ cJ) sz) := by
  refine aStart (lv := [(0, .ref (u 12)), (1, .int 3), (2, .int x2), (3, .int x3), (4, .int x4)]) (Qc := fun A => wQi (0) D (xW o u cI cZ cJ) A) (by decide) (Nat.le_of_ble_eq_true rfl) rfl ?_
  intro p e s m args below meth c ls A H S hr hlocks hnm hl hK hP hD hS hA hB
  have hx := S.1
  have hb := S.2.1
  refine lv_iload_n hx hb dX5_suits_0 rfl (lv_at hl 1 rfl) ?_
  refine lv_if_lt (tgt := 10) hx hb dX5_suits_1 (by decide) (fun c => absurd c (by decide)) (fun _ => ?_)
  refine lv_iload_n hx hb dX5_suits_4 rfl (lv_at hl 1 rfl) ?_
  refine lv_bipush (v := 21) hx hb dX5_suits_5 (by decide) ?_
  refine lv_icmp_le (tgt := 12) hx hb dX5_suits_7 (by decide) (fun _ => ?_) (fun c => absurd c (by decide))
  refine lv_aload_n hx hb dX5_suits_12 rfl (lv_at hl 0 rfl) ?_
  refine xgs S hB.z0 hS kw_3_91 rfl dX5_suits_13 ?_
  refine lv_iload_n hx hb dX5_suits_16 rfl (lv_at hl 1 rfl) ?_
  refine xti (v := 0) S hB.t0 hS (vin rfl) rfl dX5_suits_17 ?_
  refine lv_iload_n hx hb dX5_suits_18 rfl (lv_at hl 2 rfl) ?_
  by_cases d_19 : x2 = 0
  · have e_x2 : x2 = 0 := d_19
    subst e_x2
    refine rdV (As := [.int 0, .int 0]) (ci := 5) S (c_X5_fills_3 l D cI cZ cJ o u) mi_X5_fills kw_6_31 ⟨rfl, rfl⟩ ⟨Nat.le_of_ble_eq_true rfl, Nat.le_of_ble_eq_true rfl⟩ hP hK xW_13 rfl rfl hl.1 (Nat.le_of_ble_eq_true rfl) ⟨Nat.le_of_ble_eq_true rfl, Nat.le_of_ble_eq_true rfl⟩ dX5_suits_19 ?_
    refine lv_if_eq (tgt := 112) hx hb dX5_suits_22 (by decide) (fun c => absurd c (by decide)) (fun _ => ?_)
    refine lv_aload_n hx hb dX5_suits_25 rfl (lv_at hl 0 rfl) ?_
    refine xgs S hB.z1 hS kw_3_228 rfl dX5_suits_26 ?_
    refine lv_iload_n hx hb dX5_suits_29 rfl (lv_at hl 1 rfl) ?_
    refine xti (v := 4) S hB.t1 hS (vin rfl) rfl dX5_suits_30 ?_
    refine lv_iload_n hx hb dX5_suits_31 rfl (lv_at hl 3 rfl) ?_
    refine rdV (As := [.int 4, .int x3]) (ci := 5) S (c_X5_fills_9 l D cI cZ cJ o u x3) mi_X5_fills kw_6_31 ⟨rfl, rfl⟩ ⟨Nat.le_of_ble_eq_true rfl, Nat.le_of_ble_eq_true rfl⟩ hP hK xW_13 rfl rfl hl.1 (Nat.le_of_ble_eq_true rfl) ⟨Nat.le_of_ble_eq_true rfl, Nat.le_of_ble_eq_true rfl⟩ dX5_suits_32 ?_
    refine lv_if_eq (tgt := 112) hx hb dX5_suits_35 (by decide) (fun _ => ?_) (fun c => absurd c (by decide))
    refine lv_iconst (v := 0) hx hb dX5_suits_112 (by decide) ?_
    exact wEndZ S hr hlocks hP hD hS (Nat.le_of_ble_eq_true rfl) (Nat.le_of_ble_eq_true rfl) dX5_suits_113 rfl rfl
  · have ne_x2_0 : ¬ x2 = 0 := d_19
    refine rdV (As := [.int 0, .int x2]) (ci := 5) S (c_X5_fills_10 l D cI cZ cJ o u x2 ne_x2_0) mi_X5_fills kw_6_31 ⟨rfl, rfl⟩ ⟨Nat.le_of_ble_eq_true rfl, Nat.le_of_ble_eq_true rfl⟩ hP hK xW_13 rfl rfl hl.1 (Nat.le_of_ble_eq_true rfl) ⟨Nat.le_of_ble_eq_true rfl, Nat.le_of_ble_eq_true rfl⟩ dX5_suits_19 ?_
    refine lv_if_eq (tgt := 112) hx hb dX5_suits_22 (by decide) (fun _ => ?_) (fun c => absurd c (by decide))
    refine lv_iconst (v := 0) hx hb dX5_suits_112 (by decide) ?_
    exact wEndZ S hr hlocks hP hD hS (Nat.le_of_ble_eq_true rfl) (Nat.le_of_ble_eq_true rfl) dX5_suits_113 rfl rfl

set_option maxHeartbeats 8000000 in
set_option maxRecDepth 100000 in
theorem c_X5_suits_12 (l : Launch) (D : va_G) (cI cZ cJ : ClassId) (o : Nat) (u : Nat → Nat) (ra ga : Nat → Nat) (sz : Nat) (x2 : Int32) (x3 : Int32) (x4 : Int32) : Met l yX5_suits (uW yX5_suits cX5_suits 5 (some .boolean)) ({ frames := 3, cells := 0, slots := 0, locals := 65 }) (va_Pc [.ref (u 12), .int 4, .int x2, .int x3, .int x4] (aS ra ga D (tyL cI cZ cJ) (xW o u cI cZ cJ) sz)) (wQi (0) D (xW o u cI cZ cJ) (va_A (xW o u cI cZ cJ) sz)) 0 0 (va_A (xW o u cI cZ cJ) sz) := by
  refine aStart (lv := [(0, .ref (u 12)), (1, .int 4), (2, .int x2), (3, .int x3), (4, .int x4)]) (Qc := fun A => wQi (0) D (xW o u cI cZ cJ) A) (by decide) (Nat.le_of_ble_eq_true rfl) rfl ?_
  intro p e s m args below meth c ls A H S hr hlocks hnm hl hK hP hD hS hA hB
  have hx := S.1
  have hb := S.2.1
  refine lv_iload_n hx hb dX5_suits_0 rfl (lv_at hl 1 rfl) ?_
  refine lv_if_lt (tgt := 10) hx hb dX5_suits_1 (by decide) (fun c => absurd c (by decide)) (fun _ => ?_)
  refine lv_iload_n hx hb dX5_suits_4 rfl (lv_at hl 1 rfl) ?_
  refine lv_bipush (v := 21) hx hb dX5_suits_5 (by decide) ?_
  refine lv_icmp_le (tgt := 12) hx hb dX5_suits_7 (by decide) (fun _ => ?_) (fun c => absurd c (by decide))
  refine lv_aload_n hx hb dX5_suits_12 rfl (lv_at hl 0 rfl) ?_
  refine xgs S hB.z0 hS kw_3_91 rfl dX5_suits_13 ?_
  refine lv_iload_n hx hb dX5_suits_16 rfl (lv_at hl 1 rfl) ?_
  refine xti (v := 0) S hB.t0 hS (vin rfl) rfl dX5_suits_17 ?_
  refine lv_iload_n hx hb dX5_suits_18 rfl (lv_at hl 2 rfl) ?_
  by_cases d_19 : x2 = 0
  · have e_x2 : x2 = 0 := d_19
    subst e_x2
    refine rdV (As := [.int 0, .int 0]) (ci := 5) S (c_X5_fills_3 l D cI cZ cJ o u) mi_X5_fills kw_6_31 ⟨rfl, rfl⟩ ⟨Nat.le_of_ble_eq_true rfl, Nat.le_of_ble_eq_true rfl⟩ hP hK xW_13 rfl rfl hl.1 (Nat.le_of_ble_eq_true rfl) ⟨Nat.le_of_ble_eq_true rfl, Nat.le_of_ble_eq_true rfl⟩ dX5_suits_19 ?_
    refine lv_if_eq (tgt := 112) hx hb dX5_suits_22 (by decide) (fun c => absurd c (by decide)) (fun _ => ?_)
    refine lv_aload_n hx hb dX5_suits_25 rfl (lv_at hl 0 rfl) ?_
    refine xgs S hB.z1 hS kw_3_228 rfl dX5_suits_26 ?_
    refine lv_iload_n hx hb dX5_suits_29 rfl (lv_at hl 1 rfl) ?_
    refine xti (v := 4) S hB.t1 hS (vin rfl) rfl dX5_suits_30 ?_
    refine lv_iload_n hx hb dX5_suits_31 rfl (lv_at hl 3 rfl) ?_
    refine rdV (As := [.int 4, .int x3]) (ci := 5) S (c_X5_fills_9 l D cI cZ cJ o u x3) mi_X5_fills kw_6_31 ⟨rfl, rfl⟩ ⟨Nat.le_of_ble_eq_true rfl, Nat.le_of_ble_eq_true rfl⟩ hP hK xW_13 rfl rfl hl.1 (Nat.le_of_ble_eq_true rfl) ⟨Nat.le_of_ble_eq_true rfl, Nat.le_of_ble_eq_true rfl⟩ dX5_suits_32 ?_
    refine lv_if_eq (tgt := 112) hx hb dX5_suits_35 (by decide) (fun _ => ?_) (fun c => absurd c (by decide))
    refine lv_iconst (v := 0) hx hb dX5_suits_112 (by decide) ?_
    exact wEndZ S hr hlocks hP hD hS (Nat.le_of_ble_eq_true rfl) (Nat.le_of_ble_eq_true rfl) dX5_suits_113 rfl rfl
  · have ne_x2_0 : ¬ x2 = 0 := d_19
    refine rdV (As := [.int 0, .int x2]) (ci := 5) S (c_X5_fills_10 l D cI cZ cJ o u x2 ne_x2_0) mi_X5_fills kw_6_31 ⟨rfl, rfl⟩ ⟨Nat.le_of_ble_eq_true rfl, Nat.le_of_ble_eq_true rfl⟩ hP hK xW_13 rfl rfl hl.1 (Nat.le_of_ble_eq_true rfl) ⟨Nat.le_of_ble_eq_true rfl, Nat.le_of_ble_eq_true rfl⟩ dX5_suits_19 ?_
    refine lv_if_eq (tgt := 112) hx hb dX5_suits_22 (by decide) (fun _ => ?_) (fun c => absurd c (by decide))
    refine lv_iconst (v := 0) hx hb dX5_suits_112 (by decide) ?_
    exact wEndZ S hr hlocks hP hD hS (Nat.le_of_ble_eq_true rfl) (Nat.le_of_ble_eq_true rfl) dX5_suits_113 rfl rfl

set_option maxHeartbeats 8000000 in
set_option maxRecDepth 100000 in
theorem c_X5_suits_13 (l : Launch) (D : va_G) (cI cZ cJ : ClassId) (o : Nat) (u : Nat → Nat) (ra ga : Nat → Nat) (sz : Nat) (x2 : Int32) (x3 : Int32) (x4 : Int32) : Met l yX5_suits (uW yX5_suits cX5_suits 5 (some .boolean)) ({ frames := 3, cells := 0, slots := 0, locals := 65 }) (va_Pc [.ref (u 12), .int 5, .int x2, .int x3, .int x4] (aS ra ga D (tyL cI cZ cJ) (xW o u cI cZ cJ) sz)) (wQi (0) D (xW o u cI cZ cJ) (va_A (xW o u cI cZ cJ) sz)) 0 0 (va_A (xW o u cI cZ cJ) sz) := by
  refine aStart (lv := [(0, .ref (u 12)), (1, .int 5), (2, .int x2), (3, .int x3), (4, .int x4)]) (Qc := fun A => wQi (0) D (xW o u cI cZ cJ) A) (by decide) (Nat.le_of_ble_eq_true rfl) rfl ?_
  intro p e s m args below meth c ls A H S hr hlocks hnm hl hK hP hD hS hA hB
  have hx := S.1
  have hb := S.2.1
  refine lv_iload_n hx hb dX5_suits_0 rfl (lv_at hl 1 rfl) ?_
  refine lv_if_lt (tgt := 10) hx hb dX5_suits_1 (by decide) (fun c => absurd c (by decide)) (fun _ => ?_)
  refine lv_iload_n hx hb dX5_suits_4 rfl (lv_at hl 1 rfl) ?_
  refine lv_bipush (v := 21) hx hb dX5_suits_5 (by decide) ?_
  refine lv_icmp_le (tgt := 12) hx hb dX5_suits_7 (by decide) (fun _ => ?_) (fun c => absurd c (by decide))
  refine lv_aload_n hx hb dX5_suits_12 rfl (lv_at hl 0 rfl) ?_
  refine xgs S hB.z0 hS kw_3_91 rfl dX5_suits_13 ?_
  refine lv_iload_n hx hb dX5_suits_16 rfl (lv_at hl 1 rfl) ?_
  refine xti (v := 0) S hB.t0 hS (vin rfl) rfl dX5_suits_17 ?_
  refine lv_iload_n hx hb dX5_suits_18 rfl (lv_at hl 2 rfl) ?_
  by_cases d_19 : x2 = 0
  · have e_x2 : x2 = 0 := d_19
    subst e_x2
    refine rdV (As := [.int 0, .int 0]) (ci := 5) S (c_X5_fills_3 l D cI cZ cJ o u) mi_X5_fills kw_6_31 ⟨rfl, rfl⟩ ⟨Nat.le_of_ble_eq_true rfl, Nat.le_of_ble_eq_true rfl⟩ hP hK xW_13 rfl rfl hl.1 (Nat.le_of_ble_eq_true rfl) ⟨Nat.le_of_ble_eq_true rfl, Nat.le_of_ble_eq_true rfl⟩ dX5_suits_19 ?_
    refine lv_if_eq (tgt := 112) hx hb dX5_suits_22 (by decide) (fun c => absurd c (by decide)) (fun _ => ?_)
    refine lv_aload_n hx hb dX5_suits_25 rfl (lv_at hl 0 rfl) ?_
    refine xgs S hB.z1 hS kw_3_228 rfl dX5_suits_26 ?_
    refine lv_iload_n hx hb dX5_suits_29 rfl (lv_at hl 1 rfl) ?_
    refine xti (v := 4) S hB.t1 hS (vin rfl) rfl dX5_suits_30 ?_
    refine lv_iload_n hx hb dX5_suits_31 rfl (lv_at hl 3 rfl) ?_
    refine rdV (As := [.int 4, .int x3]) (ci := 5) S (c_X5_fills_9 l D cI cZ cJ o u x3) mi_X5_fills kw_6_31 ⟨rfl, rfl⟩ ⟨Nat.le_of_ble_eq_true rfl, Nat.le_of_ble_eq_true rfl⟩ hP hK xW_13 rfl rfl hl.1 (Nat.le_of_ble_eq_true rfl) ⟨Nat.le_of_ble_eq_true rfl, Nat.le_of_ble_eq_true rfl⟩ dX5_suits_32 ?_
    refine lv_if_eq (tgt := 112) hx hb dX5_suits_35 (by decide) (fun _ => ?_) (fun c => absurd c (by decide))
    refine lv_iconst (v := 0) hx hb dX5_suits_112 (by decide) ?_
    exact wEndZ S hr hlocks hP hD hS (Nat.le_of_ble_eq_true rfl) (Nat.le_of_ble_eq_true rfl) dX5_suits_113 rfl rfl
  · have ne_x2_0 : ¬ x2 = 0 := d_19
    refine rdV (As := [.int 0, .int x2]) (ci := 5) S (c_X5_fills_10 l D cI cZ cJ o u x2 ne_x2_0) mi_X5_fills kw_6_31 ⟨rfl, rfl⟩ ⟨Nat.le_of_ble_eq_true rfl, Nat.le_of_ble_eq_true rfl⟩ hP hK xW_13 rfl rfl hl.1 (Nat.le_of_ble_eq_true rfl) ⟨Nat.le_of_ble_eq_true rfl, Nat.le_of_ble_eq_true rfl⟩ dX5_suits_19 ?_
    refine lv_if_eq (tgt := 112) hx hb dX5_suits_22 (by decide) (fun _ => ?_) (fun c => absurd c (by decide))
    refine lv_iconst (v := 0) hx hb dX5_suits_112 (by decide) ?_
    exact wEndZ S hr hlocks hP hD hS (Nat.le_of_ble_eq_true rfl) (Nat.le_of_ble_eq_true rfl) dX5_suits_113 rfl rfl

set_option maxHeartbeats 8000000 in
set_option maxRecDepth 100000 in
theorem c_X5_suits_14 (l : Launch) (D : va_G) (cI cZ cJ : ClassId) (o : Nat) (u : Nat → Nat) (ra ga : Nat → Nat) (sz : Nat) (x2 : Int32) (x3 : Int32) (x4 : Int32) : Met l yX5_suits (uW yX5_suits cX5_suits 5 (some .boolean)) ({ frames := 3, cells := 0, slots := 0, locals := 65 }) (va_Pc [.ref (u 12), .int 6, .int x2, .int x3, .int x4] (aS ra ga D (tyL cI cZ cJ) (xW o u cI cZ cJ) sz)) (wQi (0) D (xW o u cI cZ cJ) (va_A (xW o u cI cZ cJ) sz)) 0 0 (va_A (xW o u cI cZ cJ) sz) := by
  refine aStart (lv := [(0, .ref (u 12)), (1, .int 6), (2, .int x2), (3, .int x3), (4, .int x4)]) (Qc := fun A => wQi (0) D (xW o u cI cZ cJ) A) (by decide) (Nat.le_of_ble_eq_true rfl) rfl ?_
  intro p e s m args below meth c ls A H S hr hlocks hnm hl hK hP hD hS hA hB
  have hx := S.1
  have hb := S.2.1
  refine lv_iload_n hx hb dX5_suits_0 rfl (lv_at hl 1 rfl) ?_
  refine lv_if_lt (tgt := 10) hx hb dX5_suits_1 (by decide) (fun c => absurd c (by decide)) (fun _ => ?_)
  refine lv_iload_n hx hb dX5_suits_4 rfl (lv_at hl 1 rfl) ?_
  refine lv_bipush (v := 21) hx hb dX5_suits_5 (by decide) ?_
  refine lv_icmp_le (tgt := 12) hx hb dX5_suits_7 (by decide) (fun _ => ?_) (fun c => absurd c (by decide))
  refine lv_aload_n hx hb dX5_suits_12 rfl (lv_at hl 0 rfl) ?_
  refine xgs S hB.z0 hS kw_3_91 rfl dX5_suits_13 ?_
  refine lv_iload_n hx hb dX5_suits_16 rfl (lv_at hl 1 rfl) ?_
  refine xti (v := 0) S hB.t0 hS (vin rfl) rfl dX5_suits_17 ?_
  refine lv_iload_n hx hb dX5_suits_18 rfl (lv_at hl 2 rfl) ?_
  by_cases d_19 : x2 = 0
  · have e_x2 : x2 = 0 := d_19
    subst e_x2
    refine rdV (As := [.int 0, .int 0]) (ci := 5) S (c_X5_fills_3 l D cI cZ cJ o u) mi_X5_fills kw_6_31 ⟨rfl, rfl⟩ ⟨Nat.le_of_ble_eq_true rfl, Nat.le_of_ble_eq_true rfl⟩ hP hK xW_13 rfl rfl hl.1 (Nat.le_of_ble_eq_true rfl) ⟨Nat.le_of_ble_eq_true rfl, Nat.le_of_ble_eq_true rfl⟩ dX5_suits_19 ?_
    refine lv_if_eq (tgt := 112) hx hb dX5_suits_22 (by decide) (fun c => absurd c (by decide)) (fun _ => ?_)
    refine lv_aload_n hx hb dX5_suits_25 rfl (lv_at hl 0 rfl) ?_
    refine xgs S hB.z1 hS kw_3_228 rfl dX5_suits_26 ?_
    refine lv_iload_n hx hb dX5_suits_29 rfl (lv_at hl 1 rfl) ?_
    refine xti (v := 4) S hB.t1 hS (vin rfl) rfl dX5_suits_30 ?_
    refine lv_iload_n hx hb dX5_suits_31 rfl (lv_at hl 3 rfl) ?_
    refine rdV (As := [.int 4, .int x3]) (ci := 5) S (c_X5_fills_9 l D cI cZ cJ o u x3) mi_X5_fills kw_6_31 ⟨rfl, rfl⟩ ⟨Nat.le_of_ble_eq_true rfl, Nat.le_of_ble_eq_true rfl⟩ hP hK xW_13 rfl rfl hl.1 (Nat.le_of_ble_eq_true rfl) ⟨Nat.le_of_ble_eq_true rfl, Nat.le_of_ble_eq_true rfl⟩ dX5_suits_32 ?_
    refine lv_if_eq (tgt := 112) hx hb dX5_suits_35 (by decide) (fun _ => ?_) (fun c => absurd c (by decide))
    refine lv_iconst (v := 0) hx hb dX5_suits_112 (by decide) ?_
    exact wEndZ S hr hlocks hP hD hS (Nat.le_of_ble_eq_true rfl) (Nat.le_of_ble_eq_true rfl) dX5_suits_113 rfl rfl
  · have ne_x2_0 : ¬ x2 = 0 := d_19
    refine rdV (As := [.int 0, .int x2]) (ci := 5) S (c_X5_fills_10 l D cI cZ cJ o u x2 ne_x2_0) mi_X5_fills kw_6_31 ⟨rfl, rfl⟩ ⟨Nat.le_of_ble_eq_true rfl, Nat.le_of_ble_eq_true rfl⟩ hP hK xW_13 rfl rfl hl.1 (Nat.le_of_ble_eq_true rfl) ⟨Nat.le_of_ble_eq_true rfl, Nat.le_of_ble_eq_true rfl⟩ dX5_suits_19 ?_
    refine lv_if_eq (tgt := 112) hx hb dX5_suits_22 (by decide) (fun _ => ?_) (fun c => absurd c (by decide))
    refine lv_iconst (v := 0) hx hb dX5_suits_112 (by decide) ?_
    exact wEndZ S hr hlocks hP hD hS (Nat.le_of_ble_eq_true rfl) (Nat.le_of_ble_eq_true rfl) dX5_suits_113 rfl rfl

set_option maxHeartbeats 8000000 in
set_option maxRecDepth 100000 in
theorem c_X5_suits_15 (l : Launch) (D : va_G) (cI cZ cJ : ClassId) (o : Nat) (u : Nat → Nat) (ra ga : Nat → Nat) (sz : Nat) (x2 : Int32) (x3 : Int32) (x4 : Int32) : Met l yX5_suits (uW yX5_suits cX5_suits 5 (some .boolean)) ({ frames := 3, cells := 0, slots := 0, locals := 65 }) (va_Pc [.ref (u 12), .int 7, .int x2, .int x3, .int x4] (aS ra ga D (tyL cI cZ cJ) (xW o u cI cZ cJ) sz)) (wQi (0) D (xW o u cI cZ cJ) (va_A (xW o u cI cZ cJ) sz)) 0 0 (va_A (xW o u cI cZ cJ) sz) := by
  refine aStart (lv := [(0, .ref (u 12)), (1, .int 7), (2, .int x2), (3, .int x3), (4, .int x4)]) (Qc := fun A => wQi (0) D (xW o u cI cZ cJ) A) (by decide) (Nat.le_of_ble_eq_true rfl) rfl ?_
  intro p e s m args below meth c ls A H S hr hlocks hnm hl hK hP hD hS hA hB
  have hx := S.1
  have hb := S.2.1
  refine lv_iload_n hx hb dX5_suits_0 rfl (lv_at hl 1 rfl) ?_
  refine lv_if_lt (tgt := 10) hx hb dX5_suits_1 (by decide) (fun c => absurd c (by decide)) (fun _ => ?_)
  refine lv_iload_n hx hb dX5_suits_4 rfl (lv_at hl 1 rfl) ?_
  refine lv_bipush (v := 21) hx hb dX5_suits_5 (by decide) ?_
  refine lv_icmp_le (tgt := 12) hx hb dX5_suits_7 (by decide) (fun _ => ?_) (fun c => absurd c (by decide))
  refine lv_aload_n hx hb dX5_suits_12 rfl (lv_at hl 0 rfl) ?_
  refine xgs S hB.z0 hS kw_3_91 rfl dX5_suits_13 ?_
  refine lv_iload_n hx hb dX5_suits_16 rfl (lv_at hl 1 rfl) ?_
  refine xti (v := 0) S hB.t0 hS (vin rfl) rfl dX5_suits_17 ?_
  refine lv_iload_n hx hb dX5_suits_18 rfl (lv_at hl 2 rfl) ?_
  by_cases d_19 : x2 = 0
  · have e_x2 : x2 = 0 := d_19
    subst e_x2
    refine rdV (As := [.int 0, .int 0]) (ci := 5) S (c_X5_fills_3 l D cI cZ cJ o u) mi_X5_fills kw_6_31 ⟨rfl, rfl⟩ ⟨Nat.le_of_ble_eq_true rfl, Nat.le_of_ble_eq_true rfl⟩ hP hK xW_13 rfl rfl hl.1 (Nat.le_of_ble_eq_true rfl) ⟨Nat.le_of_ble_eq_true rfl, Nat.le_of_ble_eq_true rfl⟩ dX5_suits_19 ?_
    refine lv_if_eq (tgt := 112) hx hb dX5_suits_22 (by decide) (fun c => absurd c (by decide)) (fun _ => ?_)
    refine lv_aload_n hx hb dX5_suits_25 rfl (lv_at hl 0 rfl) ?_
    refine xgs S hB.z1 hS kw_3_228 rfl dX5_suits_26 ?_
    refine lv_iload_n hx hb dX5_suits_29 rfl (lv_at hl 1 rfl) ?_
    refine xti (v := 4) S hB.t1 hS (vin rfl) rfl dX5_suits_30 ?_
    refine lv_iload_n hx hb dX5_suits_31 rfl (lv_at hl 3 rfl) ?_
    refine rdV (As := [.int 4, .int x3]) (ci := 5) S (c_X5_fills_9 l D cI cZ cJ o u x3) mi_X5_fills kw_6_31 ⟨rfl, rfl⟩ ⟨Nat.le_of_ble_eq_true rfl, Nat.le_of_ble_eq_true rfl⟩ hP hK xW_13 rfl rfl hl.1 (Nat.le_of_ble_eq_true rfl) ⟨Nat.le_of_ble_eq_true rfl, Nat.le_of_ble_eq_true rfl⟩ dX5_suits_32 ?_
    refine lv_if_eq (tgt := 112) hx hb dX5_suits_35 (by decide) (fun _ => ?_) (fun c => absurd c (by decide))
    refine lv_iconst (v := 0) hx hb dX5_suits_112 (by decide) ?_
    exact wEndZ S hr hlocks hP hD hS (Nat.le_of_ble_eq_true rfl) (Nat.le_of_ble_eq_true rfl) dX5_suits_113 rfl rfl
  · have ne_x2_0 : ¬ x2 = 0 := d_19
    refine rdV (As := [.int 0, .int x2]) (ci := 5) S (c_X5_fills_10 l D cI cZ cJ o u x2 ne_x2_0) mi_X5_fills kw_6_31 ⟨rfl, rfl⟩ ⟨Nat.le_of_ble_eq_true rfl, Nat.le_of_ble_eq_true rfl⟩ hP hK xW_13 rfl rfl hl.1 (Nat.le_of_ble_eq_true rfl) ⟨Nat.le_of_ble_eq_true rfl, Nat.le_of_ble_eq_true rfl⟩ dX5_suits_19 ?_
    refine lv_if_eq (tgt := 112) hx hb dX5_suits_22 (by decide) (fun _ => ?_) (fun c => absurd c (by decide))
    refine lv_iconst (v := 0) hx hb dX5_suits_112 (by decide) ?_
    exact wEndZ S hr hlocks hP hD hS (Nat.le_of_ble_eq_true rfl) (Nat.le_of_ble_eq_true rfl) dX5_suits_113 rfl rfl

set_option maxHeartbeats 8000000 in
set_option maxRecDepth 100000 in
theorem c_X5_has_1 (l : Launch) (D : va_G) (cI cZ cJ : ClassId) (o : Nat) (u : Nat → Nat) (x3 : Int32) (ne_x3_m1 : ¬ x3 = (-1)) : Met l yX5_has (uW yX5_has cX5_has 2 (some .boolean)) ({ frames := 0, cells := 0, slots := 0, locals := 0 }) (va_Pc [.ref (u 12), .int x3] (pS D (tyL cI cZ cJ) (xW o u cI cZ cJ))) (QcRead (0)) 0 0 (fun _ => False) := by
  refine rdStart (lv := [(0, .ref (u 12)), (1, .int x3)]) (by decide) (Nat.le_of_ble_eq_true rfl) rfl ?_
  intro p e s m args below meth c ls S hr hlocks hl hP hK
  have hx := S.1
  have hb := S.2.1
  refine lv_iload_n hx hb dX5_has_0 rfl (lv_at hl 1 rfl) ?_
  refine lv_if_lt (tgt := 16) hx hb dX5_has_1 (by decide) (fun c_1 => ?_) (fun c_1 => ?_)
  · have hi_x3 : x3 ≤ (-1) := u_lt c_1 (by decide)
    have hi_x3 : x3 ≤ (-2) := u_ne ne_x3_m1 hi_x3 (by decide)
    refine lv_iconst (v := 0) hx hb dX5_has_16 (by decide) ?_
    exact rdEndZ S hr hlocks dX5_has_17 rfl rfl
  · have lo_x3 : 0 ≤ x3 := l_nlt c_1
    refine lv_iload_n hx hb dX5_has_4 rfl (lv_at hl 1 rfl) ?_
    refine lv_aload_n hx hb dX5_has_5 rfl (lv_at hl 0 rfl) ?_
    refine xg (ci := 5) S inX5 rfl hK hP xW_13 0 (by decide) rfl kw_1_107 rfl dX5_has_6 ?_
    refine lv_icmp_ge (tgt := 16) hx hb dX5_has_9 (by decide) (fun _ => ?_) (fun c => absurd (b_ge lo_x3 (by decide)) c)
    refine lv_iconst (v := 0) hx hb dX5_has_16 (by decide) ?_
    exact rdEndZ S hr hlocks dX5_has_17 rfl rfl

set_option maxHeartbeats 8000000 in
set_option maxRecDepth 100000 in
theorem c_X5_isPartFor_1 (l : Launch) (D : va_G) (cI cZ cJ : ClassId) (o : Nat) (u : Nat → Nat) (x3 : Int32) (ne_x3_m1 : ¬ x3 = (-1)) : Met l yX5_isPartFor (uW yX5_isPartFor cX5_isPartFor 3 (some .boolean)) ({ frames := 1, cells := 0, slots := 0, locals := 21 }) (va_Pc [.ref (u 12), .int 7, .int x3] (pS D (tyL cI cZ cJ) (xW o u cI cZ cJ))) (QcRead (0)) 0 0 (fun _ => False) := by
  refine rdStart (lv := [(0, .ref (u 12)), (1, .int 7), (2, .int x3)]) (by decide) (Nat.le_of_ble_eq_true rfl) rfl ?_
  intro p e s m args below meth c ls S hr hlocks hl hP hK
  have hx := S.1
  have hb := S.2.1
  refine lv_aload_n hx hb dX5_isPartFor_0 rfl (lv_at hl 0 rfl) ?_
  refine lv_iload_n hx hb dX5_isPartFor_1 rfl (lv_at hl 2 rfl) ?_
  refine rdV (As := [.int x3]) (ci := 5) S (c_X5_has_1 l D cI cZ cJ o u x3 ne_x3_m1) mi_X5_has kw_6_40 ⟨rfl, rfl⟩ ⟨Nat.le_of_ble_eq_true rfl, Nat.le_of_ble_eq_true rfl⟩ hP hK xW_13 rfl rfl hl.1 (Nat.le_of_ble_eq_true rfl) ⟨Nat.le_of_ble_eq_true rfl, Nat.le_of_ble_eq_true rfl⟩ dX5_isPartFor_2 ?_
  refine lv_if_eq (tgt := 16) hx hb dX5_isPartFor_5 (by decide) (fun _ => ?_) (fun c => absurd c (by decide))
  refine lv_iconst (v := 0) hx hb dX5_isPartFor_16 (by decide) ?_
  exact rdEndZ S hr hlocks dX5_isPartFor_17 rfl rfl

set_option maxHeartbeats 8000000 in
set_option maxRecDepth 100000 in
theorem c_X5_fills_11 (l : Launch) (D : va_G) (cI cZ cJ : ClassId) (o : Nat) (u : Nat → Nat) : Met l yX5_fills (uW yX5_fills cX5_fills 3 (some .boolean)) ({ frames := 0, cells := 0, slots := 0, locals := 0 }) (va_Pc [.ref (u 12), .int 7, .int (-1)] (pS D (tyL cI cZ cJ) (xW o u cI cZ cJ))) (QcRead (1)) 0 0 (fun _ => False) := by
  refine rdStart (lv := [(0, .ref (u 12)), (1, .int 7), (2, .int (-1))]) (by decide) (Nat.le_of_ble_eq_true rfl) rfl ?_
  intro p e s m args below meth c ls S hr hlocks hl hP hK
  have hx := S.1
  have hb := S.2.1
  refine lv_iload_n hx hb dX5_fills_0 rfl (lv_at hl 1 rfl) ?_
  refine lv_tableIn (off := 98) (tgt := 99) hx hb dX5_fills_1 (by decide) (by decide) (by decide) (by decide) ?_
  refine lv_iload_n hx hb dX5_fills_99 rfl (lv_at hl 2 rfl) ?_
  refine lv_iconst (v := (-1)) hx hb dX5_fills_100 (by decide) ?_
  refine lv_icmp_eq (tgt := 113) hx hb dX5_fills_101 (by decide) (fun _ => ?_) (fun c => absurd c (by decide))
  refine lv_iconst (v := 1) hx hb dX5_fills_113 (by decide) ?_
  refine lv_goto (tgt := 118) hx hb dX5_fills_114 (by decide) ?_
  exact rdEndZ S hr hlocks dX5_fills_118 rfl rfl

set_option maxHeartbeats 8000000 in
set_option maxRecDepth 100000 in
theorem c_X5_isSamePart_3 (l : Launch) (D : va_G) (cI cZ cJ : ClassId) (o : Nat) (u : Nat → Nat) (x2 : Int32) (lo_x2 : 0 ≤ x2) (hi_x2 : x2 ≤ 15) : Met l yX5_isSamePart (uW yX5_isSamePart cX5_isSamePart 4 (some .boolean)) ({ frames := 0, cells := 0, slots := 0, locals := 0 }) (va_Pc [.int 2, .int x2, .int 7, .int (-1)] (pS D (tyL cI cZ cJ) (xW o u cI cZ cJ))) (QcRead (0)) 0 0 (fun _ => False) := by
  refine rdStart (lv := [(0, .int 2), (1, .int x2), (2, .int 7), (3, .int (-1))]) (by decide) (Nat.le_of_ble_eq_true rfl) rfl ?_
  intro p e s m args below meth c ls S hr hlocks hl hP hK
  have hx := S.1
  have hb := S.2.1
  refine lv_iload_n hx hb dX5_isSamePart_0 rfl (lv_at hl 0 rfl) ?_
  refine lv_iconst (v := 4) hx hb dX5_isSamePart_1 (by decide) ?_
  refine lv_icmp_lt (tgt := 24) hx hb dX5_isSamePart_2 (by decide) (fun _ => ?_) (fun c => absurd c (by decide))
  refine lv_iconst (v := 0) hx hb dX5_isSamePart_24 (by decide) ?_
  exact rdEndZ S hr hlocks dX5_isSamePart_25 rfl rfl

set_option maxHeartbeats 8000000 in
set_option maxRecDepth 100000 in
theorem c_X5_isSamePart_4 (l : Launch) (D : va_G) (cI cZ cJ : ClassId) (o : Nat) (u : Nat → Nat) : Met l yX5_isSamePart (uW yX5_isSamePart cX5_isSamePart 4 (some .boolean)) ({ frames := 0, cells := 0, slots := 0, locals := 0 }) (va_Pc [.int 7, .int (-1), .int 0, .int 0] (pS D (tyL cI cZ cJ) (xW o u cI cZ cJ))) (QcRead (0)) 0 0 (fun _ => False) := by
  refine rdStart (lv := [(0, .int 7), (1, .int (-1)), (2, .int 0), (3, .int 0)]) (by decide) (Nat.le_of_ble_eq_true rfl) rfl ?_
  intro p e s m args below meth c ls S hr hlocks hl hP hK
  have hx := S.1
  have hb := S.2.1
  refine lv_iload_n hx hb dX5_isSamePart_0 rfl (lv_at hl 0 rfl) ?_
  refine lv_iconst (v := 4) hx hb dX5_isSamePart_1 (by decide) ?_
  refine lv_icmp_lt (tgt := 24) hx hb dX5_isSamePart_2 (by decide) (fun c => absurd c (by decide)) (fun _ => ?_)
  refine lv_iload_n hx hb dX5_isSamePart_5 rfl (lv_at hl 2 rfl) ?_
  refine lv_iconst (v := 4) hx hb dX5_isSamePart_6 (by decide) ?_
  refine lv_icmp_lt (tgt := 24) hx hb dX5_isSamePart_7 (by decide) (fun _ => ?_) (fun c => absurd c (by decide))
  refine lv_iconst (v := 0) hx hb dX5_isSamePart_24 (by decide) ?_
  exact rdEndZ S hr hlocks dX5_isSamePart_25 rfl rfl

set_option maxHeartbeats 8000000 in
set_option maxRecDepth 100000 in
theorem c_X5_fills_12 (l : Launch) (D : va_G) (cI cZ cJ : ClassId) (o : Nat) (u : Nat → Nat) (x3 : Int32) (ne_x3_m1 : ¬ x3 = (-1)) : Met l yX5_fills (uW yX5_fills cX5_fills 3 (some .boolean)) ({ frames := 2, cells := 0, slots := 0, locals := 43 }) (va_Pc [.ref (u 12), .int 7, .int x3] (pS D (tyL cI cZ cJ) (xW o u cI cZ cJ))) (QcRead (0)) 0 0 (fun _ => False) := by
  refine rdStart (lv := [(0, .ref (u 12)), (1, .int 7), (2, .int x3)]) (by decide) (Nat.le_of_ble_eq_true rfl) rfl ?_
  intro p e s m args below meth c ls S hr hlocks hl hP hK
  have hx := S.1
  have hb := S.2.1
  refine lv_iload_n hx hb dX5_fills_0 rfl (lv_at hl 1 rfl) ?_
  refine lv_tableIn (off := 98) (tgt := 99) hx hb dX5_fills_1 (by decide) (by decide) (by decide) (by decide) ?_
  refine lv_iload_n hx hb dX5_fills_99 rfl (lv_at hl 2 rfl) ?_
  refine lv_iconst (v := (-1)) hx hb dX5_fills_100 (by decide) ?_
  refine lv_icmp_eq (tgt := 113) hx hb dX5_fills_101 (by decide) (fun c => absurd c ne_x3_m1) (fun _ => ?_)
  refine lv_aload_n hx hb dX5_fills_104 rfl (lv_at hl 0 rfl) ?_
  refine lv_iload_n hx hb dX5_fills_105 rfl (lv_at hl 1 rfl) ?_
  refine lv_iload_n hx hb dX5_fills_106 rfl (lv_at hl 2 rfl) ?_
  refine rdV (As := [.int 7, .int x3]) (ci := 5) S (c_X5_isPartFor_1 l D cI cZ cJ o u x3 ne_x3_m1) mi_X5_isPartFor kw_6_36 ⟨rfl, rfl⟩ ⟨Nat.le_of_ble_eq_true rfl, Nat.le_of_ble_eq_true rfl⟩ hP hK xW_13 rfl rfl hl.1 (Nat.le_of_ble_eq_true rfl) ⟨Nat.le_of_ble_eq_true rfl, Nat.le_of_ble_eq_true rfl⟩ dX5_fills_107 ?_
  refine lv_if_eq (tgt := 117) hx hb dX5_fills_110 (by decide) (fun _ => ?_) (fun c => absurd c (by decide))
  refine lv_iconst (v := 0) hx hb dX5_fills_117 (by decide) ?_
  exact rdEndZ S hr hlocks dX5_fills_118 rfl rfl

set_option maxHeartbeats 8000000 in
set_option maxRecDepth 100000 in
theorem c_X5_suits_16 (l : Launch) (D : va_G) (cI cZ cJ : ClassId) (o : Nat) (u : Nat → Nat) (ra ga : Nat → Nat) (sz : Nat) (x2 : Int32) (x3 : Int32) (x4 : Int32) (hi_x2 : x2 ≤ (-1)) : Met l yX5_suits (uW yX5_suits cX5_suits 5 (some .boolean)) ({ frames := 2, cells := 0, slots := 0, locals := 42 }) (va_Pc [.ref (u 12), .int 8, .int x2, .int x3, .int x4] (aS ra ga D (tyL cI cZ cJ) (xW o u cI cZ cJ) sz)) (wQi (0) D (xW o u cI cZ cJ) (va_A (xW o u cI cZ cJ) sz)) 0 0 (va_A (xW o u cI cZ cJ) sz) := by
  refine aStart (lv := [(0, .ref (u 12)), (1, .int 8), (2, .int x2), (3, .int x3), (4, .int x4)]) (Qc := fun A => wQi (0) D (xW o u cI cZ cJ) A) (by decide) (Nat.le_of_ble_eq_true rfl) rfl ?_
  intro p e s m args below meth c ls A H S hr hlocks hnm hl hK hP hD hS hA hB
  have hx := S.1
  have hb := S.2.1
  refine lv_iload_n hx hb dX5_suits_0 rfl (lv_at hl 1 rfl) ?_
  refine lv_if_lt (tgt := 10) hx hb dX5_suits_1 (by decide) (fun c => absurd c (by decide)) (fun _ => ?_)
  refine lv_iload_n hx hb dX5_suits_4 rfl (lv_at hl 1 rfl) ?_
  refine lv_bipush (v := 21) hx hb dX5_suits_5 (by decide) ?_
  refine lv_icmp_le (tgt := 12) hx hb dX5_suits_7 (by decide) (fun _ => ?_) (fun c => absurd c (by decide))
  refine lv_aload_n hx hb dX5_suits_12 rfl (lv_at hl 0 rfl) ?_
  refine xgs S hB.z0 hS kw_3_91 rfl dX5_suits_13 ?_
  refine lv_iload_n hx hb dX5_suits_16 rfl (lv_at hl 1 rfl) ?_
  refine xti (v := 2) S hB.t0 hS (vin rfl) rfl dX5_suits_17 ?_
  refine lv_iload_n hx hb dX5_suits_18 rfl (lv_at hl 2 rfl) ?_
  refine aVi (As := [.int 2, .int x2]) (ci := 5) S (c_X5_fills_6 l D cI cZ cJ o u ra ga H.size x2 hi_x2) mi_X5_fills kw_6_31 rfl rfl ⟨Nat.le_of_ble_eq_true rfl, Nat.le_of_ble_eq_true rfl⟩ hP hD hK hS hA hB xW_13 rfl rfl hl.1 (Nat.le_of_ble_eq_true rfl) ⟨Nat.le_of_ble_eq_true rfl, Nat.le_of_ble_eq_true rfl⟩ dX5_suits_19 (fun H locs hz hP hD hS => ?_)
  refine lv_if_eq (tgt := 112) hx hb dX5_suits_22 (by decide) (fun _ => ?_) (fun c => absurd c (by decide))
  refine lv_iconst (v := 0) hx hb dX5_suits_112 (by decide) ?_
  exact wEndZ S hr hlocks hP hD hS (Nat.le_of_ble_eq_true rfl) (Nat.le_of_ble_eq_true rfl) dX5_suits_113 rfl rfl

set_option maxHeartbeats 8000000 in
set_option maxRecDepth 100000 in
theorem c_X5_suits_17 (l : Launch) (D : va_G) (cI cZ cJ : ClassId) (o : Nat) (u : Nat → Nat) (ra ga : Nat → Nat) (sz : Nat) (x2 : Int32) (x3 : Int32) (x4 : Int32) (lo_x2 : 16 ≤ x2) : Met l yX5_suits (uW yX5_suits cX5_suits 5 (some .boolean)) ({ frames := 2, cells := 0, slots := 0, locals := 42 }) (va_Pc [.ref (u 12), .int 8, .int x2, .int x3, .int x4] (aS ra ga D (tyL cI cZ cJ) (xW o u cI cZ cJ) sz)) (wQi (0) D (xW o u cI cZ cJ) (va_A (xW o u cI cZ cJ) sz)) 0 0 (va_A (xW o u cI cZ cJ) sz) := by
  refine aStart (lv := [(0, .ref (u 12)), (1, .int 8), (2, .int x2), (3, .int x3), (4, .int x4)]) (Qc := fun A => wQi (0) D (xW o u cI cZ cJ) A) (by decide) (Nat.le_of_ble_eq_true rfl) rfl ?_
  intro p e s m args below meth c ls A H S hr hlocks hnm hl hK hP hD hS hA hB
  have hx := S.1
  have hb := S.2.1
  refine lv_iload_n hx hb dX5_suits_0 rfl (lv_at hl 1 rfl) ?_
  refine lv_if_lt (tgt := 10) hx hb dX5_suits_1 (by decide) (fun c => absurd c (by decide)) (fun _ => ?_)
  refine lv_iload_n hx hb dX5_suits_4 rfl (lv_at hl 1 rfl) ?_
  refine lv_bipush (v := 21) hx hb dX5_suits_5 (by decide) ?_
  refine lv_icmp_le (tgt := 12) hx hb dX5_suits_7 (by decide) (fun _ => ?_) (fun c => absurd c (by decide))
  refine lv_aload_n hx hb dX5_suits_12 rfl (lv_at hl 0 rfl) ?_
  refine xgs S hB.z0 hS kw_3_91 rfl dX5_suits_13 ?_
  refine lv_iload_n hx hb dX5_suits_16 rfl (lv_at hl 1 rfl) ?_
  refine xti (v := 2) S hB.t0 hS (vin rfl) rfl dX5_suits_17 ?_
  refine lv_iload_n hx hb dX5_suits_18 rfl (lv_at hl 2 rfl) ?_
  refine aVi (As := [.int 2, .int x2]) (ci := 5) S (c_X5_fills_7 l D cI cZ cJ o u ra ga H.size x2 lo_x2) mi_X5_fills kw_6_31 rfl rfl ⟨Nat.le_of_ble_eq_true rfl, Nat.le_of_ble_eq_true rfl⟩ hP hD hK hS hA hB xW_13 rfl rfl hl.1 (Nat.le_of_ble_eq_true rfl) ⟨Nat.le_of_ble_eq_true rfl, Nat.le_of_ble_eq_true rfl⟩ dX5_suits_19 (fun H locs hz hP hD hS => ?_)
  refine lv_if_eq (tgt := 112) hx hb dX5_suits_22 (by decide) (fun _ => ?_) (fun c => absurd c (by decide))
  refine lv_iconst (v := 0) hx hb dX5_suits_112 (by decide) ?_
  exact wEndZ S hr hlocks hP hD hS (Nat.le_of_ble_eq_true rfl) (Nat.le_of_ble_eq_true rfl) dX5_suits_113 rfl rfl

set_option maxHeartbeats 8000000 in
set_option maxRecDepth 100000 in
theorem c_X5_suits_18 (l : Launch) (D : va_G) (cI cZ cJ : ClassId) (o : Nat) (u : Nat → Nat) (ra ga : Nat → Nat) (sz : Nat) (x2 : Int32) (lo_x2 : 0 ≤ x2) (hi_x2 : x2 ≤ 15) : Met l yX5_suits (uW yX5_suits cX5_suits 5 (some .boolean)) ({ frames := 2, cells := 0, slots := 0, locals := 42 }) (va_Pc [.ref (u 12), .int 8, .int x2, .int (-1), .int 0] (aS ra ga D (tyL cI cZ cJ) (xW o u cI cZ cJ) sz)) (wQi (1) D (xW o u cI cZ cJ) (va_A (xW o u cI cZ cJ) sz)) 0 0 (va_A (xW o u cI cZ cJ) sz) := by
  refine aStart (lv := [(0, .ref (u 12)), (1, .int 8), (2, .int x2), (3, .int (-1)), (4, .int 0)]) (Qc := fun A => wQi (1) D (xW o u cI cZ cJ) A) (by decide) (Nat.le_of_ble_eq_true rfl) rfl ?_
  intro p e s m args below meth c ls A H S hr hlocks hnm hl hK hP hD hS hA hB
  have hx := S.1
  have hb := S.2.1
  refine lv_iload_n hx hb dX5_suits_0 rfl (lv_at hl 1 rfl) ?_
  refine lv_if_lt (tgt := 10) hx hb dX5_suits_1 (by decide) (fun c => absurd c (by decide)) (fun _ => ?_)
  refine lv_iload_n hx hb dX5_suits_4 rfl (lv_at hl 1 rfl) ?_
  refine lv_bipush (v := 21) hx hb dX5_suits_5 (by decide) ?_
  refine lv_icmp_le (tgt := 12) hx hb dX5_suits_7 (by decide) (fun _ => ?_) (fun c => absurd c (by decide))
  refine lv_aload_n hx hb dX5_suits_12 rfl (lv_at hl 0 rfl) ?_
  refine xgs S hB.z0 hS kw_3_91 rfl dX5_suits_13 ?_
  refine lv_iload_n hx hb dX5_suits_16 rfl (lv_at hl 1 rfl) ?_
  refine xti (v := 2) S hB.t0 hS (vin rfl) rfl dX5_suits_17 ?_
  refine lv_iload_n hx hb dX5_suits_18 rfl (lv_at hl 2 rfl) ?_
  refine aVi (As := [.int 2, .int x2]) (ci := 5) S (c_X5_fills_8 l D cI cZ cJ o u ra ga H.size x2 lo_x2 hi_x2) mi_X5_fills kw_6_31 rfl rfl ⟨Nat.le_of_ble_eq_true rfl, Nat.le_of_ble_eq_true rfl⟩ hP hD hK hS hA hB xW_13 rfl rfl hl.1 (Nat.le_of_ble_eq_true rfl) ⟨Nat.le_of_ble_eq_true rfl, Nat.le_of_ble_eq_true rfl⟩ dX5_suits_19 (fun H locs hz hP hD hS => ?_)
  refine lv_if_eq (tgt := 112) hx hb dX5_suits_22 (by decide) (fun c => absurd c (by decide)) (fun _ => ?_)
  refine lv_aload_n hx hb dX5_suits_25 rfl (lv_at hl 0 rfl) ?_
  refine xgs S hB.z1 hS kw_3_228 rfl dX5_suits_26 ?_
  refine lv_iload_n hx hb dX5_suits_29 rfl (lv_at hl 1 rfl) ?_
  refine xti (v := 7) S hB.t1 hS (vin rfl) rfl dX5_suits_30 ?_
  refine lv_iload_n hx hb dX5_suits_31 rfl (lv_at hl 3 rfl) ?_
  refine rdV (As := [.int 7, .int (-1)]) (ci := 5) S (c_X5_fills_11 l D cI cZ cJ o u) mi_X5_fills kw_6_31 ⟨rfl, rfl⟩ ⟨Nat.le_of_ble_eq_true rfl, Nat.le_of_ble_eq_true rfl⟩ hP hK xW_13 rfl rfl hl.1 (Nat.le_of_ble_eq_true rfl) ⟨Nat.le_of_ble_eq_true rfl, Nat.le_of_ble_eq_true rfl⟩ dX5_suits_32 ?_
  refine lv_if_eq (tgt := 112) hx hb dX5_suits_35 (by decide) (fun c => absurd c (by decide)) (fun _ => ?_)
  refine lv_aload_n hx hb dX5_suits_38 rfl (lv_at hl 0 rfl) ?_
  refine xgs S hB.z2 hS kw_3_222 rfl dX5_suits_39 ?_
  refine lv_iload_n hx hb dX5_suits_42 rfl (lv_at hl 1 rfl) ?_
  refine xti (v := 0) S hB.t2 hS (vin rfl) rfl dX5_suits_43 ?_
  refine lv_iload hx hb dX5_suits_44 (lv_at hl 4 rfl) ?_
  refine rdV (As := [.int 0, .int 0]) (ci := 5) S (c_X5_fills_3 l D cI cZ cJ o u) mi_X5_fills kw_6_31 ⟨rfl, rfl⟩ ⟨Nat.le_of_ble_eq_true rfl, Nat.le_of_ble_eq_true rfl⟩ hP hK xW_13 rfl rfl hl.1 (Nat.le_of_ble_eq_true rfl) ⟨Nat.le_of_ble_eq_true rfl, Nat.le_of_ble_eq_true rfl⟩ dX5_suits_46 ?_
  refine lv_if_eq (tgt := 112) hx hb dX5_suits_49 (by decide) (fun c => absurd c (by decide)) (fun _ => ?_)
  refine xgs S hB.z0 hS kw_3_91 rfl dX5_suits_52 ?_
  refine lv_iload_n hx hb dX5_suits_55 rfl (lv_at hl 1 rfl) ?_
  refine xti (v := 2) S hB.t0 hS (vin rfl) rfl dX5_suits_56 ?_
  refine lv_iload_n hx hb dX5_suits_57 rfl (lv_at hl 2 rfl) ?_
  refine xgs S hB.z1 hS kw_3_228 rfl dX5_suits_58 ?_
  refine lv_iload_n hx hb dX5_suits_61 rfl (lv_at hl 1 rfl) ?_
  refine xti (v := 7) S hB.t1 hS (vin rfl) rfl dX5_suits_62 ?_
  refine lv_iload_n hx hb dX5_suits_63 rfl (lv_at hl 3 rfl) ?_
  refine rdS (As := [.int 2, .int x2, .int 7, .int (-1)]) S (c_X5_isSamePart_3 l D cI cZ cJ o u x2 lo_x2 hi_x2) ms_X5_isSamePart kw_6_50 ⟨rfl, rfl⟩ ⟨Nat.le_of_ble_eq_true rfl, Nat.le_of_ble_eq_true rfl⟩ hP hK hl.1 (Nat.le_of_ble_eq_true rfl) ⟨Nat.le_of_ble_eq_true rfl, Nat.le_of_ble_eq_true rfl⟩ dX5_suits_64 ?_
  refine lv_if_ne (tgt := 112) hx hb dX5_suits_67 (by decide) (fun c => absurd c (by decide)) (fun _ => ?_)
  refine xgs S hB.z0 hS kw_3_91 rfl dX5_suits_70 ?_
  refine lv_iload_n hx hb dX5_suits_73 rfl (lv_at hl 1 rfl) ?_
  refine xti (v := 2) S hB.t0 hS (vin rfl) rfl dX5_suits_74 ?_
  refine lv_iload_n hx hb dX5_suits_75 rfl (lv_at hl 2 rfl) ?_
  refine xgs S hB.z2 hS kw_3_222 rfl dX5_suits_76 ?_
  refine lv_iload_n hx hb dX5_suits_79 rfl (lv_at hl 1 rfl) ?_
  refine xti (v := 0) S hB.t2 hS (vin rfl) rfl dX5_suits_80 ?_
  refine lv_iload hx hb dX5_suits_81 (lv_at hl 4 rfl) ?_
  refine rdS (As := [.int 2, .int x2, .int 0, .int 0]) S (c_X5_isSamePart_2 l D cI cZ cJ o u x2 lo_x2 hi_x2) ms_X5_isSamePart kw_6_50 ⟨rfl, rfl⟩ ⟨Nat.le_of_ble_eq_true rfl, Nat.le_of_ble_eq_true rfl⟩ hP hK hl.1 (Nat.le_of_ble_eq_true rfl) ⟨Nat.le_of_ble_eq_true rfl, Nat.le_of_ble_eq_true rfl⟩ dX5_suits_83 ?_
  refine lv_if_ne (tgt := 112) hx hb dX5_suits_86 (by decide) (fun c => absurd c (by decide)) (fun _ => ?_)
  refine xgs S hB.z1 hS kw_3_228 rfl dX5_suits_89 ?_
  refine lv_iload_n hx hb dX5_suits_92 rfl (lv_at hl 1 rfl) ?_
  refine xti (v := 7) S hB.t1 hS (vin rfl) rfl dX5_suits_93 ?_
  refine lv_iload_n hx hb dX5_suits_94 rfl (lv_at hl 3 rfl) ?_
  refine xgs S hB.z2 hS kw_3_222 rfl dX5_suits_95 ?_
  refine lv_iload_n hx hb dX5_suits_98 rfl (lv_at hl 1 rfl) ?_
  refine xti (v := 0) S hB.t2 hS (vin rfl) rfl dX5_suits_99 ?_
  refine lv_iload hx hb dX5_suits_100 (lv_at hl 4 rfl) ?_
  refine rdS (As := [.int 7, .int (-1), .int 0, .int 0]) S (c_X5_isSamePart_4 l D cI cZ cJ o u) ms_X5_isSamePart kw_6_50 ⟨rfl, rfl⟩ ⟨Nat.le_of_ble_eq_true rfl, Nat.le_of_ble_eq_true rfl⟩ hP hK hl.1 (Nat.le_of_ble_eq_true rfl) ⟨Nat.le_of_ble_eq_true rfl, Nat.le_of_ble_eq_true rfl⟩ dX5_suits_102 ?_
  refine lv_if_ne (tgt := 112) hx hb dX5_suits_105 (by decide) (fun c => absurd c (by decide)) (fun _ => ?_)
  refine lv_iconst (v := 1) hx hb dX5_suits_108 (by decide) ?_
  refine lv_goto (tgt := 113) hx hb dX5_suits_109 (by decide) ?_
  exact wEndZ S hr hlocks hP hD hS (Nat.le_of_ble_eq_true rfl) (Nat.le_of_ble_eq_true rfl) dX5_suits_113 rfl rfl

set_option maxHeartbeats 8000000 in
set_option maxRecDepth 100000 in
theorem c_X5_partA_2 (l : Launch) (D : va_G) (cI cZ cJ : ClassId) (o : Nat) (u : Nat → Nat) (ra ga : Nat → Nat) (sz : Nat) (x2 : Int32) (lo_x2 : 0 ≤ x2) (hi_x2 : x2 ≤ 15) : Met l yX5_partA (uW yX5_partA cX5_partA 2 (some .int)) ({ frames := 0, cells := 0, slots := 0, locals := 0 }) (va_Pc [.ref (u 12), .int 0] (aS ra ga D (tyL cI cZ cJ) ((((((((xW o u cI cZ cJ).set 13 ((u 12), .inr (5, ([.int 0, .ref (u 13), .ref (u 14), .ref (u 15), .ref (u 16), .ref (u 17), .ref (u 18)].set 0 (.int 1))))).set 14 ((u 13), .inl (cI, 110, .inl (upd (fun _ => 0) (0 : Int32).toNatClampNeg 8)))).set 15 ((u 14), .inl (cI, 110, .inl (upd (fun _ => 0) (0 : Int32).toNatClampNeg x2)))).set 16 ((u 15), .inl (cI, 110, .inl (upd (fun _ => 0) (0 : Int32).toNatClampNeg (-1))))).set 17 ((u 16), .inl (cI, 110, .inl (upd (fun _ => 0) (0 : Int32).toNatClampNeg 0)))).set 18 ((u 17), .inl (cI, 110, .inl (upd (fun _ => 0) (0 : Int32).toNatClampNeg (-1))))).set 19 ((u 18), .inl (cI, 110, .inl (upd (fun _ => 0) (0 : Int32).toNatClampNeg (-1))))) sz)) (wQi ((-1)) D ((((((((xW o u cI cZ cJ).set 13 ((u 12), .inr (5, ([.int 0, .ref (u 13), .ref (u 14), .ref (u 15), .ref (u 16), .ref (u 17), .ref (u 18)].set 0 (.int 1))))).set 14 ((u 13), .inl (cI, 110, .inl (upd (fun _ => 0) (0 : Int32).toNatClampNeg 8)))).set 15 ((u 14), .inl (cI, 110, .inl (upd (fun _ => 0) (0 : Int32).toNatClampNeg x2)))).set 16 ((u 15), .inl (cI, 110, .inl (upd (fun _ => 0) (0 : Int32).toNatClampNeg (-1))))).set 17 ((u 16), .inl (cI, 110, .inl (upd (fun _ => 0) (0 : Int32).toNatClampNeg 0)))).set 18 ((u 17), .inl (cI, 110, .inl (upd (fun _ => 0) (0 : Int32).toNatClampNeg (-1))))).set 19 ((u 18), .inl (cI, 110, .inl (upd (fun _ => 0) (0 : Int32).toNatClampNeg (-1))))) (va_A ((((((((xW o u cI cZ cJ).set 13 ((u 12), .inr (5, ([.int 0, .ref (u 13), .ref (u 14), .ref (u 15), .ref (u 16), .ref (u 17), .ref (u 18)].set 0 (.int 1))))).set 14 ((u 13), .inl (cI, 110, .inl (upd (fun _ => 0) (0 : Int32).toNatClampNeg 8)))).set 15 ((u 14), .inl (cI, 110, .inl (upd (fun _ => 0) (0 : Int32).toNatClampNeg x2)))).set 16 ((u 15), .inl (cI, 110, .inl (upd (fun _ => 0) (0 : Int32).toNatClampNeg (-1))))).set 17 ((u 16), .inl (cI, 110, .inl (upd (fun _ => 0) (0 : Int32).toNatClampNeg 0)))).set 18 ((u 17), .inl (cI, 110, .inl (upd (fun _ => 0) (0 : Int32).toNatClampNeg (-1))))).set 19 ((u 18), .inl (cI, 110, .inl (upd (fun _ => 0) (0 : Int32).toNatClampNeg (-1))))) sz)) 0 0 (va_A ((((((((xW o u cI cZ cJ).set 13 ((u 12), .inr (5, ([.int 0, .ref (u 13), .ref (u 14), .ref (u 15), .ref (u 16), .ref (u 17), .ref (u 18)].set 0 (.int 1))))).set 14 ((u 13), .inl (cI, 110, .inl (upd (fun _ => 0) (0 : Int32).toNatClampNeg 8)))).set 15 ((u 14), .inl (cI, 110, .inl (upd (fun _ => 0) (0 : Int32).toNatClampNeg x2)))).set 16 ((u 15), .inl (cI, 110, .inl (upd (fun _ => 0) (0 : Int32).toNatClampNeg (-1))))).set 17 ((u 16), .inl (cI, 110, .inl (upd (fun _ => 0) (0 : Int32).toNatClampNeg 0)))).set 18 ((u 17), .inl (cI, 110, .inl (upd (fun _ => 0) (0 : Int32).toNatClampNeg (-1))))).set 19 ((u 18), .inl (cI, 110, .inl (upd (fun _ => 0) (0 : Int32).toNatClampNeg (-1))))) sz) := by
  refine aStart (lv := [(0, .ref (u 12)), (1, .int 0)]) (Qc := fun A => wQi ((-1)) D ((((((((xW o u cI cZ cJ).set 13 ((u 12), .inr (5, ([.int 0, .ref (u 13), .ref (u 14), .ref (u 15), .ref (u 16), .ref (u 17), .ref (u 18)].set 0 (.int 1))))).set 14 ((u 13), .inl (cI, 110, .inl (upd (fun _ => 0) (0 : Int32).toNatClampNeg 8)))).set 15 ((u 14), .inl (cI, 110, .inl (upd (fun _ => 0) (0 : Int32).toNatClampNeg x2)))).set 16 ((u 15), .inl (cI, 110, .inl (upd (fun _ => 0) (0 : Int32).toNatClampNeg (-1))))).set 17 ((u 16), .inl (cI, 110, .inl (upd (fun _ => 0) (0 : Int32).toNatClampNeg 0)))).set 18 ((u 17), .inl (cI, 110, .inl (upd (fun _ => 0) (0 : Int32).toNatClampNeg (-1))))).set 19 ((u 18), .inl (cI, 110, .inl (upd (fun _ => 0) (0 : Int32).toNatClampNeg (-1))))) A) (by decide) (Nat.le_of_ble_eq_true rfl) rfl ?_
  intro p e s m args below meth c ls A H S hr hlocks hnm hl hK hP hD hS hA hB
  have hx := S.1
  have hb := S.2.1
  refine xgs S hB.z0 hS kw_3_91 rfl dX5_partA_0 ?_
  refine lv_aload_n hx hb dX5_partA_3 rfl (lv_at hl 0 rfl) ?_
  refine xg (ci := 5) S inX5 rfl hK hP (q0 := 13) rfl 1 (by decide) rfl kw_1_111 rfl dX5_partA_4 ?_
  refine lv_iload_n hx hb dX5_partA_7 rfl (lv_at hl 1 rfl) ?_
  refine xiald (t0 := 0) (v := 8) S hK hP (q0 := 14) rfl rfl (vin rfl) rfl dX5_partA_8 ?_
  refine xti (v := 2) S hB.t0 hS (vin rfl) rfl dX5_partA_9 ?_
  refine lv_iconst (v := 4) hx hb dX5_partA_10 (by decide) ?_
  refine lv_icmp_lt (tgt := 23) hx hb dX5_partA_11 (by decide) (fun _ => ?_) (fun c => absurd c (by decide))
  refine lv_iconst (v := (-1)) hx hb dX5_partA_23 (by decide) ?_
  exact wEnd S hr hlocks hP hD hS (Nat.le_of_ble_eq_true rfl) (Nat.le_of_ble_eq_true rfl) dX5_partA_24 rfl

set_option maxHeartbeats 8000000 in
set_option maxRecDepth 100000 in
theorem c_X5_claim_2 (l : Launch) (D : va_G) (cI cZ cJ : ClassId) (o : Nat) (u : Nat → Nat) (ra ga : Nat → Nat) (sz : Nat) (x2 : Int32) (lo_x2 : 0 ≤ x2) (hi_x2 : x2 ≤ 15) : Met l yX5_claim (uW yX5_claim cX5_claim 3 none) ({ frames := 0, cells := 0, slots := 0, locals := 0 }) (va_Pc [.ref (u 12), .int (-1), .int 0] (aS ra ga D (tyL cI cZ cJ) ((((((((xW o u cI cZ cJ).set 13 ((u 12), .inr (5, ([.int 0, .ref (u 13), .ref (u 14), .ref (u 15), .ref (u 16), .ref (u 17), .ref (u 18)].set 0 (.int 1))))).set 14 ((u 13), .inl (cI, 110, .inl (upd (fun _ => 0) (0 : Int32).toNatClampNeg 8)))).set 15 ((u 14), .inl (cI, 110, .inl (upd (fun _ => 0) (0 : Int32).toNatClampNeg x2)))).set 16 ((u 15), .inl (cI, 110, .inl (upd (fun _ => 0) (0 : Int32).toNatClampNeg (-1))))).set 17 ((u 16), .inl (cI, 110, .inl (upd (fun _ => 0) (0 : Int32).toNatClampNeg 0)))).set 18 ((u 17), .inl (cI, 110, .inl (upd (fun _ => 0) (0 : Int32).toNatClampNeg (-1))))).set 19 ((u 18), .inl (cI, 110, .inl (upd (fun _ => 0) (0 : Int32).toNatClampNeg (-1))))) sz)) (wQv D ((((((((xW o u cI cZ cJ).set 13 ((u 12), .inr (5, ([.int 0, .ref (u 13), .ref (u 14), .ref (u 15), .ref (u 16), .ref (u 17), .ref (u 18)].set 0 (.int 1))))).set 14 ((u 13), .inl (cI, 110, .inl (upd (fun _ => 0) (0 : Int32).toNatClampNeg 8)))).set 15 ((u 14), .inl (cI, 110, .inl (upd (fun _ => 0) (0 : Int32).toNatClampNeg x2)))).set 16 ((u 15), .inl (cI, 110, .inl (upd (fun _ => 0) (0 : Int32).toNatClampNeg (-1))))).set 17 ((u 16), .inl (cI, 110, .inl (upd (fun _ => 0) (0 : Int32).toNatClampNeg 0)))).set 18 ((u 17), .inl (cI, 110, .inl (upd (fun _ => 0) (0 : Int32).toNatClampNeg (-1))))).set 19 ((u 18), .inl (cI, 110, .inl (upd (fun _ => 0) (0 : Int32).toNatClampNeg (-1))))) (va_A ((((((((xW o u cI cZ cJ).set 13 ((u 12), .inr (5, ([.int 0, .ref (u 13), .ref (u 14), .ref (u 15), .ref (u 16), .ref (u 17), .ref (u 18)].set 0 (.int 1))))).set 14 ((u 13), .inl (cI, 110, .inl (upd (fun _ => 0) (0 : Int32).toNatClampNeg 8)))).set 15 ((u 14), .inl (cI, 110, .inl (upd (fun _ => 0) (0 : Int32).toNatClampNeg x2)))).set 16 ((u 15), .inl (cI, 110, .inl (upd (fun _ => 0) (0 : Int32).toNatClampNeg (-1))))).set 17 ((u 16), .inl (cI, 110, .inl (upd (fun _ => 0) (0 : Int32).toNatClampNeg 0)))).set 18 ((u 17), .inl (cI, 110, .inl (upd (fun _ => 0) (0 : Int32).toNatClampNeg (-1))))).set 19 ((u 18), .inl (cI, 110, .inl (upd (fun _ => 0) (0 : Int32).toNatClampNeg (-1))))) sz)) 0 0 (va_A ((((((((xW o u cI cZ cJ).set 13 ((u 12), .inr (5, ([.int 0, .ref (u 13), .ref (u 14), .ref (u 15), .ref (u 16), .ref (u 17), .ref (u 18)].set 0 (.int 1))))).set 14 ((u 13), .inl (cI, 110, .inl (upd (fun _ => 0) (0 : Int32).toNatClampNeg 8)))).set 15 ((u 14), .inl (cI, 110, .inl (upd (fun _ => 0) (0 : Int32).toNatClampNeg x2)))).set 16 ((u 15), .inl (cI, 110, .inl (upd (fun _ => 0) (0 : Int32).toNatClampNeg (-1))))).set 17 ((u 16), .inl (cI, 110, .inl (upd (fun _ => 0) (0 : Int32).toNatClampNeg 0)))).set 18 ((u 17), .inl (cI, 110, .inl (upd (fun _ => 0) (0 : Int32).toNatClampNeg (-1))))).set 19 ((u 18), .inl (cI, 110, .inl (upd (fun _ => 0) (0 : Int32).toNatClampNeg (-1))))) sz) := by
  refine aStart (lv := [(0, .ref (u 12)), (1, .int (-1)), (2, .int 0)]) (Qc := fun A => wQv D ((((((((xW o u cI cZ cJ).set 13 ((u 12), .inr (5, ([.int 0, .ref (u 13), .ref (u 14), .ref (u 15), .ref (u 16), .ref (u 17), .ref (u 18)].set 0 (.int 1))))).set 14 ((u 13), .inl (cI, 110, .inl (upd (fun _ => 0) (0 : Int32).toNatClampNeg 8)))).set 15 ((u 14), .inl (cI, 110, .inl (upd (fun _ => 0) (0 : Int32).toNatClampNeg x2)))).set 16 ((u 15), .inl (cI, 110, .inl (upd (fun _ => 0) (0 : Int32).toNatClampNeg (-1))))).set 17 ((u 16), .inl (cI, 110, .inl (upd (fun _ => 0) (0 : Int32).toNatClampNeg 0)))).set 18 ((u 17), .inl (cI, 110, .inl (upd (fun _ => 0) (0 : Int32).toNatClampNeg (-1))))).set 19 ((u 18), .inl (cI, 110, .inl (upd (fun _ => 0) (0 : Int32).toNatClampNeg (-1))))) A) (by decide) (Nat.le_of_ble_eq_true rfl) rfl ?_
  intro p e s m args below meth c ls A H S hr hlocks hnm hl hK hP hD hS hA hB
  have hx := S.1
  have hb := S.2.1
  refine lv_iload_n hx hb dX5_claim_0 rfl (lv_at hl 1 rfl) ?_
  refine lv_iconst (v := (-1)) hx hb dX5_claim_1 (by decide) ?_
  refine lv_icmp_eq (tgt := 12) hx hb dX5_claim_2 (by decide) (fun _ => ?_) (fun c => absurd c (by decide))
  exact wEndv S hr hlocks hP hD hS (Nat.le_of_ble_eq_true rfl) (Nat.le_of_ble_eq_true rfl) dX5_claim_12

set_option maxHeartbeats 8000000 in
set_option maxRecDepth 100000 in
theorem c_X5_partB_2 (l : Launch) (D : va_G) (cI cZ cJ : ClassId) (o : Nat) (u : Nat → Nat) (ra ga : Nat → Nat) (sz : Nat) (x2 : Int32) (lo_x2 : 0 ≤ x2) (hi_x2 : x2 ≤ 15) : Met l yX5_partB (uW yX5_partB cX5_partB 2 (some .int)) ({ frames := 0, cells := 0, slots := 0, locals := 0 }) (va_Pc [.ref (u 12), .int 0] (aS ra ga D (tyL cI cZ cJ) ((((((((xW o u cI cZ cJ).set 13 ((u 12), .inr (5, ([.int 0, .ref (u 13), .ref (u 14), .ref (u 15), .ref (u 16), .ref (u 17), .ref (u 18)].set 0 (.int 1))))).set 14 ((u 13), .inl (cI, 110, .inl (upd (fun _ => 0) (0 : Int32).toNatClampNeg 8)))).set 15 ((u 14), .inl (cI, 110, .inl (upd (fun _ => 0) (0 : Int32).toNatClampNeg x2)))).set 16 ((u 15), .inl (cI, 110, .inl (upd (fun _ => 0) (0 : Int32).toNatClampNeg (-1))))).set 17 ((u 16), .inl (cI, 110, .inl (upd (fun _ => 0) (0 : Int32).toNatClampNeg 0)))).set 18 ((u 17), .inl (cI, 110, .inl (upd (fun _ => 0) (0 : Int32).toNatClampNeg (-1))))).set 19 ((u 18), .inl (cI, 110, .inl (upd (fun _ => 0) (0 : Int32).toNatClampNeg (-1))))) sz)) (wQi ((-1)) D ((((((((xW o u cI cZ cJ).set 13 ((u 12), .inr (5, ([.int 0, .ref (u 13), .ref (u 14), .ref (u 15), .ref (u 16), .ref (u 17), .ref (u 18)].set 0 (.int 1))))).set 14 ((u 13), .inl (cI, 110, .inl (upd (fun _ => 0) (0 : Int32).toNatClampNeg 8)))).set 15 ((u 14), .inl (cI, 110, .inl (upd (fun _ => 0) (0 : Int32).toNatClampNeg x2)))).set 16 ((u 15), .inl (cI, 110, .inl (upd (fun _ => 0) (0 : Int32).toNatClampNeg (-1))))).set 17 ((u 16), .inl (cI, 110, .inl (upd (fun _ => 0) (0 : Int32).toNatClampNeg 0)))).set 18 ((u 17), .inl (cI, 110, .inl (upd (fun _ => 0) (0 : Int32).toNatClampNeg (-1))))).set 19 ((u 18), .inl (cI, 110, .inl (upd (fun _ => 0) (0 : Int32).toNatClampNeg (-1))))) (va_A ((((((((xW o u cI cZ cJ).set 13 ((u 12), .inr (5, ([.int 0, .ref (u 13), .ref (u 14), .ref (u 15), .ref (u 16), .ref (u 17), .ref (u 18)].set 0 (.int 1))))).set 14 ((u 13), .inl (cI, 110, .inl (upd (fun _ => 0) (0 : Int32).toNatClampNeg 8)))).set 15 ((u 14), .inl (cI, 110, .inl (upd (fun _ => 0) (0 : Int32).toNatClampNeg x2)))).set 16 ((u 15), .inl (cI, 110, .inl (upd (fun _ => 0) (0 : Int32).toNatClampNeg (-1))))).set 17 ((u 16), .inl (cI, 110, .inl (upd (fun _ => 0) (0 : Int32).toNatClampNeg 0)))).set 18 ((u 17), .inl (cI, 110, .inl (upd (fun _ => 0) (0 : Int32).toNatClampNeg (-1))))).set 19 ((u 18), .inl (cI, 110, .inl (upd (fun _ => 0) (0 : Int32).toNatClampNeg (-1))))) sz)) 0 0 (va_A ((((((((xW o u cI cZ cJ).set 13 ((u 12), .inr (5, ([.int 0, .ref (u 13), .ref (u 14), .ref (u 15), .ref (u 16), .ref (u 17), .ref (u 18)].set 0 (.int 1))))).set 14 ((u 13), .inl (cI, 110, .inl (upd (fun _ => 0) (0 : Int32).toNatClampNeg 8)))).set 15 ((u 14), .inl (cI, 110, .inl (upd (fun _ => 0) (0 : Int32).toNatClampNeg x2)))).set 16 ((u 15), .inl (cI, 110, .inl (upd (fun _ => 0) (0 : Int32).toNatClampNeg (-1))))).set 17 ((u 16), .inl (cI, 110, .inl (upd (fun _ => 0) (0 : Int32).toNatClampNeg 0)))).set 18 ((u 17), .inl (cI, 110, .inl (upd (fun _ => 0) (0 : Int32).toNatClampNeg (-1))))).set 19 ((u 18), .inl (cI, 110, .inl (upd (fun _ => 0) (0 : Int32).toNatClampNeg (-1))))) sz) := by
  refine aStart (lv := [(0, .ref (u 12)), (1, .int 0)]) (Qc := fun A => wQi ((-1)) D ((((((((xW o u cI cZ cJ).set 13 ((u 12), .inr (5, ([.int 0, .ref (u 13), .ref (u 14), .ref (u 15), .ref (u 16), .ref (u 17), .ref (u 18)].set 0 (.int 1))))).set 14 ((u 13), .inl (cI, 110, .inl (upd (fun _ => 0) (0 : Int32).toNatClampNeg 8)))).set 15 ((u 14), .inl (cI, 110, .inl (upd (fun _ => 0) (0 : Int32).toNatClampNeg x2)))).set 16 ((u 15), .inl (cI, 110, .inl (upd (fun _ => 0) (0 : Int32).toNatClampNeg (-1))))).set 17 ((u 16), .inl (cI, 110, .inl (upd (fun _ => 0) (0 : Int32).toNatClampNeg 0)))).set 18 ((u 17), .inl (cI, 110, .inl (upd (fun _ => 0) (0 : Int32).toNatClampNeg (-1))))).set 19 ((u 18), .inl (cI, 110, .inl (upd (fun _ => 0) (0 : Int32).toNatClampNeg (-1))))) A) (by decide) (Nat.le_of_ble_eq_true rfl) rfl ?_
  intro p e s m args below meth c ls A H S hr hlocks hnm hl hK hP hD hS hA hB
  have hx := S.1
  have hb := S.2.1
  refine xgs S hB.z1 hS kw_3_228 rfl dX5_partB_0 ?_
  refine lv_aload_n hx hb dX5_partB_3 rfl (lv_at hl 0 rfl) ?_
  refine xg (ci := 5) S inX5 rfl hK hP (q0 := 13) rfl 1 (by decide) rfl kw_1_111 rfl dX5_partB_4 ?_
  refine lv_iload_n hx hb dX5_partB_7 rfl (lv_at hl 1 rfl) ?_
  refine xiald (t0 := 0) (v := 8) S hK hP (q0 := 14) rfl rfl (vin rfl) rfl dX5_partB_8 ?_
  refine xti (v := 7) S hB.t1 hS (vin rfl) rfl dX5_partB_9 ?_
  refine lv_iconst (v := 4) hx hb dX5_partB_10 (by decide) ?_
  refine lv_icmp_lt (tgt := 23) hx hb dX5_partB_11 (by decide) (fun c => absurd c (by decide)) (fun _ => ?_)
  refine lv_aload_n hx hb dX5_partB_14 rfl (lv_at hl 0 rfl) ?_
  refine xg (ci := 5) S inX5 rfl hK hP (q0 := 13) rfl 3 (by decide) rfl kw_1_120 rfl dX5_partB_15 ?_
  refine lv_iload_n hx hb dX5_partB_18 rfl (lv_at hl 1 rfl) ?_
  refine xiald (t0 := 0) (v := (-1)) S hK hP (q0 := 16) rfl rfl (vin rfl) rfl dX5_partB_19 ?_
  refine lv_goto (tgt := 24) hx hb dX5_partB_20 (by decide) ?_
  exact wEnd S hr hlocks hP hD hS (Nat.le_of_ble_eq_true rfl) (Nat.le_of_ble_eq_true rfl) dX5_partB_24 rfl

set_option maxHeartbeats 8000000 in
set_option maxRecDepth 100000 in
theorem c_X5_partC_2 (l : Launch) (D : va_G) (cI cZ cJ : ClassId) (o : Nat) (u : Nat → Nat) (ra ga : Nat → Nat) (sz : Nat) (x2 : Int32) (lo_x2 : 0 ≤ x2) (hi_x2 : x2 ≤ 15) : Met l yX5_partC (uW yX5_partC cX5_partC 2 (some .int)) ({ frames := 0, cells := 0, slots := 0, locals := 0 }) (va_Pc [.ref (u 12), .int 0] (aS ra ga D (tyL cI cZ cJ) ((((((((xW o u cI cZ cJ).set 13 ((u 12), .inr (5, ([.int 0, .ref (u 13), .ref (u 14), .ref (u 15), .ref (u 16), .ref (u 17), .ref (u 18)].set 0 (.int 1))))).set 14 ((u 13), .inl (cI, 110, .inl (upd (fun _ => 0) (0 : Int32).toNatClampNeg 8)))).set 15 ((u 14), .inl (cI, 110, .inl (upd (fun _ => 0) (0 : Int32).toNatClampNeg x2)))).set 16 ((u 15), .inl (cI, 110, .inl (upd (fun _ => 0) (0 : Int32).toNatClampNeg (-1))))).set 17 ((u 16), .inl (cI, 110, .inl (upd (fun _ => 0) (0 : Int32).toNatClampNeg 0)))).set 18 ((u 17), .inl (cI, 110, .inl (upd (fun _ => 0) (0 : Int32).toNatClampNeg (-1))))).set 19 ((u 18), .inl (cI, 110, .inl (upd (fun _ => 0) (0 : Int32).toNatClampNeg (-1))))) sz)) (wQi ((-1)) D ((((((((xW o u cI cZ cJ).set 13 ((u 12), .inr (5, ([.int 0, .ref (u 13), .ref (u 14), .ref (u 15), .ref (u 16), .ref (u 17), .ref (u 18)].set 0 (.int 1))))).set 14 ((u 13), .inl (cI, 110, .inl (upd (fun _ => 0) (0 : Int32).toNatClampNeg 8)))).set 15 ((u 14), .inl (cI, 110, .inl (upd (fun _ => 0) (0 : Int32).toNatClampNeg x2)))).set 16 ((u 15), .inl (cI, 110, .inl (upd (fun _ => 0) (0 : Int32).toNatClampNeg (-1))))).set 17 ((u 16), .inl (cI, 110, .inl (upd (fun _ => 0) (0 : Int32).toNatClampNeg 0)))).set 18 ((u 17), .inl (cI, 110, .inl (upd (fun _ => 0) (0 : Int32).toNatClampNeg (-1))))).set 19 ((u 18), .inl (cI, 110, .inl (upd (fun _ => 0) (0 : Int32).toNatClampNeg (-1))))) (va_A ((((((((xW o u cI cZ cJ).set 13 ((u 12), .inr (5, ([.int 0, .ref (u 13), .ref (u 14), .ref (u 15), .ref (u 16), .ref (u 17), .ref (u 18)].set 0 (.int 1))))).set 14 ((u 13), .inl (cI, 110, .inl (upd (fun _ => 0) (0 : Int32).toNatClampNeg 8)))).set 15 ((u 14), .inl (cI, 110, .inl (upd (fun _ => 0) (0 : Int32).toNatClampNeg x2)))).set 16 ((u 15), .inl (cI, 110, .inl (upd (fun _ => 0) (0 : Int32).toNatClampNeg (-1))))).set 17 ((u 16), .inl (cI, 110, .inl (upd (fun _ => 0) (0 : Int32).toNatClampNeg 0)))).set 18 ((u 17), .inl (cI, 110, .inl (upd (fun _ => 0) (0 : Int32).toNatClampNeg (-1))))).set 19 ((u 18), .inl (cI, 110, .inl (upd (fun _ => 0) (0 : Int32).toNatClampNeg (-1))))) sz)) 0 0 (va_A ((((((((xW o u cI cZ cJ).set 13 ((u 12), .inr (5, ([.int 0, .ref (u 13), .ref (u 14), .ref (u 15), .ref (u 16), .ref (u 17), .ref (u 18)].set 0 (.int 1))))).set 14 ((u 13), .inl (cI, 110, .inl (upd (fun _ => 0) (0 : Int32).toNatClampNeg 8)))).set 15 ((u 14), .inl (cI, 110, .inl (upd (fun _ => 0) (0 : Int32).toNatClampNeg x2)))).set 16 ((u 15), .inl (cI, 110, .inl (upd (fun _ => 0) (0 : Int32).toNatClampNeg (-1))))).set 17 ((u 16), .inl (cI, 110, .inl (upd (fun _ => 0) (0 : Int32).toNatClampNeg 0)))).set 18 ((u 17), .inl (cI, 110, .inl (upd (fun _ => 0) (0 : Int32).toNatClampNeg (-1))))).set 19 ((u 18), .inl (cI, 110, .inl (upd (fun _ => 0) (0 : Int32).toNatClampNeg (-1))))) sz) := by
  refine aStart (lv := [(0, .ref (u 12)), (1, .int 0)]) (Qc := fun A => wQi ((-1)) D ((((((((xW o u cI cZ cJ).set 13 ((u 12), .inr (5, ([.int 0, .ref (u 13), .ref (u 14), .ref (u 15), .ref (u 16), .ref (u 17), .ref (u 18)].set 0 (.int 1))))).set 14 ((u 13), .inl (cI, 110, .inl (upd (fun _ => 0) (0 : Int32).toNatClampNeg 8)))).set 15 ((u 14), .inl (cI, 110, .inl (upd (fun _ => 0) (0 : Int32).toNatClampNeg x2)))).set 16 ((u 15), .inl (cI, 110, .inl (upd (fun _ => 0) (0 : Int32).toNatClampNeg (-1))))).set 17 ((u 16), .inl (cI, 110, .inl (upd (fun _ => 0) (0 : Int32).toNatClampNeg 0)))).set 18 ((u 17), .inl (cI, 110, .inl (upd (fun _ => 0) (0 : Int32).toNatClampNeg (-1))))).set 19 ((u 18), .inl (cI, 110, .inl (upd (fun _ => 0) (0 : Int32).toNatClampNeg (-1))))) A) (by decide) (Nat.le_of_ble_eq_true rfl) rfl ?_
  intro p e s m args below meth c ls A H S hr hlocks hnm hl hK hP hD hS hA hB
  have hx := S.1
  have hb := S.2.1
  refine xgs S hB.z2 hS kw_3_222 rfl dX5_partC_0 ?_
  refine lv_aload_n hx hb dX5_partC_3 rfl (lv_at hl 0 rfl) ?_
  refine xg (ci := 5) S inX5 rfl hK hP (q0 := 13) rfl 1 (by decide) rfl kw_1_111 rfl dX5_partC_4 ?_
  refine lv_iload_n hx hb dX5_partC_7 rfl (lv_at hl 1 rfl) ?_
  refine xiald (t0 := 0) (v := 8) S hK hP (q0 := 14) rfl rfl (vin rfl) rfl dX5_partC_8 ?_
  refine xti (v := 0) S hB.t2 hS (vin rfl) rfl dX5_partC_9 ?_
  refine lv_iconst (v := 4) hx hb dX5_partC_10 (by decide) ?_
  refine lv_icmp_lt (tgt := 23) hx hb dX5_partC_11 (by decide) (fun _ => ?_) (fun c => absurd c (by decide))
  refine lv_iconst (v := (-1)) hx hb dX5_partC_23 (by decide) ?_
  exact wEnd S hr hlocks hP hD hS (Nat.le_of_ble_eq_true rfl) (Nat.le_of_ble_eq_true rfl) dX5_partC_24 rfl

set_option maxHeartbeats 8000000 in
set_option maxRecDepth 100000 in
theorem c_X5_add_2 (l : Launch) (D : va_G) (cI cZ cJ : ClassId) (o : Nat) (u : Nat → Nat) (ra ga : Nat → Nat) (sz : Nat) (x2 : Int32) (lo_x2 : 0 ≤ x2) (hi_x2 : x2 ≤ 15) : Met l yX5_add (uW yX5_add cX5_add 6 (some .int)) ({ frames := 1, cells := 0, slots := 0, locals := 22 }) (va_Pc [.ref (u 12), .int 8, .int x2, .int (-1), .int 0] (aS ra ga D (tyL cI cZ cJ) (xW o u cI cZ cJ) sz)) (wQi (0) D ((((((((xW o u cI cZ cJ).set 13 ((u 12), .inr (5, ([.int 0, .ref (u 13), .ref (u 14), .ref (u 15), .ref (u 16), .ref (u 17), .ref (u 18)].set 0 (.int 1))))).set 14 ((u 13), .inl (cI, 110, .inl (upd (fun _ => 0) (0 : Int32).toNatClampNeg 8)))).set 15 ((u 14), .inl (cI, 110, .inl (upd (fun _ => 0) (0 : Int32).toNatClampNeg x2)))).set 16 ((u 15), .inl (cI, 110, .inl (upd (fun _ => 0) (0 : Int32).toNatClampNeg (-1))))).set 17 ((u 16), .inl (cI, 110, .inl (upd (fun _ => 0) (0 : Int32).toNatClampNeg 0)))).set 18 ((u 17), .inl (cI, 110, .inl (upd (fun _ => 0) (0 : Int32).toNatClampNeg (-1))))).set 19 ((u 18), .inl (cI, 110, .inl (upd (fun _ => 0) (0 : Int32).toNatClampNeg (-1))))) (va_A (xW o u cI cZ cJ) sz)) 0 0 (va_A (xW o u cI cZ cJ) sz) := by
  refine aStart (lv := [(0, .ref (u 12)), (1, .int 8), (2, .int x2), (3, .int (-1)), (4, .int 0)]) (Qc := fun A => wQi (0) D ((((((((xW o u cI cZ cJ).set 13 ((u 12), .inr (5, ([.int 0, .ref (u 13), .ref (u 14), .ref (u 15), .ref (u 16), .ref (u 17), .ref (u 18)].set 0 (.int 1))))).set 14 ((u 13), .inl (cI, 110, .inl (upd (fun _ => 0) (0 : Int32).toNatClampNeg 8)))).set 15 ((u 14), .inl (cI, 110, .inl (upd (fun _ => 0) (0 : Int32).toNatClampNeg x2)))).set 16 ((u 15), .inl (cI, 110, .inl (upd (fun _ => 0) (0 : Int32).toNatClampNeg (-1))))).set 17 ((u 16), .inl (cI, 110, .inl (upd (fun _ => 0) (0 : Int32).toNatClampNeg 0)))).set 18 ((u 17), .inl (cI, 110, .inl (upd (fun _ => 0) (0 : Int32).toNatClampNeg (-1))))).set 19 ((u 18), .inl (cI, 110, .inl (upd (fun _ => 0) (0 : Int32).toNatClampNeg (-1))))) A) (by decide) (Nat.le_of_ble_eq_true rfl) rfl ?_
  intro p e s m args below meth c ls A H S hr hlocks hnm hl hK hP hD hS hA hB
  have hx := S.1
  have hb := S.2.1
  refine lv_aload_n hx hb dX5_add_0 rfl (lv_at hl 0 rfl) ?_
  refine xg (ci := 5) S inX5 rfl hK hP xW_13 0 (by decide) rfl kw_1_107 rfl dX5_add_1 ?_
  refine lv_istore (lv' := [(5, .int 0), (0, .ref (u 12)), (1, .int 8), (2, .int x2), (3, .int (-1)), (4, .int 0)]) hx hb dX5_add_4 hl (by decide) rfl (fun ls hl => ?_)
  refine lv_aload_n hx hb dX5_add_6 rfl (lv_at hl 1 rfl) ?_
  refine lv_dup hx hb dX5_add_7 rfl ?_
  refine xg (ci := 5) S inX5 rfl hK hP xW_13 0 (by decide) rfl kw_1_107 rfl dX5_add_8 ?_
  refine lv_iconst (v := 1) hx hb dX5_add_11 (by decide) ?_
  refine xiadd (v := 1) S dX5_add_12 (by decide) ?_
  refine xp (ci := 5) (v := .int 1) S inX5 tyX5 tyX5_ok nmX5 rfl hK hP hD hS xW_13 0 (by decide) kw_1_107 rfl rfl rfl rfl (Nat.le_of_ble_eq_true rfl) dX5_add_13 (fun H locs hP hD hS => ?_)
  have hP : va_P D vwCl ((xW o u cI cZ cJ).set 13 ((u 12), .inr (5, ([.int 0, .ref (u 13), .ref (u 14), .ref (u 15), .ref (u 16), .ref (u 17), .ref (u 18)].set 0 (.int 1))))) H := hP
  have hD : va_D A ((xW o u cI cZ cJ).set 13 ((u 12), .inr (5, ([.int 0, .ref (u 13), .ref (u 14), .ref (u 15), .ref (u 16), .ref (u 17), .ref (u 18)].set 0 (.int 1))))) := hD
  refine lv_aload_n hx hb dX5_add_16 rfl (lv_at hl 1 rfl) ?_
  refine xg (ci := 5) S inX5 rfl hK hP (q0 := 13) rfl 1 (by decide) rfl kw_1_111 rfl dX5_add_17 ?_
  refine lv_iload hx hb dX5_add_20 (lv_at hl 0 rfl) ?_
  refine lv_iload_n hx hb dX5_add_22 rfl (lv_at hl 2 rfl) ?_
  refine xiast (t0 := 0) S hK hP hD hS (q0 := 14) rfl rfl (vin rfl) dX5_add_23 (fun H locs hP hD hS => ?_)
  have hP : va_P D vwCl (((xW o u cI cZ cJ).set 13 ((u 12), .inr (5, ([.int 0, .ref (u 13), .ref (u 14), .ref (u 15), .ref (u 16), .ref (u 17), .ref (u 18)].set 0 (.int 1))))).set 14 ((u 13), .inl (cI, 110, .inl (upd (fun _ => 0) (0 : Int32).toNatClampNeg 8)))) H := hP
  have hD : va_D A (((xW o u cI cZ cJ).set 13 ((u 12), .inr (5, ([.int 0, .ref (u 13), .ref (u 14), .ref (u 15), .ref (u 16), .ref (u 17), .ref (u 18)].set 0 (.int 1))))).set 14 ((u 13), .inl (cI, 110, .inl (upd (fun _ => 0) (0 : Int32).toNatClampNeg 8)))) := hD
  refine lv_aload_n hx hb dX5_add_24 rfl (lv_at hl 1 rfl) ?_
  refine xg (ci := 5) S inX5 rfl hK hP (q0 := 13) rfl 2 (by decide) rfl kw_1_116 rfl dX5_add_25 ?_
  refine lv_iload hx hb dX5_add_28 (lv_at hl 0 rfl) ?_
  refine lv_iload_n hx hb dX5_add_30 rfl (lv_at hl 3 rfl) ?_
  refine xiast (t0 := 0) S hK hP hD hS (q0 := 15) rfl rfl (vin rfl) dX5_add_31 (fun H locs hP hD hS => ?_)
  have hP : va_P D vwCl ((((xW o u cI cZ cJ).set 13 ((u 12), .inr (5, ([.int 0, .ref (u 13), .ref (u 14), .ref (u 15), .ref (u 16), .ref (u 17), .ref (u 18)].set 0 (.int 1))))).set 14 ((u 13), .inl (cI, 110, .inl (upd (fun _ => 0) (0 : Int32).toNatClampNeg 8)))).set 15 ((u 14), .inl (cI, 110, .inl (upd (fun _ => 0) (0 : Int32).toNatClampNeg x2)))) H := hP
  have hD : va_D A ((((xW o u cI cZ cJ).set 13 ((u 12), .inr (5, ([.int 0, .ref (u 13), .ref (u 14), .ref (u 15), .ref (u 16), .ref (u 17), .ref (u 18)].set 0 (.int 1))))).set 14 ((u 13), .inl (cI, 110, .inl (upd (fun _ => 0) (0 : Int32).toNatClampNeg 8)))).set 15 ((u 14), .inl (cI, 110, .inl (upd (fun _ => 0) (0 : Int32).toNatClampNeg x2)))) := hD
  refine lv_aload_n hx hb dX5_add_32 rfl (lv_at hl 1 rfl) ?_
  refine xg (ci := 5) S inX5 rfl hK hP (q0 := 13) rfl 3 (by decide) rfl kw_1_120 rfl dX5_add_33 ?_
  refine lv_iload hx hb dX5_add_36 (lv_at hl 0 rfl) ?_
  refine lv_iload_n hx hb dX5_add_38 rfl (lv_at hl 4 rfl) ?_
  refine xiast (t0 := 0) S hK hP hD hS (q0 := 16) rfl rfl (vin rfl) dX5_add_39 (fun H locs hP hD hS => ?_)
  have hP : va_P D vwCl (((((xW o u cI cZ cJ).set 13 ((u 12), .inr (5, ([.int 0, .ref (u 13), .ref (u 14), .ref (u 15), .ref (u 16), .ref (u 17), .ref (u 18)].set 0 (.int 1))))).set 14 ((u 13), .inl (cI, 110, .inl (upd (fun _ => 0) (0 : Int32).toNatClampNeg 8)))).set 15 ((u 14), .inl (cI, 110, .inl (upd (fun _ => 0) (0 : Int32).toNatClampNeg x2)))).set 16 ((u 15), .inl (cI, 110, .inl (upd (fun _ => 0) (0 : Int32).toNatClampNeg (-1))))) H := hP
  have hD : va_D A (((((xW o u cI cZ cJ).set 13 ((u 12), .inr (5, ([.int 0, .ref (u 13), .ref (u 14), .ref (u 15), .ref (u 16), .ref (u 17), .ref (u 18)].set 0 (.int 1))))).set 14 ((u 13), .inl (cI, 110, .inl (upd (fun _ => 0) (0 : Int32).toNatClampNeg 8)))).set 15 ((u 14), .inl (cI, 110, .inl (upd (fun _ => 0) (0 : Int32).toNatClampNeg x2)))).set 16 ((u 15), .inl (cI, 110, .inl (upd (fun _ => 0) (0 : Int32).toNatClampNeg (-1))))) := hD
  refine lv_aload_n hx hb dX5_add_40 rfl (lv_at hl 1 rfl) ?_
  refine xg (ci := 5) S inX5 rfl hK hP (q0 := 13) rfl 4 (by decide) rfl kw_1_125 rfl dX5_add_41 ?_
  refine lv_iload hx hb dX5_add_44 (lv_at hl 0 rfl) ?_
  refine lv_iload hx hb dX5_add_46 (lv_at hl 5 rfl) ?_
  refine xiast (t0 := 0) S hK hP hD hS (q0 := 17) rfl rfl (vin rfl) dX5_add_48 (fun H locs hP hD hS => ?_)
  have hP : va_P D vwCl ((((((xW o u cI cZ cJ).set 13 ((u 12), .inr (5, ([.int 0, .ref (u 13), .ref (u 14), .ref (u 15), .ref (u 16), .ref (u 17), .ref (u 18)].set 0 (.int 1))))).set 14 ((u 13), .inl (cI, 110, .inl (upd (fun _ => 0) (0 : Int32).toNatClampNeg 8)))).set 15 ((u 14), .inl (cI, 110, .inl (upd (fun _ => 0) (0 : Int32).toNatClampNeg x2)))).set 16 ((u 15), .inl (cI, 110, .inl (upd (fun _ => 0) (0 : Int32).toNatClampNeg (-1))))).set 17 ((u 16), .inl (cI, 110, .inl (upd (fun _ => 0) (0 : Int32).toNatClampNeg 0)))) H := hP
  have hD : va_D A ((((((xW o u cI cZ cJ).set 13 ((u 12), .inr (5, ([.int 0, .ref (u 13), .ref (u 14), .ref (u 15), .ref (u 16), .ref (u 17), .ref (u 18)].set 0 (.int 1))))).set 14 ((u 13), .inl (cI, 110, .inl (upd (fun _ => 0) (0 : Int32).toNatClampNeg 8)))).set 15 ((u 14), .inl (cI, 110, .inl (upd (fun _ => 0) (0 : Int32).toNatClampNeg x2)))).set 16 ((u 15), .inl (cI, 110, .inl (upd (fun _ => 0) (0 : Int32).toNatClampNeg (-1))))).set 17 ((u 16), .inl (cI, 110, .inl (upd (fun _ => 0) (0 : Int32).toNatClampNeg 0)))) := hD
  refine lv_aload_n hx hb dX5_add_49 rfl (lv_at hl 1 rfl) ?_
  refine xg (ci := 5) S inX5 rfl hK hP (q0 := 13) rfl 5 (by decide) rfl kw_1_130 rfl dX5_add_50 ?_
  refine lv_iload hx hb dX5_add_53 (lv_at hl 0 rfl) ?_
  refine lv_iconst (v := (-1)) hx hb dX5_add_55 (by decide) ?_
  refine xiast (t0 := 0) S hK hP hD hS (q0 := 18) rfl rfl (vin rfl) dX5_add_56 (fun H locs hP hD hS => ?_)
  have hP : va_P D vwCl (((((((xW o u cI cZ cJ).set 13 ((u 12), .inr (5, ([.int 0, .ref (u 13), .ref (u 14), .ref (u 15), .ref (u 16), .ref (u 17), .ref (u 18)].set 0 (.int 1))))).set 14 ((u 13), .inl (cI, 110, .inl (upd (fun _ => 0) (0 : Int32).toNatClampNeg 8)))).set 15 ((u 14), .inl (cI, 110, .inl (upd (fun _ => 0) (0 : Int32).toNatClampNeg x2)))).set 16 ((u 15), .inl (cI, 110, .inl (upd (fun _ => 0) (0 : Int32).toNatClampNeg (-1))))).set 17 ((u 16), .inl (cI, 110, .inl (upd (fun _ => 0) (0 : Int32).toNatClampNeg 0)))).set 18 ((u 17), .inl (cI, 110, .inl (upd (fun _ => 0) (0 : Int32).toNatClampNeg (-1))))) H := hP
  have hD : va_D A (((((((xW o u cI cZ cJ).set 13 ((u 12), .inr (5, ([.int 0, .ref (u 13), .ref (u 14), .ref (u 15), .ref (u 16), .ref (u 17), .ref (u 18)].set 0 (.int 1))))).set 14 ((u 13), .inl (cI, 110, .inl (upd (fun _ => 0) (0 : Int32).toNatClampNeg 8)))).set 15 ((u 14), .inl (cI, 110, .inl (upd (fun _ => 0) (0 : Int32).toNatClampNeg x2)))).set 16 ((u 15), .inl (cI, 110, .inl (upd (fun _ => 0) (0 : Int32).toNatClampNeg (-1))))).set 17 ((u 16), .inl (cI, 110, .inl (upd (fun _ => 0) (0 : Int32).toNatClampNeg 0)))).set 18 ((u 17), .inl (cI, 110, .inl (upd (fun _ => 0) (0 : Int32).toNatClampNeg (-1))))) := hD
  refine lv_aload_n hx hb dX5_add_57 rfl (lv_at hl 1 rfl) ?_
  refine xg (ci := 5) S inX5 rfl hK hP (q0 := 13) rfl 6 (by decide) rfl kw_1_134 rfl dX5_add_58 ?_
  refine lv_iload hx hb dX5_add_61 (lv_at hl 0 rfl) ?_
  refine lv_iconst (v := (-1)) hx hb dX5_add_63 (by decide) ?_
  refine xiast (t0 := 0) S hK hP hD hS (q0 := 19) rfl rfl (vin rfl) dX5_add_64 (fun H locs hP hD hS => ?_)
  have hP : va_P D vwCl ((((((((xW o u cI cZ cJ).set 13 ((u 12), .inr (5, ([.int 0, .ref (u 13), .ref (u 14), .ref (u 15), .ref (u 16), .ref (u 17), .ref (u 18)].set 0 (.int 1))))).set 14 ((u 13), .inl (cI, 110, .inl (upd (fun _ => 0) (0 : Int32).toNatClampNeg 8)))).set 15 ((u 14), .inl (cI, 110, .inl (upd (fun _ => 0) (0 : Int32).toNatClampNeg x2)))).set 16 ((u 15), .inl (cI, 110, .inl (upd (fun _ => 0) (0 : Int32).toNatClampNeg (-1))))).set 17 ((u 16), .inl (cI, 110, .inl (upd (fun _ => 0) (0 : Int32).toNatClampNeg 0)))).set 18 ((u 17), .inl (cI, 110, .inl (upd (fun _ => 0) (0 : Int32).toNatClampNeg (-1))))).set 19 ((u 18), .inl (cI, 110, .inl (upd (fun _ => 0) (0 : Int32).toNatClampNeg (-1))))) H := hP
  have hD : va_D A ((((((((xW o u cI cZ cJ).set 13 ((u 12), .inr (5, ([.int 0, .ref (u 13), .ref (u 14), .ref (u 15), .ref (u 16), .ref (u 17), .ref (u 18)].set 0 (.int 1))))).set 14 ((u 13), .inl (cI, 110, .inl (upd (fun _ => 0) (0 : Int32).toNatClampNeg 8)))).set 15 ((u 14), .inl (cI, 110, .inl (upd (fun _ => 0) (0 : Int32).toNatClampNeg x2)))).set 16 ((u 15), .inl (cI, 110, .inl (upd (fun _ => 0) (0 : Int32).toNatClampNeg (-1))))).set 17 ((u 16), .inl (cI, 110, .inl (upd (fun _ => 0) (0 : Int32).toNatClampNeg 0)))).set 18 ((u 17), .inl (cI, 110, .inl (upd (fun _ => 0) (0 : Int32).toNatClampNeg (-1))))).set 19 ((u 18), .inl (cI, 110, .inl (upd (fun _ => 0) (0 : Int32).toNatClampNeg (-1))))) := hD
  refine lv_aload_n hx hb dX5_add_65 rfl (lv_at hl 1 rfl) ?_
  refine lv_aload_n hx hb dX5_add_66 rfl (lv_at hl 1 rfl) ?_
  refine lv_iload hx hb dX5_add_67 (lv_at hl 0 rfl) ?_
  refine aVi (As := [.int 0]) (ci := 5) S (c_X5_partA_2 l D cI cZ cJ o u ra ga H.size x2 lo_x2 hi_x2) mi_X5_partA kw_6_57 rfl rfl ⟨Nat.le_of_ble_eq_true rfl, Nat.le_of_ble_eq_true rfl⟩ hP hD hK hS hA hB (k := 13) rfl rfl rfl hl.1 (Nat.le_of_ble_eq_true rfl) ⟨Nat.le_of_ble_eq_true rfl, Nat.le_of_ble_eq_true rfl⟩ dX5_add_69 (fun H locs hz hP hD hS => ?_)
  refine lv_iload hx hb dX5_add_72 (lv_at hl 0 rfl) ?_
  refine aVv (As := [.int (-1), .int 0]) (ci := 5) S (c_X5_claim_2 l D cI cZ cJ o u ra ga H.size x2 lo_x2 hi_x2) mi_X5_claim kw_6_58 rfl rfl ⟨Nat.le_of_ble_eq_true rfl, Nat.le_of_ble_eq_true rfl⟩ hP hD hK hS hA hB (k := 13) rfl rfl rfl hl.1 (Nat.le_of_ble_eq_true rfl) ⟨Nat.le_of_ble_eq_true rfl, Nat.le_of_ble_eq_true rfl⟩ dX5_add_74 (fun H locs hz hP hD hS => ?_)
  refine lv_aload_n hx hb dX5_add_77 rfl (lv_at hl 1 rfl) ?_
  refine lv_aload_n hx hb dX5_add_78 rfl (lv_at hl 1 rfl) ?_
  refine lv_iload hx hb dX5_add_79 (lv_at hl 0 rfl) ?_
  refine aVi (As := [.int 0]) (ci := 5) S (c_X5_partB_2 l D cI cZ cJ o u ra ga H.size x2 lo_x2 hi_x2) mi_X5_partB kw_6_62 rfl rfl ⟨Nat.le_of_ble_eq_true rfl, Nat.le_of_ble_eq_true rfl⟩ hP hD hK hS hA hB (k := 13) rfl rfl rfl hl.1 (Nat.le_of_ble_eq_true rfl) ⟨Nat.le_of_ble_eq_true rfl, Nat.le_of_ble_eq_true rfl⟩ dX5_add_81 (fun H locs hz hP hD hS => ?_)
  refine lv_iload hx hb dX5_add_84 (lv_at hl 0 rfl) ?_
  refine aVv (As := [.int (-1), .int 0]) (ci := 5) S (c_X5_claim_2 l D cI cZ cJ o u ra ga H.size x2 lo_x2 hi_x2) mi_X5_claim kw_6_58 rfl rfl ⟨Nat.le_of_ble_eq_true rfl, Nat.le_of_ble_eq_true rfl⟩ hP hD hK hS hA hB (k := 13) rfl rfl rfl hl.1 (Nat.le_of_ble_eq_true rfl) ⟨Nat.le_of_ble_eq_true rfl, Nat.le_of_ble_eq_true rfl⟩ dX5_add_86 (fun H locs hz hP hD hS => ?_)
  refine lv_aload_n hx hb dX5_add_89 rfl (lv_at hl 1 rfl) ?_
  refine lv_aload_n hx hb dX5_add_90 rfl (lv_at hl 1 rfl) ?_
  refine lv_iload hx hb dX5_add_91 (lv_at hl 0 rfl) ?_
  refine aVi (As := [.int 0]) (ci := 5) S (c_X5_partC_2 l D cI cZ cJ o u ra ga H.size x2 lo_x2 hi_x2) mi_X5_partC kw_6_63 rfl rfl ⟨Nat.le_of_ble_eq_true rfl, Nat.le_of_ble_eq_true rfl⟩ hP hD hK hS hA hB (k := 13) rfl rfl rfl hl.1 (Nat.le_of_ble_eq_true rfl) ⟨Nat.le_of_ble_eq_true rfl, Nat.le_of_ble_eq_true rfl⟩ dX5_add_93 (fun H locs hz hP hD hS => ?_)
  refine lv_iload hx hb dX5_add_96 (lv_at hl 0 rfl) ?_
  refine aVv (As := [.int (-1), .int 0]) (ci := 5) S (c_X5_claim_2 l D cI cZ cJ o u ra ga H.size x2 lo_x2 hi_x2) mi_X5_claim kw_6_58 rfl rfl ⟨Nat.le_of_ble_eq_true rfl, Nat.le_of_ble_eq_true rfl⟩ hP hD hK hS hA hB (k := 13) rfl rfl rfl hl.1 (Nat.le_of_ble_eq_true rfl) ⟨Nat.le_of_ble_eq_true rfl, Nat.le_of_ble_eq_true rfl⟩ dX5_add_98 (fun H locs hz hP hD hS => ?_)
  refine lv_iload hx hb dX5_add_101 (lv_at hl 0 rfl) ?_
  exact wEnd S hr hlocks hP hD hS (Nat.le_of_ble_eq_true rfl) (Nat.le_of_ble_eq_true rfl) dX5_add_103 rfl

set_option maxHeartbeats 8000000 in
set_option maxRecDepth 100000 in
theorem c_X8_node_10 (l : Launch) (D : va_G) (cI cZ cJ : ClassId) (o : Nat) (u : Nat → Nat) (hst : l.stackTraces = false) (ra ga : Nat → Nat) (sz : Nat) (x2 : Int32) (x3 : Int32) (x4 : Int32) : vx_Met l yX8_node (uW yX8_node cX8_node 5 (some .int)) ({ frames := 7, cells := 1, slots := 6, locals := 102 }) (va_Pc [.ref o, .int 2, .int x2, .int x3, .int x4] (aS ra ga D (tyL cI cZ cJ) (xW o u cI cZ cJ) sz)) (nQi (va_A (xW o u cI cZ cJ) sz)) (wX "java/lang/IllegalArgumentException" D (xW o u cI cZ cJ) (va_A (xW o u cI cZ cJ) sz)) 1 6 (va_A (xW o u cI cZ cJ) sz) := by
  refine xStart (lv := [(0, .ref o), (1, .int 2), (2, .int x2), (3, .int x3), (4, .int x4)]) (Qc := fun A => nQi A) (XC := fun A => wX "java/lang/IllegalArgumentException" D (xW o u cI cZ cJ) A) (by decide) (Nat.le_of_ble_eq_true rfl) rfl ?_
  intro p e s m args below meth c ls A H S hr hlocks hnm hl hK hP hD hS hA hB hnt
  have hx := S.1
  have hb := S.2.1
  refine lv_aload_n hx hb dX8_node_0 rfl (lv_at hl 0 rfl) ?_
  refine xg (ci := 8) S inX8 rfl hK hP xW_0 1 (by decide) rfl kw_3_21 rfl dX8_node_1 ?_
  refine lv_iload_n hx hb dX8_node_4 rfl (lv_at hl 1 rfl) ?_
  refine lv_iload_n hx hb dX8_node_5 rfl (lv_at hl 2 rfl) ?_
  refine lv_iload_n hx hb dX8_node_6 rfl (lv_at hl 3 rfl) ?_
  refine lv_iload hx hb dX8_node_7 (lv_at hl 4 rfl) ?_
  refine aVi (As := [.int 2, .int x2, .int x3, .int x4]) (ci := 5) S (c_X5_suits_10 l D cI cZ cJ o u ra ga H.size x2 x3 x4) mi_X5_suits kw_6_27 rfl rfl ⟨Nat.le_of_ble_eq_true rfl, Nat.le_of_ble_eq_true rfl⟩ hP hD hK hS hA hB xW_13 rfl rfl hl.1 (Nat.le_of_ble_eq_true rfl) ⟨Nat.le_of_ble_eq_true rfl, Nat.le_of_ble_eq_true rfl⟩ dX8_node_9 (fun H locs hz hP hD hS => ?_)
  exact tSv (As := [.int 0]) S (c_X8_needArgument_0 l D cI cZ cJ o u hst ra ga H.size) ms_X8_needArgument kw_4_4 rfl rfl ⟨Nat.le_of_ble_eq_true rfl, Nat.le_of_ble_eq_true rfl⟩ hP hD hK hS hA hB hl.1 (Nat.le_of_ble_eq_true rfl) ⟨Nat.le_of_ble_eq_true rfl, Nat.le_of_ble_eq_true rfl⟩ dX8_node_12 hnt hlocks (Nat.le_of_ble_eq_true rfl) (Nat.le_of_ble_eq_true rfl)

set_option maxHeartbeats 8000000 in
set_option maxRecDepth 100000 in
theorem c_X8_node_11 (l : Launch) (D : va_G) (cI cZ cJ : ClassId) (o : Nat) (u : Nat → Nat) (hst : l.stackTraces = false) (ra ga : Nat → Nat) (sz : Nat) (x2 : Int32) (x3 : Int32) (x4 : Int32) : vx_Met l yX8_node (uW yX8_node cX8_node 5 (some .int)) ({ frames := 7, cells := 1, slots := 6, locals := 102 }) (va_Pc [.ref o, .int 3, .int x2, .int x3, .int x4] (aS ra ga D (tyL cI cZ cJ) (xW o u cI cZ cJ) sz)) (nQi (va_A (xW o u cI cZ cJ) sz)) (wX "java/lang/IllegalArgumentException" D (xW o u cI cZ cJ) (va_A (xW o u cI cZ cJ) sz)) 1 6 (va_A (xW o u cI cZ cJ) sz) := by
  refine xStart (lv := [(0, .ref o), (1, .int 3), (2, .int x2), (3, .int x3), (4, .int x4)]) (Qc := fun A => nQi A) (XC := fun A => wX "java/lang/IllegalArgumentException" D (xW o u cI cZ cJ) A) (by decide) (Nat.le_of_ble_eq_true rfl) rfl ?_
  intro p e s m args below meth c ls A H S hr hlocks hnm hl hK hP hD hS hA hB hnt
  have hx := S.1
  have hb := S.2.1
  refine lv_aload_n hx hb dX8_node_0 rfl (lv_at hl 0 rfl) ?_
  refine xg (ci := 8) S inX8 rfl hK hP xW_0 1 (by decide) rfl kw_3_21 rfl dX8_node_1 ?_
  refine lv_iload_n hx hb dX8_node_4 rfl (lv_at hl 1 rfl) ?_
  refine lv_iload_n hx hb dX8_node_5 rfl (lv_at hl 2 rfl) ?_
  refine lv_iload_n hx hb dX8_node_6 rfl (lv_at hl 3 rfl) ?_
  refine lv_iload hx hb dX8_node_7 (lv_at hl 4 rfl) ?_
  refine aVi (As := [.int 3, .int x2, .int x3, .int x4]) (ci := 5) S (c_X5_suits_11 l D cI cZ cJ o u ra ga H.size x2 x3 x4) mi_X5_suits kw_6_27 rfl rfl ⟨Nat.le_of_ble_eq_true rfl, Nat.le_of_ble_eq_true rfl⟩ hP hD hK hS hA hB xW_13 rfl rfl hl.1 (Nat.le_of_ble_eq_true rfl) ⟨Nat.le_of_ble_eq_true rfl, Nat.le_of_ble_eq_true rfl⟩ dX8_node_9 (fun H locs hz hP hD hS => ?_)
  exact tSv (As := [.int 0]) S (c_X8_needArgument_0 l D cI cZ cJ o u hst ra ga H.size) ms_X8_needArgument kw_4_4 rfl rfl ⟨Nat.le_of_ble_eq_true rfl, Nat.le_of_ble_eq_true rfl⟩ hP hD hK hS hA hB hl.1 (Nat.le_of_ble_eq_true rfl) ⟨Nat.le_of_ble_eq_true rfl, Nat.le_of_ble_eq_true rfl⟩ dX8_node_12 hnt hlocks (Nat.le_of_ble_eq_true rfl) (Nat.le_of_ble_eq_true rfl)

set_option maxHeartbeats 8000000 in
set_option maxRecDepth 100000 in
theorem c_X8_node_12 (l : Launch) (D : va_G) (cI cZ cJ : ClassId) (o : Nat) (u : Nat → Nat) (hst : l.stackTraces = false) (ra ga : Nat → Nat) (sz : Nat) (x2 : Int32) (x3 : Int32) (x4 : Int32) : vx_Met l yX8_node (uW yX8_node cX8_node 5 (some .int)) ({ frames := 7, cells := 1, slots := 6, locals := 102 }) (va_Pc [.ref o, .int 4, .int x2, .int x3, .int x4] (aS ra ga D (tyL cI cZ cJ) (xW o u cI cZ cJ) sz)) (nQi (va_A (xW o u cI cZ cJ) sz)) (wX "java/lang/IllegalArgumentException" D (xW o u cI cZ cJ) (va_A (xW o u cI cZ cJ) sz)) 1 6 (va_A (xW o u cI cZ cJ) sz) := by
  refine xStart (lv := [(0, .ref o), (1, .int 4), (2, .int x2), (3, .int x3), (4, .int x4)]) (Qc := fun A => nQi A) (XC := fun A => wX "java/lang/IllegalArgumentException" D (xW o u cI cZ cJ) A) (by decide) (Nat.le_of_ble_eq_true rfl) rfl ?_
  intro p e s m args below meth c ls A H S hr hlocks hnm hl hK hP hD hS hA hB hnt
  have hx := S.1
  have hb := S.2.1
  refine lv_aload_n hx hb dX8_node_0 rfl (lv_at hl 0 rfl) ?_
  refine xg (ci := 8) S inX8 rfl hK hP xW_0 1 (by decide) rfl kw_3_21 rfl dX8_node_1 ?_
  refine lv_iload_n hx hb dX8_node_4 rfl (lv_at hl 1 rfl) ?_
  refine lv_iload_n hx hb dX8_node_5 rfl (lv_at hl 2 rfl) ?_
  refine lv_iload_n hx hb dX8_node_6 rfl (lv_at hl 3 rfl) ?_
  refine lv_iload hx hb dX8_node_7 (lv_at hl 4 rfl) ?_
  refine aVi (As := [.int 4, .int x2, .int x3, .int x4]) (ci := 5) S (c_X5_suits_12 l D cI cZ cJ o u ra ga H.size x2 x3 x4) mi_X5_suits kw_6_27 rfl rfl ⟨Nat.le_of_ble_eq_true rfl, Nat.le_of_ble_eq_true rfl⟩ hP hD hK hS hA hB xW_13 rfl rfl hl.1 (Nat.le_of_ble_eq_true rfl) ⟨Nat.le_of_ble_eq_true rfl, Nat.le_of_ble_eq_true rfl⟩ dX8_node_9 (fun H locs hz hP hD hS => ?_)
  exact tSv (As := [.int 0]) S (c_X8_needArgument_0 l D cI cZ cJ o u hst ra ga H.size) ms_X8_needArgument kw_4_4 rfl rfl ⟨Nat.le_of_ble_eq_true rfl, Nat.le_of_ble_eq_true rfl⟩ hP hD hK hS hA hB hl.1 (Nat.le_of_ble_eq_true rfl) ⟨Nat.le_of_ble_eq_true rfl, Nat.le_of_ble_eq_true rfl⟩ dX8_node_12 hnt hlocks (Nat.le_of_ble_eq_true rfl) (Nat.le_of_ble_eq_true rfl)

set_option maxHeartbeats 8000000 in
set_option maxRecDepth 100000 in
theorem c_X8_node_13 (l : Launch) (D : va_G) (cI cZ cJ : ClassId) (o : Nat) (u : Nat → Nat) (hst : l.stackTraces = false) (ra ga : Nat → Nat) (sz : Nat) (x2 : Int32) (x3 : Int32) (x4 : Int32) : vx_Met l yX8_node (uW yX8_node cX8_node 5 (some .int)) ({ frames := 7, cells := 1, slots := 6, locals := 102 }) (va_Pc [.ref o, .int 5, .int x2, .int x3, .int x4] (aS ra ga D (tyL cI cZ cJ) (xW o u cI cZ cJ) sz)) (nQi (va_A (xW o u cI cZ cJ) sz)) (wX "java/lang/IllegalArgumentException" D (xW o u cI cZ cJ) (va_A (xW o u cI cZ cJ) sz)) 1 6 (va_A (xW o u cI cZ cJ) sz) := by
  refine xStart (lv := [(0, .ref o), (1, .int 5), (2, .int x2), (3, .int x3), (4, .int x4)]) (Qc := fun A => nQi A) (XC := fun A => wX "java/lang/IllegalArgumentException" D (xW o u cI cZ cJ) A) (by decide) (Nat.le_of_ble_eq_true rfl) rfl ?_
  intro p e s m args below meth c ls A H S hr hlocks hnm hl hK hP hD hS hA hB hnt
  have hx := S.1
  have hb := S.2.1
  refine lv_aload_n hx hb dX8_node_0 rfl (lv_at hl 0 rfl) ?_
  refine xg (ci := 8) S inX8 rfl hK hP xW_0 1 (by decide) rfl kw_3_21 rfl dX8_node_1 ?_
  refine lv_iload_n hx hb dX8_node_4 rfl (lv_at hl 1 rfl) ?_
  refine lv_iload_n hx hb dX8_node_5 rfl (lv_at hl 2 rfl) ?_
  refine lv_iload_n hx hb dX8_node_6 rfl (lv_at hl 3 rfl) ?_
  refine lv_iload hx hb dX8_node_7 (lv_at hl 4 rfl) ?_
  refine aVi (As := [.int 5, .int x2, .int x3, .int x4]) (ci := 5) S (c_X5_suits_13 l D cI cZ cJ o u ra ga H.size x2 x3 x4) mi_X5_suits kw_6_27 rfl rfl ⟨Nat.le_of_ble_eq_true rfl, Nat.le_of_ble_eq_true rfl⟩ hP hD hK hS hA hB xW_13 rfl rfl hl.1 (Nat.le_of_ble_eq_true rfl) ⟨Nat.le_of_ble_eq_true rfl, Nat.le_of_ble_eq_true rfl⟩ dX8_node_9 (fun H locs hz hP hD hS => ?_)
  exact tSv (As := [.int 0]) S (c_X8_needArgument_0 l D cI cZ cJ o u hst ra ga H.size) ms_X8_needArgument kw_4_4 rfl rfl ⟨Nat.le_of_ble_eq_true rfl, Nat.le_of_ble_eq_true rfl⟩ hP hD hK hS hA hB hl.1 (Nat.le_of_ble_eq_true rfl) ⟨Nat.le_of_ble_eq_true rfl, Nat.le_of_ble_eq_true rfl⟩ dX8_node_12 hnt hlocks (Nat.le_of_ble_eq_true rfl) (Nat.le_of_ble_eq_true rfl)

set_option maxHeartbeats 8000000 in
set_option maxRecDepth 100000 in
theorem c_X8_node_14 (l : Launch) (D : va_G) (cI cZ cJ : ClassId) (o : Nat) (u : Nat → Nat) (hst : l.stackTraces = false) (ra ga : Nat → Nat) (sz : Nat) (x2 : Int32) (x3 : Int32) (x4 : Int32) : vx_Met l yX8_node (uW yX8_node cX8_node 5 (some .int)) ({ frames := 7, cells := 1, slots := 6, locals := 102 }) (va_Pc [.ref o, .int 6, .int x2, .int x3, .int x4] (aS ra ga D (tyL cI cZ cJ) (xW o u cI cZ cJ) sz)) (nQi (va_A (xW o u cI cZ cJ) sz)) (wX "java/lang/IllegalArgumentException" D (xW o u cI cZ cJ) (va_A (xW o u cI cZ cJ) sz)) 1 6 (va_A (xW o u cI cZ cJ) sz) := by
  refine xStart (lv := [(0, .ref o), (1, .int 6), (2, .int x2), (3, .int x3), (4, .int x4)]) (Qc := fun A => nQi A) (XC := fun A => wX "java/lang/IllegalArgumentException" D (xW o u cI cZ cJ) A) (by decide) (Nat.le_of_ble_eq_true rfl) rfl ?_
  intro p e s m args below meth c ls A H S hr hlocks hnm hl hK hP hD hS hA hB hnt
  have hx := S.1
  have hb := S.2.1
  refine lv_aload_n hx hb dX8_node_0 rfl (lv_at hl 0 rfl) ?_
  refine xg (ci := 8) S inX8 rfl hK hP xW_0 1 (by decide) rfl kw_3_21 rfl dX8_node_1 ?_
  refine lv_iload_n hx hb dX8_node_4 rfl (lv_at hl 1 rfl) ?_
  refine lv_iload_n hx hb dX8_node_5 rfl (lv_at hl 2 rfl) ?_
  refine lv_iload_n hx hb dX8_node_6 rfl (lv_at hl 3 rfl) ?_
  refine lv_iload hx hb dX8_node_7 (lv_at hl 4 rfl) ?_
  refine aVi (As := [.int 6, .int x2, .int x3, .int x4]) (ci := 5) S (c_X5_suits_14 l D cI cZ cJ o u ra ga H.size x2 x3 x4) mi_X5_suits kw_6_27 rfl rfl ⟨Nat.le_of_ble_eq_true rfl, Nat.le_of_ble_eq_true rfl⟩ hP hD hK hS hA hB xW_13 rfl rfl hl.1 (Nat.le_of_ble_eq_true rfl) ⟨Nat.le_of_ble_eq_true rfl, Nat.le_of_ble_eq_true rfl⟩ dX8_node_9 (fun H locs hz hP hD hS => ?_)
  exact tSv (As := [.int 0]) S (c_X8_needArgument_0 l D cI cZ cJ o u hst ra ga H.size) ms_X8_needArgument kw_4_4 rfl rfl ⟨Nat.le_of_ble_eq_true rfl, Nat.le_of_ble_eq_true rfl⟩ hP hD hK hS hA hB hl.1 (Nat.le_of_ble_eq_true rfl) ⟨Nat.le_of_ble_eq_true rfl, Nat.le_of_ble_eq_true rfl⟩ dX8_node_12 hnt hlocks (Nat.le_of_ble_eq_true rfl) (Nat.le_of_ble_eq_true rfl)

set_option maxHeartbeats 8000000 in
set_option maxRecDepth 100000 in
theorem c_X8_node_15 (l : Launch) (D : va_G) (cI cZ cJ : ClassId) (o : Nat) (u : Nat → Nat) (hst : l.stackTraces = false) (ra ga : Nat → Nat) (sz : Nat) (x2 : Int32) (x3 : Int32) (x4 : Int32) : vx_Met l yX8_node (uW yX8_node cX8_node 5 (some .int)) ({ frames := 7, cells := 1, slots := 6, locals := 102 }) (va_Pc [.ref o, .int 7, .int x2, .int x3, .int x4] (aS ra ga D (tyL cI cZ cJ) (xW o u cI cZ cJ) sz)) (nQi (va_A (xW o u cI cZ cJ) sz)) (wX "java/lang/IllegalArgumentException" D (xW o u cI cZ cJ) (va_A (xW o u cI cZ cJ) sz)) 1 6 (va_A (xW o u cI cZ cJ) sz) := by
  refine xStart (lv := [(0, .ref o), (1, .int 7), (2, .int x2), (3, .int x3), (4, .int x4)]) (Qc := fun A => nQi A) (XC := fun A => wX "java/lang/IllegalArgumentException" D (xW o u cI cZ cJ) A) (by decide) (Nat.le_of_ble_eq_true rfl) rfl ?_
  intro p e s m args below meth c ls A H S hr hlocks hnm hl hK hP hD hS hA hB hnt
  have hx := S.1
  have hb := S.2.1
  refine lv_aload_n hx hb dX8_node_0 rfl (lv_at hl 0 rfl) ?_
  refine xg (ci := 8) S inX8 rfl hK hP xW_0 1 (by decide) rfl kw_3_21 rfl dX8_node_1 ?_
  refine lv_iload_n hx hb dX8_node_4 rfl (lv_at hl 1 rfl) ?_
  refine lv_iload_n hx hb dX8_node_5 rfl (lv_at hl 2 rfl) ?_
  refine lv_iload_n hx hb dX8_node_6 rfl (lv_at hl 3 rfl) ?_
  refine lv_iload hx hb dX8_node_7 (lv_at hl 4 rfl) ?_
  refine aVi (As := [.int 7, .int x2, .int x3, .int x4]) (ci := 5) S (c_X5_suits_15 l D cI cZ cJ o u ra ga H.size x2 x3 x4) mi_X5_suits kw_6_27 rfl rfl ⟨Nat.le_of_ble_eq_true rfl, Nat.le_of_ble_eq_true rfl⟩ hP hD hK hS hA hB xW_13 rfl rfl hl.1 (Nat.le_of_ble_eq_true rfl) ⟨Nat.le_of_ble_eq_true rfl, Nat.le_of_ble_eq_true rfl⟩ dX8_node_9 (fun H locs hz hP hD hS => ?_)
  exact tSv (As := [.int 0]) S (c_X8_needArgument_0 l D cI cZ cJ o u hst ra ga H.size) ms_X8_needArgument kw_4_4 rfl rfl ⟨Nat.le_of_ble_eq_true rfl, Nat.le_of_ble_eq_true rfl⟩ hP hD hK hS hA hB hl.1 (Nat.le_of_ble_eq_true rfl) ⟨Nat.le_of_ble_eq_true rfl, Nat.le_of_ble_eq_true rfl⟩ dX8_node_12 hnt hlocks (Nat.le_of_ble_eq_true rfl) (Nat.le_of_ble_eq_true rfl)

set_option maxHeartbeats 8000000 in
set_option maxRecDepth 100000 in
theorem c_X8_node_16 (l : Launch) (D : va_G) (cI cZ cJ : ClassId) (o : Nat) (u : Nat → Nat) (hst : l.stackTraces = false) (ra ga : Nat → Nat) (sz : Nat) (x2 : Int32) (x3 : Int32) (x4 : Int32) (hi_x2 : x2 ≤ (-1)) : vx_Met l yX8_node (uW yX8_node cX8_node 5 (some .int)) ({ frames := 7, cells := 1, slots := 6, locals := 102 }) (va_Pc [.ref o, .int 8, .int x2, .int x3, .int x4] (aS ra ga D (tyL cI cZ cJ) (xW o u cI cZ cJ) sz)) (nQi (va_A (xW o u cI cZ cJ) sz)) (wX "java/lang/IllegalArgumentException" D (xW o u cI cZ cJ) (va_A (xW o u cI cZ cJ) sz)) 1 6 (va_A (xW o u cI cZ cJ) sz) := by
  refine xStart (lv := [(0, .ref o), (1, .int 8), (2, .int x2), (3, .int x3), (4, .int x4)]) (Qc := fun A => nQi A) (XC := fun A => wX "java/lang/IllegalArgumentException" D (xW o u cI cZ cJ) A) (by decide) (Nat.le_of_ble_eq_true rfl) rfl ?_
  intro p e s m args below meth c ls A H S hr hlocks hnm hl hK hP hD hS hA hB hnt
  have hx := S.1
  have hb := S.2.1
  refine lv_aload_n hx hb dX8_node_0 rfl (lv_at hl 0 rfl) ?_
  refine xg (ci := 8) S inX8 rfl hK hP xW_0 1 (by decide) rfl kw_3_21 rfl dX8_node_1 ?_
  refine lv_iload_n hx hb dX8_node_4 rfl (lv_at hl 1 rfl) ?_
  refine lv_iload_n hx hb dX8_node_5 rfl (lv_at hl 2 rfl) ?_
  refine lv_iload_n hx hb dX8_node_6 rfl (lv_at hl 3 rfl) ?_
  refine lv_iload hx hb dX8_node_7 (lv_at hl 4 rfl) ?_
  refine aVi (As := [.int 8, .int x2, .int x3, .int x4]) (ci := 5) S (c_X5_suits_16 l D cI cZ cJ o u ra ga H.size x2 x3 x4 hi_x2) mi_X5_suits kw_6_27 rfl rfl ⟨Nat.le_of_ble_eq_true rfl, Nat.le_of_ble_eq_true rfl⟩ hP hD hK hS hA hB xW_13 rfl rfl hl.1 (Nat.le_of_ble_eq_true rfl) ⟨Nat.le_of_ble_eq_true rfl, Nat.le_of_ble_eq_true rfl⟩ dX8_node_9 (fun H locs hz hP hD hS => ?_)
  exact tSv (As := [.int 0]) S (c_X8_needArgument_0 l D cI cZ cJ o u hst ra ga H.size) ms_X8_needArgument kw_4_4 rfl rfl ⟨Nat.le_of_ble_eq_true rfl, Nat.le_of_ble_eq_true rfl⟩ hP hD hK hS hA hB hl.1 (Nat.le_of_ble_eq_true rfl) ⟨Nat.le_of_ble_eq_true rfl, Nat.le_of_ble_eq_true rfl⟩ dX8_node_12 hnt hlocks (Nat.le_of_ble_eq_true rfl) (Nat.le_of_ble_eq_true rfl)

set_option maxHeartbeats 8000000 in
set_option maxRecDepth 100000 in
theorem c_X8_node_17 (l : Launch) (D : va_G) (cI cZ cJ : ClassId) (o : Nat) (u : Nat → Nat) (hst : l.stackTraces = false) (ra ga : Nat → Nat) (sz : Nat) (x2 : Int32) (x3 : Int32) (x4 : Int32) (lo_x2 : 16 ≤ x2) : vx_Met l yX8_node (uW yX8_node cX8_node 5 (some .int)) ({ frames := 7, cells := 1, slots := 6, locals := 102 }) (va_Pc [.ref o, .int 8, .int x2, .int x3, .int x4] (aS ra ga D (tyL cI cZ cJ) (xW o u cI cZ cJ) sz)) (nQi (va_A (xW o u cI cZ cJ) sz)) (wX "java/lang/IllegalArgumentException" D (xW o u cI cZ cJ) (va_A (xW o u cI cZ cJ) sz)) 1 6 (va_A (xW o u cI cZ cJ) sz) := by
  refine xStart (lv := [(0, .ref o), (1, .int 8), (2, .int x2), (3, .int x3), (4, .int x4)]) (Qc := fun A => nQi A) (XC := fun A => wX "java/lang/IllegalArgumentException" D (xW o u cI cZ cJ) A) (by decide) (Nat.le_of_ble_eq_true rfl) rfl ?_
  intro p e s m args below meth c ls A H S hr hlocks hnm hl hK hP hD hS hA hB hnt
  have hx := S.1
  have hb := S.2.1
  refine lv_aload_n hx hb dX8_node_0 rfl (lv_at hl 0 rfl) ?_
  refine xg (ci := 8) S inX8 rfl hK hP xW_0 1 (by decide) rfl kw_3_21 rfl dX8_node_1 ?_
  refine lv_iload_n hx hb dX8_node_4 rfl (lv_at hl 1 rfl) ?_
  refine lv_iload_n hx hb dX8_node_5 rfl (lv_at hl 2 rfl) ?_
  refine lv_iload_n hx hb dX8_node_6 rfl (lv_at hl 3 rfl) ?_
  refine lv_iload hx hb dX8_node_7 (lv_at hl 4 rfl) ?_
  refine aVi (As := [.int 8, .int x2, .int x3, .int x4]) (ci := 5) S (c_X5_suits_17 l D cI cZ cJ o u ra ga H.size x2 x3 x4 lo_x2) mi_X5_suits kw_6_27 rfl rfl ⟨Nat.le_of_ble_eq_true rfl, Nat.le_of_ble_eq_true rfl⟩ hP hD hK hS hA hB xW_13 rfl rfl hl.1 (Nat.le_of_ble_eq_true rfl) ⟨Nat.le_of_ble_eq_true rfl, Nat.le_of_ble_eq_true rfl⟩ dX8_node_9 (fun H locs hz hP hD hS => ?_)
  exact tSv (As := [.int 0]) S (c_X8_needArgument_0 l D cI cZ cJ o u hst ra ga H.size) ms_X8_needArgument kw_4_4 rfl rfl ⟨Nat.le_of_ble_eq_true rfl, Nat.le_of_ble_eq_true rfl⟩ hP hD hK hS hA hB hl.1 (Nat.le_of_ble_eq_true rfl) ⟨Nat.le_of_ble_eq_true rfl, Nat.le_of_ble_eq_true rfl⟩ dX8_node_12 hnt hlocks (Nat.le_of_ble_eq_true rfl) (Nat.le_of_ble_eq_true rfl)

set_option maxHeartbeats 8000000 in
set_option maxRecDepth 100000 in
theorem c_X5_suits_19 (l : Launch) (D : va_G) (cI cZ cJ : ClassId) (o : Nat) (u : Nat → Nat) (ra ga : Nat → Nat) (sz : Nat) (x2 : Int32) (x4 : Int32) (lo_x2 : 0 ≤ x2) (hi_x2 : x2 ≤ 15) (ne_x4_0 : ¬ x4 = 0) : Met l yX5_suits (uW yX5_suits cX5_suits 5 (some .boolean)) ({ frames := 2, cells := 0, slots := 0, locals := 42 }) (va_Pc [.ref (u 12), .int 8, .int x2, .int (-1), .int x4] (aS ra ga D (tyL cI cZ cJ) (xW o u cI cZ cJ) sz)) (wQi (0) D (xW o u cI cZ cJ) (va_A (xW o u cI cZ cJ) sz)) 0 0 (va_A (xW o u cI cZ cJ) sz) := by
  refine aStart (lv := [(0, .ref (u 12)), (1, .int 8), (2, .int x2), (3, .int (-1)), (4, .int x4)]) (Qc := fun A => wQi (0) D (xW o u cI cZ cJ) A) (by decide) (Nat.le_of_ble_eq_true rfl) rfl ?_
  intro p e s m args below meth c ls A H S hr hlocks hnm hl hK hP hD hS hA hB
  have hx := S.1
  have hb := S.2.1
  refine lv_iload_n hx hb dX5_suits_0 rfl (lv_at hl 1 rfl) ?_
  refine lv_if_lt (tgt := 10) hx hb dX5_suits_1 (by decide) (fun c => absurd c (by decide)) (fun _ => ?_)
  refine lv_iload_n hx hb dX5_suits_4 rfl (lv_at hl 1 rfl) ?_
  refine lv_bipush (v := 21) hx hb dX5_suits_5 (by decide) ?_
  refine lv_icmp_le (tgt := 12) hx hb dX5_suits_7 (by decide) (fun _ => ?_) (fun c => absurd c (by decide))
  refine lv_aload_n hx hb dX5_suits_12 rfl (lv_at hl 0 rfl) ?_
  refine xgs S hB.z0 hS kw_3_91 rfl dX5_suits_13 ?_
  refine lv_iload_n hx hb dX5_suits_16 rfl (lv_at hl 1 rfl) ?_
  refine xti (v := 2) S hB.t0 hS (vin rfl) rfl dX5_suits_17 ?_
  refine lv_iload_n hx hb dX5_suits_18 rfl (lv_at hl 2 rfl) ?_
  refine aVi (As := [.int 2, .int x2]) (ci := 5) S (c_X5_fills_8 l D cI cZ cJ o u ra ga H.size x2 lo_x2 hi_x2) mi_X5_fills kw_6_31 rfl rfl ⟨Nat.le_of_ble_eq_true rfl, Nat.le_of_ble_eq_true rfl⟩ hP hD hK hS hA hB xW_13 rfl rfl hl.1 (Nat.le_of_ble_eq_true rfl) ⟨Nat.le_of_ble_eq_true rfl, Nat.le_of_ble_eq_true rfl⟩ dX5_suits_19 (fun H locs hz hP hD hS => ?_)
  refine lv_if_eq (tgt := 112) hx hb dX5_suits_22 (by decide) (fun c => absurd c (by decide)) (fun _ => ?_)
  refine lv_aload_n hx hb dX5_suits_25 rfl (lv_at hl 0 rfl) ?_
  refine xgs S hB.z1 hS kw_3_228 rfl dX5_suits_26 ?_
  refine lv_iload_n hx hb dX5_suits_29 rfl (lv_at hl 1 rfl) ?_
  refine xti (v := 7) S hB.t1 hS (vin rfl) rfl dX5_suits_30 ?_
  refine lv_iload_n hx hb dX5_suits_31 rfl (lv_at hl 3 rfl) ?_
  refine rdV (As := [.int 7, .int (-1)]) (ci := 5) S (c_X5_fills_11 l D cI cZ cJ o u) mi_X5_fills kw_6_31 ⟨rfl, rfl⟩ ⟨Nat.le_of_ble_eq_true rfl, Nat.le_of_ble_eq_true rfl⟩ hP hK xW_13 rfl rfl hl.1 (Nat.le_of_ble_eq_true rfl) ⟨Nat.le_of_ble_eq_true rfl, Nat.le_of_ble_eq_true rfl⟩ dX5_suits_32 ?_
  refine lv_if_eq (tgt := 112) hx hb dX5_suits_35 (by decide) (fun c => absurd c (by decide)) (fun _ => ?_)
  refine lv_aload_n hx hb dX5_suits_38 rfl (lv_at hl 0 rfl) ?_
  refine xgs S hB.z2 hS kw_3_222 rfl dX5_suits_39 ?_
  refine lv_iload_n hx hb dX5_suits_42 rfl (lv_at hl 1 rfl) ?_
  refine xti (v := 0) S hB.t2 hS (vin rfl) rfl dX5_suits_43 ?_
  refine lv_iload hx hb dX5_suits_44 (lv_at hl 4 rfl) ?_
  refine rdV (As := [.int 0, .int x4]) (ci := 5) S (c_X5_fills_4 l D cI cZ cJ o u x4 ne_x4_0) mi_X5_fills kw_6_31 ⟨rfl, rfl⟩ ⟨Nat.le_of_ble_eq_true rfl, Nat.le_of_ble_eq_true rfl⟩ hP hK xW_13 rfl rfl hl.1 (Nat.le_of_ble_eq_true rfl) ⟨Nat.le_of_ble_eq_true rfl, Nat.le_of_ble_eq_true rfl⟩ dX5_suits_46 ?_
  refine lv_if_eq (tgt := 112) hx hb dX5_suits_49 (by decide) (fun _ => ?_) (fun c => absurd c (by decide))
  refine lv_iconst (v := 0) hx hb dX5_suits_112 (by decide) ?_
  exact wEndZ S hr hlocks hP hD hS (Nat.le_of_ble_eq_true rfl) (Nat.le_of_ble_eq_true rfl) dX5_suits_113 rfl rfl

set_option maxHeartbeats 8000000 in
set_option maxRecDepth 100000 in
theorem c_X8_node_18 (l : Launch) (D : va_G) (cI cZ cJ : ClassId) (o : Nat) (u : Nat → Nat) (ra ga : Nat → Nat) (sz : Nat) (x2 : Int32) (lo_x2 : 0 ≤ x2) (hi_x2 : x2 ≤ 15) : Met l yX8_node (uW yX8_node cX8_node 5 (some .int)) ({ frames := 3, cells := 0, slots := 0, locals := 66 }) (va_Pc [.ref o, .int 8, .int x2, .int (-1), .int 0] (aS ra ga D (tyL cI cZ cJ) (xW o u cI cZ cJ) sz)) (wQi (0) D ((((((((xW o u cI cZ cJ).set 13 ((u 12), .inr (5, ([.int 0, .ref (u 13), .ref (u 14), .ref (u 15), .ref (u 16), .ref (u 17), .ref (u 18)].set 0 (.int 1))))).set 14 ((u 13), .inl (cI, 110, .inl (upd (fun _ => 0) (0 : Int32).toNatClampNeg 8)))).set 15 ((u 14), .inl (cI, 110, .inl (upd (fun _ => 0) (0 : Int32).toNatClampNeg x2)))).set 16 ((u 15), .inl (cI, 110, .inl (upd (fun _ => 0) (0 : Int32).toNatClampNeg (-1))))).set 17 ((u 16), .inl (cI, 110, .inl (upd (fun _ => 0) (0 : Int32).toNatClampNeg 0)))).set 18 ((u 17), .inl (cI, 110, .inl (upd (fun _ => 0) (0 : Int32).toNatClampNeg (-1))))).set 19 ((u 18), .inl (cI, 110, .inl (upd (fun _ => 0) (0 : Int32).toNatClampNeg (-1))))) (va_A (xW o u cI cZ cJ) sz)) 0 0 (va_A (xW o u cI cZ cJ) sz) := by
  refine aStart (lv := [(0, .ref o), (1, .int 8), (2, .int x2), (3, .int (-1)), (4, .int 0)]) (Qc := fun A => wQi (0) D ((((((((xW o u cI cZ cJ).set 13 ((u 12), .inr (5, ([.int 0, .ref (u 13), .ref (u 14), .ref (u 15), .ref (u 16), .ref (u 17), .ref (u 18)].set 0 (.int 1))))).set 14 ((u 13), .inl (cI, 110, .inl (upd (fun _ => 0) (0 : Int32).toNatClampNeg 8)))).set 15 ((u 14), .inl (cI, 110, .inl (upd (fun _ => 0) (0 : Int32).toNatClampNeg x2)))).set 16 ((u 15), .inl (cI, 110, .inl (upd (fun _ => 0) (0 : Int32).toNatClampNeg (-1))))).set 17 ((u 16), .inl (cI, 110, .inl (upd (fun _ => 0) (0 : Int32).toNatClampNeg 0)))).set 18 ((u 17), .inl (cI, 110, .inl (upd (fun _ => 0) (0 : Int32).toNatClampNeg (-1))))).set 19 ((u 18), .inl (cI, 110, .inl (upd (fun _ => 0) (0 : Int32).toNatClampNeg (-1))))) A) (by decide) (Nat.le_of_ble_eq_true rfl) rfl ?_
  intro p e s m args below meth c ls A H S hr hlocks hnm hl hK hP hD hS hA hB
  have hx := S.1
  have hb := S.2.1
  refine lv_aload_n hx hb dX8_node_0 rfl (lv_at hl 0 rfl) ?_
  refine xg (ci := 8) S inX8 rfl hK hP xW_0 1 (by decide) rfl kw_3_21 rfl dX8_node_1 ?_
  refine lv_iload_n hx hb dX8_node_4 rfl (lv_at hl 1 rfl) ?_
  refine lv_iload_n hx hb dX8_node_5 rfl (lv_at hl 2 rfl) ?_
  refine lv_iload_n hx hb dX8_node_6 rfl (lv_at hl 3 rfl) ?_
  refine lv_iload hx hb dX8_node_7 (lv_at hl 4 rfl) ?_
  refine aVi (As := [.int 8, .int x2, .int (-1), .int 0]) (ci := 5) S (c_X5_suits_18 l D cI cZ cJ o u ra ga H.size x2 lo_x2 hi_x2) mi_X5_suits kw_6_27 rfl rfl ⟨Nat.le_of_ble_eq_true rfl, Nat.le_of_ble_eq_true rfl⟩ hP hD hK hS hA hB xW_13 rfl rfl hl.1 (Nat.le_of_ble_eq_true rfl) ⟨Nat.le_of_ble_eq_true rfl, Nat.le_of_ble_eq_true rfl⟩ dX8_node_9 (fun H locs hz hP hD hS => ?_)
  refine aSv (As := [.int 1]) S (c_X8_needArgument_1 l D cI cZ cJ o u ra ga H.size) ms_X8_needArgument kw_4_4 rfl rfl ⟨Nat.le_of_ble_eq_true rfl, Nat.le_of_ble_eq_true rfl⟩ hP hD hK hS hA hB hl.1 (Nat.le_of_ble_eq_true rfl) ⟨Nat.le_of_ble_eq_true rfl, Nat.le_of_ble_eq_true rfl⟩ dX8_node_12 (fun H locs hz hP hD hS => ?_)
  refine lv_aload_n hx hb dX8_node_15 rfl (lv_at hl 0 rfl) ?_
  refine xg (ci := 8) S inX8 rfl hK hP xW_0 1 (by decide) rfl kw_3_21 rfl dX8_node_16 ?_
  refine xg (ci := 5) S inX5 rfl hK hP xW_13 0 (by decide) rfl kw_1_110 rfl dX8_node_19 ?_
  refine lv_bipush (v := 110) hx hb dX8_node_22 (by decide) ?_
  refine lv_icmp_ge (tgt := 31) hx hb dX8_node_24 (by decide) (fun c => absurd c (by decide)) (fun _ => ?_)
  refine lv_iconst (v := 1) hx hb dX8_node_27 (by decide) ?_
  refine lv_goto (tgt := 32) hx hb dX8_node_28 (by decide) ?_
  refine aSv (As := [.int 1]) S (c_X8_needState_0 l D cI cZ cJ o u ra ga H.size) ms_X8_needState kw_5_183 rfl rfl ⟨Nat.le_of_ble_eq_true rfl, Nat.le_of_ble_eq_true rfl⟩ hP hD hK hS hA hB hl.1 (Nat.le_of_ble_eq_true rfl) ⟨Nat.le_of_ble_eq_true rfl, Nat.le_of_ble_eq_true rfl⟩ dX8_node_32 (fun H locs hz hP hD hS => ?_)
  refine lv_aload_n hx hb dX8_node_35 rfl (lv_at hl 0 rfl) ?_
  refine lv_iconst (v := 1) hx hb dX8_node_36 (by decide) ?_
  refine xp (ci := 8) (v := .int 1) S inX8 tyX8 tyX8_ok nmX8 rfl hK hP hD hS xW_0 9 (by decide) kw_3_29 rfl rfl rfl rfl (Nat.le_of_ble_eq_true rfl) dX8_node_37 (fun H locs hP hD hS => ?_)
  have hP : va_P D vwCl (xW o u cI cZ cJ) H := hP
  have hD : va_D A (xW o u cI cZ cJ) := hD
  refine lv_aload_n hx hb dX8_node_40 rfl (lv_at hl 0 rfl) ?_
  refine xg (ci := 8) S inX8 rfl hK hP xW_0 1 (by decide) rfl kw_3_21 rfl dX8_node_41 ?_
  refine lv_iload_n hx hb dX8_node_44 rfl (lv_at hl 1 rfl) ?_
  refine lv_iload_n hx hb dX8_node_45 rfl (lv_at hl 2 rfl) ?_
  refine lv_iload_n hx hb dX8_node_46 rfl (lv_at hl 3 rfl) ?_
  refine lv_iload hx hb dX8_node_47 (lv_at hl 4 rfl) ?_
  refine aVi (As := [.int 8, .int x2, .int (-1), .int 0]) (ci := 5) S (c_X5_add_2 l D cI cZ cJ o u ra ga H.size x2 lo_x2 hi_x2) mi_X5_add kw_6_53 rfl rfl ⟨Nat.le_of_ble_eq_true rfl, Nat.le_of_ble_eq_true rfl⟩ hP hD hK hS hA hB xW_13 rfl rfl hl.1 (Nat.le_of_ble_eq_true rfl) ⟨Nat.le_of_ble_eq_true rfl, Nat.le_of_ble_eq_true rfl⟩ dX8_node_49 (fun H locs hz hP hD hS => ?_)
  exact wEnd S hr hlocks hP hD hS (Nat.le_of_ble_eq_true rfl) (Nat.le_of_ble_eq_true rfl) dX8_node_52 rfl

set_option maxHeartbeats 8000000 in
set_option maxRecDepth 100000 in
theorem c_X8_node_19 (l : Launch) (D : va_G) (cI cZ cJ : ClassId) (o : Nat) (u : Nat → Nat) (hst : l.stackTraces = false) (ra ga : Nat → Nat) (sz : Nat) (x2 : Int32) (x4 : Int32) (lo_x2 : 0 ≤ x2) (hi_x2 : x2 ≤ 15) (ne_x4_0 : ¬ x4 = 0) : vx_Met l yX8_node (uW yX8_node cX8_node 5 (some .int)) ({ frames := 7, cells := 1, slots := 6, locals := 102 }) (va_Pc [.ref o, .int 8, .int x2, .int (-1), .int x4] (aS ra ga D (tyL cI cZ cJ) (xW o u cI cZ cJ) sz)) (nQi (va_A (xW o u cI cZ cJ) sz)) (wX "java/lang/IllegalArgumentException" D (xW o u cI cZ cJ) (va_A (xW o u cI cZ cJ) sz)) 1 6 (va_A (xW o u cI cZ cJ) sz) := by
  refine xStart (lv := [(0, .ref o), (1, .int 8), (2, .int x2), (3, .int (-1)), (4, .int x4)]) (Qc := fun A => nQi A) (XC := fun A => wX "java/lang/IllegalArgumentException" D (xW o u cI cZ cJ) A) (by decide) (Nat.le_of_ble_eq_true rfl) rfl ?_
  intro p e s m args below meth c ls A H S hr hlocks hnm hl hK hP hD hS hA hB hnt
  have hx := S.1
  have hb := S.2.1
  refine lv_aload_n hx hb dX8_node_0 rfl (lv_at hl 0 rfl) ?_
  refine xg (ci := 8) S inX8 rfl hK hP xW_0 1 (by decide) rfl kw_3_21 rfl dX8_node_1 ?_
  refine lv_iload_n hx hb dX8_node_4 rfl (lv_at hl 1 rfl) ?_
  refine lv_iload_n hx hb dX8_node_5 rfl (lv_at hl 2 rfl) ?_
  refine lv_iload_n hx hb dX8_node_6 rfl (lv_at hl 3 rfl) ?_
  refine lv_iload hx hb dX8_node_7 (lv_at hl 4 rfl) ?_
  refine aVi (As := [.int 8, .int x2, .int (-1), .int x4]) (ci := 5) S (c_X5_suits_19 l D cI cZ cJ o u ra ga H.size x2 x4 lo_x2 hi_x2 ne_x4_0) mi_X5_suits kw_6_27 rfl rfl ⟨Nat.le_of_ble_eq_true rfl, Nat.le_of_ble_eq_true rfl⟩ hP hD hK hS hA hB xW_13 rfl rfl hl.1 (Nat.le_of_ble_eq_true rfl) ⟨Nat.le_of_ble_eq_true rfl, Nat.le_of_ble_eq_true rfl⟩ dX8_node_9 (fun H locs hz hP hD hS => ?_)
  exact tSv (As := [.int 0]) S (c_X8_needArgument_0 l D cI cZ cJ o u hst ra ga H.size) ms_X8_needArgument kw_4_4 rfl rfl ⟨Nat.le_of_ble_eq_true rfl, Nat.le_of_ble_eq_true rfl⟩ hP hD hK hS hA hB hl.1 (Nat.le_of_ble_eq_true rfl) ⟨Nat.le_of_ble_eq_true rfl, Nat.le_of_ble_eq_true rfl⟩ dX8_node_12 hnt hlocks (Nat.le_of_ble_eq_true rfl) (Nat.le_of_ble_eq_true rfl)

set_option maxHeartbeats 8000000 in
set_option maxRecDepth 100000 in
theorem c_X5_suits_20 (l : Launch) (D : va_G) (cI cZ cJ : ClassId) (o : Nat) (u : Nat → Nat) (ra ga : Nat → Nat) (sz : Nat) (x2 : Int32) (x3 : Int32) (x4 : Int32) (lo_x2 : 0 ≤ x2) (hi_x2 : x2 ≤ 15) (ne_x3_m1 : ¬ x3 = (-1)) : Met l yX5_suits (uW yX5_suits cX5_suits 5 (some .boolean)) ({ frames := 3, cells := 0, slots := 0, locals := 65 }) (va_Pc [.ref (u 12), .int 8, .int x2, .int x3, .int x4] (aS ra ga D (tyL cI cZ cJ) (xW o u cI cZ cJ) sz)) (wQi (0) D (xW o u cI cZ cJ) (va_A (xW o u cI cZ cJ) sz)) 0 0 (va_A (xW o u cI cZ cJ) sz) := by
  refine aStart (lv := [(0, .ref (u 12)), (1, .int 8), (2, .int x2), (3, .int x3), (4, .int x4)]) (Qc := fun A => wQi (0) D (xW o u cI cZ cJ) A) (by decide) (Nat.le_of_ble_eq_true rfl) rfl ?_
  intro p e s m args below meth c ls A H S hr hlocks hnm hl hK hP hD hS hA hB
  have hx := S.1
  have hb := S.2.1
  refine lv_iload_n hx hb dX5_suits_0 rfl (lv_at hl 1 rfl) ?_
  refine lv_if_lt (tgt := 10) hx hb dX5_suits_1 (by decide) (fun c => absurd c (by decide)) (fun _ => ?_)
  refine lv_iload_n hx hb dX5_suits_4 rfl (lv_at hl 1 rfl) ?_
  refine lv_bipush (v := 21) hx hb dX5_suits_5 (by decide) ?_
  refine lv_icmp_le (tgt := 12) hx hb dX5_suits_7 (by decide) (fun _ => ?_) (fun c => absurd c (by decide))
  refine lv_aload_n hx hb dX5_suits_12 rfl (lv_at hl 0 rfl) ?_
  refine xgs S hB.z0 hS kw_3_91 rfl dX5_suits_13 ?_
  refine lv_iload_n hx hb dX5_suits_16 rfl (lv_at hl 1 rfl) ?_
  refine xti (v := 2) S hB.t0 hS (vin rfl) rfl dX5_suits_17 ?_
  refine lv_iload_n hx hb dX5_suits_18 rfl (lv_at hl 2 rfl) ?_
  refine aVi (As := [.int 2, .int x2]) (ci := 5) S (c_X5_fills_8 l D cI cZ cJ o u ra ga H.size x2 lo_x2 hi_x2) mi_X5_fills kw_6_31 rfl rfl ⟨Nat.le_of_ble_eq_true rfl, Nat.le_of_ble_eq_true rfl⟩ hP hD hK hS hA hB xW_13 rfl rfl hl.1 (Nat.le_of_ble_eq_true rfl) ⟨Nat.le_of_ble_eq_true rfl, Nat.le_of_ble_eq_true rfl⟩ dX5_suits_19 (fun H locs hz hP hD hS => ?_)
  refine lv_if_eq (tgt := 112) hx hb dX5_suits_22 (by decide) (fun c => absurd c (by decide)) (fun _ => ?_)
  refine lv_aload_n hx hb dX5_suits_25 rfl (lv_at hl 0 rfl) ?_
  refine xgs S hB.z1 hS kw_3_228 rfl dX5_suits_26 ?_
  refine lv_iload_n hx hb dX5_suits_29 rfl (lv_at hl 1 rfl) ?_
  refine xti (v := 7) S hB.t1 hS (vin rfl) rfl dX5_suits_30 ?_
  refine lv_iload_n hx hb dX5_suits_31 rfl (lv_at hl 3 rfl) ?_
  refine rdV (As := [.int 7, .int x3]) (ci := 5) S (c_X5_fills_12 l D cI cZ cJ o u x3 ne_x3_m1) mi_X5_fills kw_6_31 ⟨rfl, rfl⟩ ⟨Nat.le_of_ble_eq_true rfl, Nat.le_of_ble_eq_true rfl⟩ hP hK xW_13 rfl rfl hl.1 (Nat.le_of_ble_eq_true rfl) ⟨Nat.le_of_ble_eq_true rfl, Nat.le_of_ble_eq_true rfl⟩ dX5_suits_32 ?_
  refine lv_if_eq (tgt := 112) hx hb dX5_suits_35 (by decide) (fun _ => ?_) (fun c => absurd c (by decide))
  refine lv_iconst (v := 0) hx hb dX5_suits_112 (by decide) ?_
  exact wEndZ S hr hlocks hP hD hS (Nat.le_of_ble_eq_true rfl) (Nat.le_of_ble_eq_true rfl) dX5_suits_113 rfl rfl

set_option maxHeartbeats 8000000 in
set_option maxRecDepth 100000 in
theorem c_X8_node_20 (l : Launch) (D : va_G) (cI cZ cJ : ClassId) (o : Nat) (u : Nat → Nat) (hst : l.stackTraces = false) (ra ga : Nat → Nat) (sz : Nat) (x2 : Int32) (x3 : Int32) (x4 : Int32) (lo_x2 : 0 ≤ x2) (hi_x2 : x2 ≤ 15) (ne_x3_m1 : ¬ x3 = (-1)) : vx_Met l yX8_node (uW yX8_node cX8_node 5 (some .int)) ({ frames := 7, cells := 1, slots := 6, locals := 102 }) (va_Pc [.ref o, .int 8, .int x2, .int x3, .int x4] (aS ra ga D (tyL cI cZ cJ) (xW o u cI cZ cJ) sz)) (nQi (va_A (xW o u cI cZ cJ) sz)) (wX "java/lang/IllegalArgumentException" D (xW o u cI cZ cJ) (va_A (xW o u cI cZ cJ) sz)) 1 6 (va_A (xW o u cI cZ cJ) sz) := by
  refine xStart (lv := [(0, .ref o), (1, .int 8), (2, .int x2), (3, .int x3), (4, .int x4)]) (Qc := fun A => nQi A) (XC := fun A => wX "java/lang/IllegalArgumentException" D (xW o u cI cZ cJ) A) (by decide) (Nat.le_of_ble_eq_true rfl) rfl ?_
  intro p e s m args below meth c ls A H S hr hlocks hnm hl hK hP hD hS hA hB hnt
  have hx := S.1
  have hb := S.2.1
  refine lv_aload_n hx hb dX8_node_0 rfl (lv_at hl 0 rfl) ?_
  refine xg (ci := 8) S inX8 rfl hK hP xW_0 1 (by decide) rfl kw_3_21 rfl dX8_node_1 ?_
  refine lv_iload_n hx hb dX8_node_4 rfl (lv_at hl 1 rfl) ?_
  refine lv_iload_n hx hb dX8_node_5 rfl (lv_at hl 2 rfl) ?_
  refine lv_iload_n hx hb dX8_node_6 rfl (lv_at hl 3 rfl) ?_
  refine lv_iload hx hb dX8_node_7 (lv_at hl 4 rfl) ?_
  refine aVi (As := [.int 8, .int x2, .int x3, .int x4]) (ci := 5) S (c_X5_suits_20 l D cI cZ cJ o u ra ga H.size x2 x3 x4 lo_x2 hi_x2 ne_x3_m1) mi_X5_suits kw_6_27 rfl rfl ⟨Nat.le_of_ble_eq_true rfl, Nat.le_of_ble_eq_true rfl⟩ hP hD hK hS hA hB xW_13 rfl rfl hl.1 (Nat.le_of_ble_eq_true rfl) ⟨Nat.le_of_ble_eq_true rfl, Nat.le_of_ble_eq_true rfl⟩ dX8_node_9 (fun H locs hz hP hD hS => ?_)
  exact tSv (As := [.int 0]) S (c_X8_needArgument_0 l D cI cZ cJ o u hst ra ga H.size) ms_X8_needArgument kw_4_4 rfl rfl ⟨Nat.le_of_ble_eq_true rfl, Nat.le_of_ble_eq_true rfl⟩ hP hD hK hS hA hB hl.1 (Nat.le_of_ble_eq_true rfl) ⟨Nat.le_of_ble_eq_true rfl, Nat.le_of_ble_eq_true rfl⟩ dX8_node_12 hnt hlocks (Nat.le_of_ble_eq_true rfl) (Nat.le_of_ble_eq_true rfl)

set_option maxHeartbeats 8000000 in
set_option maxRecDepth 100000 in
theorem c_X5_isPartFor_2 (l : Launch) (D : va_G) (cI cZ cJ : ClassId) (o : Nat) (u : Nat → Nat) (x3 : Int32) : Met l yX5_isPartFor (uW yX5_isPartFor cX5_isPartFor 3 (some .boolean)) ({ frames := 1, cells := 0, slots := 0, locals := 21 }) (va_Pc [.ref (u 12), .int 8, .int x3] (pS D (tyL cI cZ cJ) (xW o u cI cZ cJ))) (QcRead (0)) 0 0 (fun _ => False) := by
  refine rdStart (lv := [(0, .ref (u 12)), (1, .int 8), (2, .int x3)]) (by decide) (Nat.le_of_ble_eq_true rfl) rfl ?_
  intro p e s m args below meth c ls S hr hlocks hl hP hK
  have hx := S.1
  have hb := S.2.1
  refine lv_aload_n hx hb dX5_isPartFor_0 rfl (lv_at hl 0 rfl) ?_
  refine lv_iload_n hx hb dX5_isPartFor_1 rfl (lv_at hl 2 rfl) ?_
  refine rdV (As := [.int x3]) (ci := 5) S (c_X5_has_0 l D cI cZ cJ o u x3) mi_X5_has kw_6_40 ⟨rfl, rfl⟩ ⟨Nat.le_of_ble_eq_true rfl, Nat.le_of_ble_eq_true rfl⟩ hP hK xW_13 rfl rfl hl.1 (Nat.le_of_ble_eq_true rfl) ⟨Nat.le_of_ble_eq_true rfl, Nat.le_of_ble_eq_true rfl⟩ dX5_isPartFor_2 ?_
  refine lv_if_eq (tgt := 16) hx hb dX5_isPartFor_5 (by decide) (fun _ => ?_) (fun c => absurd c (by decide))
  refine lv_iconst (v := 0) hx hb dX5_isPartFor_16 (by decide) ?_
  exact rdEndZ S hr hlocks dX5_isPartFor_17 rfl rfl

set_option maxHeartbeats 8000000 in
set_option maxRecDepth 100000 in
theorem c_X5_fills_13 (l : Launch) (D : va_G) (cI cZ cJ : ClassId) (o : Nat) (u : Nat → Nat) (x3 : Int32) : Met l yX5_fills (uW yX5_fills cX5_fills 3 (some .boolean)) ({ frames := 2, cells := 0, slots := 0, locals := 43 }) (va_Pc [.ref (u 12), .int 8, .int x3] (pS D (tyL cI cZ cJ) (xW o u cI cZ cJ))) (QcRead (0)) 0 0 (fun _ => False) := by
  refine rdStart (lv := [(0, .ref (u 12)), (1, .int 8), (2, .int x3)]) (by decide) (Nat.le_of_ble_eq_true rfl) rfl ?_
  intro p e s m args below meth c ls S hr hlocks hl hP hK
  have hx := S.1
  have hb := S.2.1
  refine lv_iload_n hx hb dX5_fills_0 rfl (lv_at hl 1 rfl) ?_
  refine lv_tableOut (tgt := 119) hx hb dX5_fills_1 (by decide) (by decide) ?_
  refine lv_aload_n hx hb dX5_fills_119 rfl (lv_at hl 0 rfl) ?_
  refine lv_iload_n hx hb dX5_fills_120 rfl (lv_at hl 1 rfl) ?_
  refine lv_iload_n hx hb dX5_fills_121 rfl (lv_at hl 2 rfl) ?_
  refine rdV (As := [.int 8, .int x3]) (ci := 5) S (c_X5_isPartFor_2 l D cI cZ cJ o u x3) mi_X5_isPartFor kw_6_36 ⟨rfl, rfl⟩ ⟨Nat.le_of_ble_eq_true rfl, Nat.le_of_ble_eq_true rfl⟩ hP hK xW_13 rfl rfl hl.1 (Nat.le_of_ble_eq_true rfl) ⟨Nat.le_of_ble_eq_true rfl, Nat.le_of_ble_eq_true rfl⟩ dX5_fills_122 ?_
  exact rdEndZ S hr hlocks dX5_fills_125 rfl rfl

set_option maxHeartbeats 8000000 in
set_option maxRecDepth 100000 in
theorem c_X5_suits_21 (l : Launch) (D : va_G) (cI cZ cJ : ClassId) (o : Nat) (u : Nat → Nat) (ra ga : Nat → Nat) (sz : Nat) (x2 : Int32) (x3 : Int32) (x4 : Int32) : Met l yX5_suits (uW yX5_suits cX5_suits 5 (some .boolean)) ({ frames := 3, cells := 0, slots := 0, locals := 65 }) (va_Pc [.ref (u 12), .int 9, .int x2, .int x3, .int x4] (aS ra ga D (tyL cI cZ cJ) (xW o u cI cZ cJ) sz)) (wQi (0) D (xW o u cI cZ cJ) (va_A (xW o u cI cZ cJ) sz)) 0 0 (va_A (xW o u cI cZ cJ) sz) := by
  refine aStart (lv := [(0, .ref (u 12)), (1, .int 9), (2, .int x2), (3, .int x3), (4, .int x4)]) (Qc := fun A => wQi (0) D (xW o u cI cZ cJ) A) (by decide) (Nat.le_of_ble_eq_true rfl) rfl ?_
  intro p e s m args below meth c ls A H S hr hlocks hnm hl hK hP hD hS hA hB
  have hx := S.1
  have hb := S.2.1
  refine lv_iload_n hx hb dX5_suits_0 rfl (lv_at hl 1 rfl) ?_
  refine lv_if_lt (tgt := 10) hx hb dX5_suits_1 (by decide) (fun c => absurd c (by decide)) (fun _ => ?_)
  refine lv_iload_n hx hb dX5_suits_4 rfl (lv_at hl 1 rfl) ?_
  refine lv_bipush (v := 21) hx hb dX5_suits_5 (by decide) ?_
  refine lv_icmp_le (tgt := 12) hx hb dX5_suits_7 (by decide) (fun _ => ?_) (fun c => absurd c (by decide))
  refine lv_aload_n hx hb dX5_suits_12 rfl (lv_at hl 0 rfl) ?_
  refine xgs S hB.z0 hS kw_3_91 rfl dX5_suits_13 ?_
  refine lv_iload_n hx hb dX5_suits_16 rfl (lv_at hl 1 rfl) ?_
  refine xti (v := 0) S hB.t0 hS (vin rfl) rfl dX5_suits_17 ?_
  refine lv_iload_n hx hb dX5_suits_18 rfl (lv_at hl 2 rfl) ?_
  by_cases d_19 : x2 = 0
  · have e_x2 : x2 = 0 := d_19
    subst e_x2
    refine rdV (As := [.int 0, .int 0]) (ci := 5) S (c_X5_fills_3 l D cI cZ cJ o u) mi_X5_fills kw_6_31 ⟨rfl, rfl⟩ ⟨Nat.le_of_ble_eq_true rfl, Nat.le_of_ble_eq_true rfl⟩ hP hK xW_13 rfl rfl hl.1 (Nat.le_of_ble_eq_true rfl) ⟨Nat.le_of_ble_eq_true rfl, Nat.le_of_ble_eq_true rfl⟩ dX5_suits_19 ?_
    refine lv_if_eq (tgt := 112) hx hb dX5_suits_22 (by decide) (fun c => absurd c (by decide)) (fun _ => ?_)
    refine lv_aload_n hx hb dX5_suits_25 rfl (lv_at hl 0 rfl) ?_
    refine xgs S hB.z1 hS kw_3_228 rfl dX5_suits_26 ?_
    refine lv_iload_n hx hb dX5_suits_29 rfl (lv_at hl 1 rfl) ?_
    refine xti (v := 8) S hB.t1 hS (vin rfl) rfl dX5_suits_30 ?_
    refine lv_iload_n hx hb dX5_suits_31 rfl (lv_at hl 3 rfl) ?_
    refine rdV (As := [.int 8, .int x3]) (ci := 5) S (c_X5_fills_13 l D cI cZ cJ o u x3) mi_X5_fills kw_6_31 ⟨rfl, rfl⟩ ⟨Nat.le_of_ble_eq_true rfl, Nat.le_of_ble_eq_true rfl⟩ hP hK xW_13 rfl rfl hl.1 (Nat.le_of_ble_eq_true rfl) ⟨Nat.le_of_ble_eq_true rfl, Nat.le_of_ble_eq_true rfl⟩ dX5_suits_32 ?_
    refine lv_if_eq (tgt := 112) hx hb dX5_suits_35 (by decide) (fun _ => ?_) (fun c => absurd c (by decide))
    refine lv_iconst (v := 0) hx hb dX5_suits_112 (by decide) ?_
    exact wEndZ S hr hlocks hP hD hS (Nat.le_of_ble_eq_true rfl) (Nat.le_of_ble_eq_true rfl) dX5_suits_113 rfl rfl
  · have ne_x2_0 : ¬ x2 = 0 := d_19
    refine rdV (As := [.int 0, .int x2]) (ci := 5) S (c_X5_fills_10 l D cI cZ cJ o u x2 ne_x2_0) mi_X5_fills kw_6_31 ⟨rfl, rfl⟩ ⟨Nat.le_of_ble_eq_true rfl, Nat.le_of_ble_eq_true rfl⟩ hP hK xW_13 rfl rfl hl.1 (Nat.le_of_ble_eq_true rfl) ⟨Nat.le_of_ble_eq_true rfl, Nat.le_of_ble_eq_true rfl⟩ dX5_suits_19 ?_
    refine lv_if_eq (tgt := 112) hx hb dX5_suits_22 (by decide) (fun _ => ?_) (fun c => absurd c (by decide))
    refine lv_iconst (v := 0) hx hb dX5_suits_112 (by decide) ?_
    exact wEndZ S hr hlocks hP hD hS (Nat.le_of_ble_eq_true rfl) (Nat.le_of_ble_eq_true rfl) dX5_suits_113 rfl rfl

set_option maxHeartbeats 8000000 in
set_option maxRecDepth 100000 in
theorem c_X5_suits_22 (l : Launch) (D : va_G) (cI cZ cJ : ClassId) (o : Nat) (u : Nat → Nat) (ra ga : Nat → Nat) (sz : Nat) (x2 : Int32) (x3 : Int32) (x4 : Int32) (hi_x2 : x2 ≤ (-1)) : Met l yX5_suits (uW yX5_suits cX5_suits 5 (some .boolean)) ({ frames := 2, cells := 0, slots := 0, locals := 42 }) (va_Pc [.ref (u 12), .int 10, .int x2, .int x3, .int x4] (aS ra ga D (tyL cI cZ cJ) (xW o u cI cZ cJ) sz)) (wQi (0) D (xW o u cI cZ cJ) (va_A (xW o u cI cZ cJ) sz)) 0 0 (va_A (xW o u cI cZ cJ) sz) := by
  refine aStart (lv := [(0, .ref (u 12)), (1, .int 10), (2, .int x2), (3, .int x3), (4, .int x4)]) (Qc := fun A => wQi (0) D (xW o u cI cZ cJ) A) (by decide) (Nat.le_of_ble_eq_true rfl) rfl ?_
  intro p e s m args below meth c ls A H S hr hlocks hnm hl hK hP hD hS hA hB
  have hx := S.1
  have hb := S.2.1
  refine lv_iload_n hx hb dX5_suits_0 rfl (lv_at hl 1 rfl) ?_
  refine lv_if_lt (tgt := 10) hx hb dX5_suits_1 (by decide) (fun c => absurd c (by decide)) (fun _ => ?_)
  refine lv_iload_n hx hb dX5_suits_4 rfl (lv_at hl 1 rfl) ?_
  refine lv_bipush (v := 21) hx hb dX5_suits_5 (by decide) ?_
  refine lv_icmp_le (tgt := 12) hx hb dX5_suits_7 (by decide) (fun _ => ?_) (fun c => absurd c (by decide))
  refine lv_aload_n hx hb dX5_suits_12 rfl (lv_at hl 0 rfl) ?_
  refine xgs S hB.z0 hS kw_3_91 rfl dX5_suits_13 ?_
  refine lv_iload_n hx hb dX5_suits_16 rfl (lv_at hl 1 rfl) ?_
  refine xti (v := 2) S hB.t0 hS (vin rfl) rfl dX5_suits_17 ?_
  refine lv_iload_n hx hb dX5_suits_18 rfl (lv_at hl 2 rfl) ?_
  refine aVi (As := [.int 2, .int x2]) (ci := 5) S (c_X5_fills_6 l D cI cZ cJ o u ra ga H.size x2 hi_x2) mi_X5_fills kw_6_31 rfl rfl ⟨Nat.le_of_ble_eq_true rfl, Nat.le_of_ble_eq_true rfl⟩ hP hD hK hS hA hB xW_13 rfl rfl hl.1 (Nat.le_of_ble_eq_true rfl) ⟨Nat.le_of_ble_eq_true rfl, Nat.le_of_ble_eq_true rfl⟩ dX5_suits_19 (fun H locs hz hP hD hS => ?_)
  refine lv_if_eq (tgt := 112) hx hb dX5_suits_22 (by decide) (fun _ => ?_) (fun c => absurd c (by decide))
  refine lv_iconst (v := 0) hx hb dX5_suits_112 (by decide) ?_
  exact wEndZ S hr hlocks hP hD hS (Nat.le_of_ble_eq_true rfl) (Nat.le_of_ble_eq_true rfl) dX5_suits_113 rfl rfl

set_option maxHeartbeats 8000000 in
set_option maxRecDepth 100000 in
theorem c_X5_suits_23 (l : Launch) (D : va_G) (cI cZ cJ : ClassId) (o : Nat) (u : Nat → Nat) (ra ga : Nat → Nat) (sz : Nat) (x2 : Int32) (x3 : Int32) (x4 : Int32) (lo_x2 : 16 ≤ x2) : Met l yX5_suits (uW yX5_suits cX5_suits 5 (some .boolean)) ({ frames := 2, cells := 0, slots := 0, locals := 42 }) (va_Pc [.ref (u 12), .int 10, .int x2, .int x3, .int x4] (aS ra ga D (tyL cI cZ cJ) (xW o u cI cZ cJ) sz)) (wQi (0) D (xW o u cI cZ cJ) (va_A (xW o u cI cZ cJ) sz)) 0 0 (va_A (xW o u cI cZ cJ) sz) := by
  refine aStart (lv := [(0, .ref (u 12)), (1, .int 10), (2, .int x2), (3, .int x3), (4, .int x4)]) (Qc := fun A => wQi (0) D (xW o u cI cZ cJ) A) (by decide) (Nat.le_of_ble_eq_true rfl) rfl ?_
  intro p e s m args below meth c ls A H S hr hlocks hnm hl hK hP hD hS hA hB
  have hx := S.1
  have hb := S.2.1
  refine lv_iload_n hx hb dX5_suits_0 rfl (lv_at hl 1 rfl) ?_
  refine lv_if_lt (tgt := 10) hx hb dX5_suits_1 (by decide) (fun c => absurd c (by decide)) (fun _ => ?_)
  refine lv_iload_n hx hb dX5_suits_4 rfl (lv_at hl 1 rfl) ?_
  refine lv_bipush (v := 21) hx hb dX5_suits_5 (by decide) ?_
  refine lv_icmp_le (tgt := 12) hx hb dX5_suits_7 (by decide) (fun _ => ?_) (fun c => absurd c (by decide))
  refine lv_aload_n hx hb dX5_suits_12 rfl (lv_at hl 0 rfl) ?_
  refine xgs S hB.z0 hS kw_3_91 rfl dX5_suits_13 ?_
  refine lv_iload_n hx hb dX5_suits_16 rfl (lv_at hl 1 rfl) ?_
  refine xti (v := 2) S hB.t0 hS (vin rfl) rfl dX5_suits_17 ?_
  refine lv_iload_n hx hb dX5_suits_18 rfl (lv_at hl 2 rfl) ?_
  refine aVi (As := [.int 2, .int x2]) (ci := 5) S (c_X5_fills_7 l D cI cZ cJ o u ra ga H.size x2 lo_x2) mi_X5_fills kw_6_31 rfl rfl ⟨Nat.le_of_ble_eq_true rfl, Nat.le_of_ble_eq_true rfl⟩ hP hD hK hS hA hB xW_13 rfl rfl hl.1 (Nat.le_of_ble_eq_true rfl) ⟨Nat.le_of_ble_eq_true rfl, Nat.le_of_ble_eq_true rfl⟩ dX5_suits_19 (fun H locs hz hP hD hS => ?_)
  refine lv_if_eq (tgt := 112) hx hb dX5_suits_22 (by decide) (fun _ => ?_) (fun c => absurd c (by decide))
  refine lv_iconst (v := 0) hx hb dX5_suits_112 (by decide) ?_
  exact wEndZ S hr hlocks hP hD hS (Nat.le_of_ble_eq_true rfl) (Nat.le_of_ble_eq_true rfl) dX5_suits_113 rfl rfl

set_option maxHeartbeats 8000000 in
set_option maxRecDepth 100000 in
theorem c_X5_suits_24 (l : Launch) (D : va_G) (cI cZ cJ : ClassId) (o : Nat) (u : Nat → Nat) (ra ga : Nat → Nat) (sz : Nat) (x2 : Int32) (lo_x2 : 0 ≤ x2) (hi_x2 : x2 ≤ 15) : Met l yX5_suits (uW yX5_suits cX5_suits 5 (some .boolean)) ({ frames := 2, cells := 0, slots := 0, locals := 42 }) (va_Pc [.ref (u 12), .int 10, .int x2, .int 0, .int 0] (aS ra ga D (tyL cI cZ cJ) (xW o u cI cZ cJ) sz)) (wQi (1) D (xW o u cI cZ cJ) (va_A (xW o u cI cZ cJ) sz)) 0 0 (va_A (xW o u cI cZ cJ) sz) := by
  refine aStart (lv := [(0, .ref (u 12)), (1, .int 10), (2, .int x2), (3, .int 0), (4, .int 0)]) (Qc := fun A => wQi (1) D (xW o u cI cZ cJ) A) (by decide) (Nat.le_of_ble_eq_true rfl) rfl ?_
  intro p e s m args below meth c ls A H S hr hlocks hnm hl hK hP hD hS hA hB
  have hx := S.1
  have hb := S.2.1
  refine lv_iload_n hx hb dX5_suits_0 rfl (lv_at hl 1 rfl) ?_
  refine lv_if_lt (tgt := 10) hx hb dX5_suits_1 (by decide) (fun c => absurd c (by decide)) (fun _ => ?_)
  refine lv_iload_n hx hb dX5_suits_4 rfl (lv_at hl 1 rfl) ?_
  refine lv_bipush (v := 21) hx hb dX5_suits_5 (by decide) ?_
  refine lv_icmp_le (tgt := 12) hx hb dX5_suits_7 (by decide) (fun _ => ?_) (fun c => absurd c (by decide))
  refine lv_aload_n hx hb dX5_suits_12 rfl (lv_at hl 0 rfl) ?_
  refine xgs S hB.z0 hS kw_3_91 rfl dX5_suits_13 ?_
  refine lv_iload_n hx hb dX5_suits_16 rfl (lv_at hl 1 rfl) ?_
  refine xti (v := 2) S hB.t0 hS (vin rfl) rfl dX5_suits_17 ?_
  refine lv_iload_n hx hb dX5_suits_18 rfl (lv_at hl 2 rfl) ?_
  refine aVi (As := [.int 2, .int x2]) (ci := 5) S (c_X5_fills_8 l D cI cZ cJ o u ra ga H.size x2 lo_x2 hi_x2) mi_X5_fills kw_6_31 rfl rfl ⟨Nat.le_of_ble_eq_true rfl, Nat.le_of_ble_eq_true rfl⟩ hP hD hK hS hA hB xW_13 rfl rfl hl.1 (Nat.le_of_ble_eq_true rfl) ⟨Nat.le_of_ble_eq_true rfl, Nat.le_of_ble_eq_true rfl⟩ dX5_suits_19 (fun H locs hz hP hD hS => ?_)
  refine lv_if_eq (tgt := 112) hx hb dX5_suits_22 (by decide) (fun c => absurd c (by decide)) (fun _ => ?_)
  refine lv_aload_n hx hb dX5_suits_25 rfl (lv_at hl 0 rfl) ?_
  refine xgs S hB.z1 hS kw_3_228 rfl dX5_suits_26 ?_
  refine lv_iload_n hx hb dX5_suits_29 rfl (lv_at hl 1 rfl) ?_
  refine xti (v := 0) S hB.t1 hS (vin rfl) rfl dX5_suits_30 ?_
  refine lv_iload_n hx hb dX5_suits_31 rfl (lv_at hl 3 rfl) ?_
  refine rdV (As := [.int 0, .int 0]) (ci := 5) S (c_X5_fills_3 l D cI cZ cJ o u) mi_X5_fills kw_6_31 ⟨rfl, rfl⟩ ⟨Nat.le_of_ble_eq_true rfl, Nat.le_of_ble_eq_true rfl⟩ hP hK xW_13 rfl rfl hl.1 (Nat.le_of_ble_eq_true rfl) ⟨Nat.le_of_ble_eq_true rfl, Nat.le_of_ble_eq_true rfl⟩ dX5_suits_32 ?_
  refine lv_if_eq (tgt := 112) hx hb dX5_suits_35 (by decide) (fun c => absurd c (by decide)) (fun _ => ?_)
  refine lv_aload_n hx hb dX5_suits_38 rfl (lv_at hl 0 rfl) ?_
  refine xgs S hB.z2 hS kw_3_222 rfl dX5_suits_39 ?_
  refine lv_iload_n hx hb dX5_suits_42 rfl (lv_at hl 1 rfl) ?_
  refine xti (v := 0) S hB.t2 hS (vin rfl) rfl dX5_suits_43 ?_
  refine lv_iload hx hb dX5_suits_44 (lv_at hl 4 rfl) ?_
  refine rdV (As := [.int 0, .int 0]) (ci := 5) S (c_X5_fills_3 l D cI cZ cJ o u) mi_X5_fills kw_6_31 ⟨rfl, rfl⟩ ⟨Nat.le_of_ble_eq_true rfl, Nat.le_of_ble_eq_true rfl⟩ hP hK xW_13 rfl rfl hl.1 (Nat.le_of_ble_eq_true rfl) ⟨Nat.le_of_ble_eq_true rfl, Nat.le_of_ble_eq_true rfl⟩ dX5_suits_46 ?_
  refine lv_if_eq (tgt := 112) hx hb dX5_suits_49 (by decide) (fun c => absurd c (by decide)) (fun _ => ?_)
  refine xgs S hB.z0 hS kw_3_91 rfl dX5_suits_52 ?_
  refine lv_iload_n hx hb dX5_suits_55 rfl (lv_at hl 1 rfl) ?_
  refine xti (v := 2) S hB.t0 hS (vin rfl) rfl dX5_suits_56 ?_
  refine lv_iload_n hx hb dX5_suits_57 rfl (lv_at hl 2 rfl) ?_
  refine xgs S hB.z1 hS kw_3_228 rfl dX5_suits_58 ?_
  refine lv_iload_n hx hb dX5_suits_61 rfl (lv_at hl 1 rfl) ?_
  refine xti (v := 0) S hB.t1 hS (vin rfl) rfl dX5_suits_62 ?_
  refine lv_iload_n hx hb dX5_suits_63 rfl (lv_at hl 3 rfl) ?_
  refine rdS (As := [.int 2, .int x2, .int 0, .int 0]) S (c_X5_isSamePart_2 l D cI cZ cJ o u x2 lo_x2 hi_x2) ms_X5_isSamePart kw_6_50 ⟨rfl, rfl⟩ ⟨Nat.le_of_ble_eq_true rfl, Nat.le_of_ble_eq_true rfl⟩ hP hK hl.1 (Nat.le_of_ble_eq_true rfl) ⟨Nat.le_of_ble_eq_true rfl, Nat.le_of_ble_eq_true rfl⟩ dX5_suits_64 ?_
  refine lv_if_ne (tgt := 112) hx hb dX5_suits_67 (by decide) (fun c => absurd c (by decide)) (fun _ => ?_)
  refine xgs S hB.z0 hS kw_3_91 rfl dX5_suits_70 ?_
  refine lv_iload_n hx hb dX5_suits_73 rfl (lv_at hl 1 rfl) ?_
  refine xti (v := 2) S hB.t0 hS (vin rfl) rfl dX5_suits_74 ?_
  refine lv_iload_n hx hb dX5_suits_75 rfl (lv_at hl 2 rfl) ?_
  refine xgs S hB.z2 hS kw_3_222 rfl dX5_suits_76 ?_
  refine lv_iload_n hx hb dX5_suits_79 rfl (lv_at hl 1 rfl) ?_
  refine xti (v := 0) S hB.t2 hS (vin rfl) rfl dX5_suits_80 ?_
  refine lv_iload hx hb dX5_suits_81 (lv_at hl 4 rfl) ?_
  refine rdS (As := [.int 2, .int x2, .int 0, .int 0]) S (c_X5_isSamePart_2 l D cI cZ cJ o u x2 lo_x2 hi_x2) ms_X5_isSamePart kw_6_50 ⟨rfl, rfl⟩ ⟨Nat.le_of_ble_eq_true rfl, Nat.le_of_ble_eq_true rfl⟩ hP hK hl.1 (Nat.le_of_ble_eq_true rfl) ⟨Nat.le_of_ble_eq_true rfl, Nat.le_of_ble_eq_true rfl⟩ dX5_suits_83 ?_
  refine lv_if_ne (tgt := 112) hx hb dX5_suits_86 (by decide) (fun c => absurd c (by decide)) (fun _ => ?_)
  refine xgs S hB.z1 hS kw_3_228 rfl dX5_suits_89 ?_
  refine lv_iload_n hx hb dX5_suits_92 rfl (lv_at hl 1 rfl) ?_
  refine xti (v := 0) S hB.t1 hS (vin rfl) rfl dX5_suits_93 ?_
  refine lv_iload_n hx hb dX5_suits_94 rfl (lv_at hl 3 rfl) ?_
  refine xgs S hB.z2 hS kw_3_222 rfl dX5_suits_95 ?_
  refine lv_iload_n hx hb dX5_suits_98 rfl (lv_at hl 1 rfl) ?_
  refine xti (v := 0) S hB.t2 hS (vin rfl) rfl dX5_suits_99 ?_
  refine lv_iload hx hb dX5_suits_100 (lv_at hl 4 rfl) ?_
  refine rdS (As := [.int 0, .int 0, .int 0, .int 0]) S (c_X5_isSamePart_1 l D cI cZ cJ o u) ms_X5_isSamePart kw_6_50 ⟨rfl, rfl⟩ ⟨Nat.le_of_ble_eq_true rfl, Nat.le_of_ble_eq_true rfl⟩ hP hK hl.1 (Nat.le_of_ble_eq_true rfl) ⟨Nat.le_of_ble_eq_true rfl, Nat.le_of_ble_eq_true rfl⟩ dX5_suits_102 ?_
  refine lv_if_ne (tgt := 112) hx hb dX5_suits_105 (by decide) (fun c => absurd c (by decide)) (fun _ => ?_)
  refine lv_iconst (v := 1) hx hb dX5_suits_108 (by decide) ?_
  refine lv_goto (tgt := 113) hx hb dX5_suits_109 (by decide) ?_
  exact wEndZ S hr hlocks hP hD hS (Nat.le_of_ble_eq_true rfl) (Nat.le_of_ble_eq_true rfl) dX5_suits_113 rfl rfl

set_option maxHeartbeats 8000000 in
set_option maxRecDepth 100000 in
theorem c_X5_partA_3 (l : Launch) (D : va_G) (cI cZ cJ : ClassId) (o : Nat) (u : Nat → Nat) (ra ga : Nat → Nat) (sz : Nat) (x2 : Int32) (lo_x2 : 0 ≤ x2) (hi_x2 : x2 ≤ 15) : Met l yX5_partA (uW yX5_partA cX5_partA 2 (some .int)) ({ frames := 0, cells := 0, slots := 0, locals := 0 }) (va_Pc [.ref (u 12), .int 0] (aS ra ga D (tyL cI cZ cJ) ((((((((xW o u cI cZ cJ).set 13 ((u 12), .inr (5, ([.int 0, .ref (u 13), .ref (u 14), .ref (u 15), .ref (u 16), .ref (u 17), .ref (u 18)].set 0 (.int 1))))).set 14 ((u 13), .inl (cI, 110, .inl (upd (fun _ => 0) (0 : Int32).toNatClampNeg 10)))).set 15 ((u 14), .inl (cI, 110, .inl (upd (fun _ => 0) (0 : Int32).toNatClampNeg x2)))).set 16 ((u 15), .inl (cI, 110, .inl (upd (fun _ => 0) (0 : Int32).toNatClampNeg 0)))).set 17 ((u 16), .inl (cI, 110, .inl (upd (fun _ => 0) (0 : Int32).toNatClampNeg 0)))).set 18 ((u 17), .inl (cI, 110, .inl (upd (fun _ => 0) (0 : Int32).toNatClampNeg (-1))))).set 19 ((u 18), .inl (cI, 110, .inl (upd (fun _ => 0) (0 : Int32).toNatClampNeg (-1))))) sz)) (wQi ((-1)) D ((((((((xW o u cI cZ cJ).set 13 ((u 12), .inr (5, ([.int 0, .ref (u 13), .ref (u 14), .ref (u 15), .ref (u 16), .ref (u 17), .ref (u 18)].set 0 (.int 1))))).set 14 ((u 13), .inl (cI, 110, .inl (upd (fun _ => 0) (0 : Int32).toNatClampNeg 10)))).set 15 ((u 14), .inl (cI, 110, .inl (upd (fun _ => 0) (0 : Int32).toNatClampNeg x2)))).set 16 ((u 15), .inl (cI, 110, .inl (upd (fun _ => 0) (0 : Int32).toNatClampNeg 0)))).set 17 ((u 16), .inl (cI, 110, .inl (upd (fun _ => 0) (0 : Int32).toNatClampNeg 0)))).set 18 ((u 17), .inl (cI, 110, .inl (upd (fun _ => 0) (0 : Int32).toNatClampNeg (-1))))).set 19 ((u 18), .inl (cI, 110, .inl (upd (fun _ => 0) (0 : Int32).toNatClampNeg (-1))))) (va_A ((((((((xW o u cI cZ cJ).set 13 ((u 12), .inr (5, ([.int 0, .ref (u 13), .ref (u 14), .ref (u 15), .ref (u 16), .ref (u 17), .ref (u 18)].set 0 (.int 1))))).set 14 ((u 13), .inl (cI, 110, .inl (upd (fun _ => 0) (0 : Int32).toNatClampNeg 10)))).set 15 ((u 14), .inl (cI, 110, .inl (upd (fun _ => 0) (0 : Int32).toNatClampNeg x2)))).set 16 ((u 15), .inl (cI, 110, .inl (upd (fun _ => 0) (0 : Int32).toNatClampNeg 0)))).set 17 ((u 16), .inl (cI, 110, .inl (upd (fun _ => 0) (0 : Int32).toNatClampNeg 0)))).set 18 ((u 17), .inl (cI, 110, .inl (upd (fun _ => 0) (0 : Int32).toNatClampNeg (-1))))).set 19 ((u 18), .inl (cI, 110, .inl (upd (fun _ => 0) (0 : Int32).toNatClampNeg (-1))))) sz)) 0 0 (va_A ((((((((xW o u cI cZ cJ).set 13 ((u 12), .inr (5, ([.int 0, .ref (u 13), .ref (u 14), .ref (u 15), .ref (u 16), .ref (u 17), .ref (u 18)].set 0 (.int 1))))).set 14 ((u 13), .inl (cI, 110, .inl (upd (fun _ => 0) (0 : Int32).toNatClampNeg 10)))).set 15 ((u 14), .inl (cI, 110, .inl (upd (fun _ => 0) (0 : Int32).toNatClampNeg x2)))).set 16 ((u 15), .inl (cI, 110, .inl (upd (fun _ => 0) (0 : Int32).toNatClampNeg 0)))).set 17 ((u 16), .inl (cI, 110, .inl (upd (fun _ => 0) (0 : Int32).toNatClampNeg 0)))).set 18 ((u 17), .inl (cI, 110, .inl (upd (fun _ => 0) (0 : Int32).toNatClampNeg (-1))))).set 19 ((u 18), .inl (cI, 110, .inl (upd (fun _ => 0) (0 : Int32).toNatClampNeg (-1))))) sz) := by
  refine aStart (lv := [(0, .ref (u 12)), (1, .int 0)]) (Qc := fun A => wQi ((-1)) D ((((((((xW o u cI cZ cJ).set 13 ((u 12), .inr (5, ([.int 0, .ref (u 13), .ref (u 14), .ref (u 15), .ref (u 16), .ref (u 17), .ref (u 18)].set 0 (.int 1))))).set 14 ((u 13), .inl (cI, 110, .inl (upd (fun _ => 0) (0 : Int32).toNatClampNeg 10)))).set 15 ((u 14), .inl (cI, 110, .inl (upd (fun _ => 0) (0 : Int32).toNatClampNeg x2)))).set 16 ((u 15), .inl (cI, 110, .inl (upd (fun _ => 0) (0 : Int32).toNatClampNeg 0)))).set 17 ((u 16), .inl (cI, 110, .inl (upd (fun _ => 0) (0 : Int32).toNatClampNeg 0)))).set 18 ((u 17), .inl (cI, 110, .inl (upd (fun _ => 0) (0 : Int32).toNatClampNeg (-1))))).set 19 ((u 18), .inl (cI, 110, .inl (upd (fun _ => 0) (0 : Int32).toNatClampNeg (-1))))) A) (by decide) (Nat.le_of_ble_eq_true rfl) rfl ?_
  intro p e s m args below meth c ls A H S hr hlocks hnm hl hK hP hD hS hA hB
  have hx := S.1
  have hb := S.2.1
  refine xgs S hB.z0 hS kw_3_91 rfl dX5_partA_0 ?_
  refine lv_aload_n hx hb dX5_partA_3 rfl (lv_at hl 0 rfl) ?_
  refine xg (ci := 5) S inX5 rfl hK hP (q0 := 13) rfl 1 (by decide) rfl kw_1_111 rfl dX5_partA_4 ?_
  refine lv_iload_n hx hb dX5_partA_7 rfl (lv_at hl 1 rfl) ?_
  refine xiald (t0 := 0) (v := 10) S hK hP (q0 := 14) rfl rfl (vin rfl) rfl dX5_partA_8 ?_
  refine xti (v := 2) S hB.t0 hS (vin rfl) rfl dX5_partA_9 ?_
  refine lv_iconst (v := 4) hx hb dX5_partA_10 (by decide) ?_
  refine lv_icmp_lt (tgt := 23) hx hb dX5_partA_11 (by decide) (fun _ => ?_) (fun c => absurd c (by decide))
  refine lv_iconst (v := (-1)) hx hb dX5_partA_23 (by decide) ?_
  exact wEnd S hr hlocks hP hD hS (Nat.le_of_ble_eq_true rfl) (Nat.le_of_ble_eq_true rfl) dX5_partA_24 rfl

set_option maxHeartbeats 8000000 in
set_option maxRecDepth 100000 in
theorem c_X5_claim_3 (l : Launch) (D : va_G) (cI cZ cJ : ClassId) (o : Nat) (u : Nat → Nat) (ra ga : Nat → Nat) (sz : Nat) (x2 : Int32) (lo_x2 : 0 ≤ x2) (hi_x2 : x2 ≤ 15) : Met l yX5_claim (uW yX5_claim cX5_claim 3 none) ({ frames := 0, cells := 0, slots := 0, locals := 0 }) (va_Pc [.ref (u 12), .int (-1), .int 0] (aS ra ga D (tyL cI cZ cJ) ((((((((xW o u cI cZ cJ).set 13 ((u 12), .inr (5, ([.int 0, .ref (u 13), .ref (u 14), .ref (u 15), .ref (u 16), .ref (u 17), .ref (u 18)].set 0 (.int 1))))).set 14 ((u 13), .inl (cI, 110, .inl (upd (fun _ => 0) (0 : Int32).toNatClampNeg 10)))).set 15 ((u 14), .inl (cI, 110, .inl (upd (fun _ => 0) (0 : Int32).toNatClampNeg x2)))).set 16 ((u 15), .inl (cI, 110, .inl (upd (fun _ => 0) (0 : Int32).toNatClampNeg 0)))).set 17 ((u 16), .inl (cI, 110, .inl (upd (fun _ => 0) (0 : Int32).toNatClampNeg 0)))).set 18 ((u 17), .inl (cI, 110, .inl (upd (fun _ => 0) (0 : Int32).toNatClampNeg (-1))))).set 19 ((u 18), .inl (cI, 110, .inl (upd (fun _ => 0) (0 : Int32).toNatClampNeg (-1))))) sz)) (wQv D ((((((((xW o u cI cZ cJ).set 13 ((u 12), .inr (5, ([.int 0, .ref (u 13), .ref (u 14), .ref (u 15), .ref (u 16), .ref (u 17), .ref (u 18)].set 0 (.int 1))))).set 14 ((u 13), .inl (cI, 110, .inl (upd (fun _ => 0) (0 : Int32).toNatClampNeg 10)))).set 15 ((u 14), .inl (cI, 110, .inl (upd (fun _ => 0) (0 : Int32).toNatClampNeg x2)))).set 16 ((u 15), .inl (cI, 110, .inl (upd (fun _ => 0) (0 : Int32).toNatClampNeg 0)))).set 17 ((u 16), .inl (cI, 110, .inl (upd (fun _ => 0) (0 : Int32).toNatClampNeg 0)))).set 18 ((u 17), .inl (cI, 110, .inl (upd (fun _ => 0) (0 : Int32).toNatClampNeg (-1))))).set 19 ((u 18), .inl (cI, 110, .inl (upd (fun _ => 0) (0 : Int32).toNatClampNeg (-1))))) (va_A ((((((((xW o u cI cZ cJ).set 13 ((u 12), .inr (5, ([.int 0, .ref (u 13), .ref (u 14), .ref (u 15), .ref (u 16), .ref (u 17), .ref (u 18)].set 0 (.int 1))))).set 14 ((u 13), .inl (cI, 110, .inl (upd (fun _ => 0) (0 : Int32).toNatClampNeg 10)))).set 15 ((u 14), .inl (cI, 110, .inl (upd (fun _ => 0) (0 : Int32).toNatClampNeg x2)))).set 16 ((u 15), .inl (cI, 110, .inl (upd (fun _ => 0) (0 : Int32).toNatClampNeg 0)))).set 17 ((u 16), .inl (cI, 110, .inl (upd (fun _ => 0) (0 : Int32).toNatClampNeg 0)))).set 18 ((u 17), .inl (cI, 110, .inl (upd (fun _ => 0) (0 : Int32).toNatClampNeg (-1))))).set 19 ((u 18), .inl (cI, 110, .inl (upd (fun _ => 0) (0 : Int32).toNatClampNeg (-1))))) sz)) 0 0 (va_A ((((((((xW o u cI cZ cJ).set 13 ((u 12), .inr (5, ([.int 0, .ref (u 13), .ref (u 14), .ref (u 15), .ref (u 16), .ref (u 17), .ref (u 18)].set 0 (.int 1))))).set 14 ((u 13), .inl (cI, 110, .inl (upd (fun _ => 0) (0 : Int32).toNatClampNeg 10)))).set 15 ((u 14), .inl (cI, 110, .inl (upd (fun _ => 0) (0 : Int32).toNatClampNeg x2)))).set 16 ((u 15), .inl (cI, 110, .inl (upd (fun _ => 0) (0 : Int32).toNatClampNeg 0)))).set 17 ((u 16), .inl (cI, 110, .inl (upd (fun _ => 0) (0 : Int32).toNatClampNeg 0)))).set 18 ((u 17), .inl (cI, 110, .inl (upd (fun _ => 0) (0 : Int32).toNatClampNeg (-1))))).set 19 ((u 18), .inl (cI, 110, .inl (upd (fun _ => 0) (0 : Int32).toNatClampNeg (-1))))) sz) := by
  refine aStart (lv := [(0, .ref (u 12)), (1, .int (-1)), (2, .int 0)]) (Qc := fun A => wQv D ((((((((xW o u cI cZ cJ).set 13 ((u 12), .inr (5, ([.int 0, .ref (u 13), .ref (u 14), .ref (u 15), .ref (u 16), .ref (u 17), .ref (u 18)].set 0 (.int 1))))).set 14 ((u 13), .inl (cI, 110, .inl (upd (fun _ => 0) (0 : Int32).toNatClampNeg 10)))).set 15 ((u 14), .inl (cI, 110, .inl (upd (fun _ => 0) (0 : Int32).toNatClampNeg x2)))).set 16 ((u 15), .inl (cI, 110, .inl (upd (fun _ => 0) (0 : Int32).toNatClampNeg 0)))).set 17 ((u 16), .inl (cI, 110, .inl (upd (fun _ => 0) (0 : Int32).toNatClampNeg 0)))).set 18 ((u 17), .inl (cI, 110, .inl (upd (fun _ => 0) (0 : Int32).toNatClampNeg (-1))))).set 19 ((u 18), .inl (cI, 110, .inl (upd (fun _ => 0) (0 : Int32).toNatClampNeg (-1))))) A) (by decide) (Nat.le_of_ble_eq_true rfl) rfl ?_
  intro p e s m args below meth c ls A H S hr hlocks hnm hl hK hP hD hS hA hB
  have hx := S.1
  have hb := S.2.1
  refine lv_iload_n hx hb dX5_claim_0 rfl (lv_at hl 1 rfl) ?_
  refine lv_iconst (v := (-1)) hx hb dX5_claim_1 (by decide) ?_
  refine lv_icmp_eq (tgt := 12) hx hb dX5_claim_2 (by decide) (fun _ => ?_) (fun c => absurd c (by decide))
  exact wEndv S hr hlocks hP hD hS (Nat.le_of_ble_eq_true rfl) (Nat.le_of_ble_eq_true rfl) dX5_claim_12

set_option maxHeartbeats 8000000 in
set_option maxRecDepth 100000 in
theorem c_X5_partB_3 (l : Launch) (D : va_G) (cI cZ cJ : ClassId) (o : Nat) (u : Nat → Nat) (ra ga : Nat → Nat) (sz : Nat) (x2 : Int32) (lo_x2 : 0 ≤ x2) (hi_x2 : x2 ≤ 15) : Met l yX5_partB (uW yX5_partB cX5_partB 2 (some .int)) ({ frames := 0, cells := 0, slots := 0, locals := 0 }) (va_Pc [.ref (u 12), .int 0] (aS ra ga D (tyL cI cZ cJ) ((((((((xW o u cI cZ cJ).set 13 ((u 12), .inr (5, ([.int 0, .ref (u 13), .ref (u 14), .ref (u 15), .ref (u 16), .ref (u 17), .ref (u 18)].set 0 (.int 1))))).set 14 ((u 13), .inl (cI, 110, .inl (upd (fun _ => 0) (0 : Int32).toNatClampNeg 10)))).set 15 ((u 14), .inl (cI, 110, .inl (upd (fun _ => 0) (0 : Int32).toNatClampNeg x2)))).set 16 ((u 15), .inl (cI, 110, .inl (upd (fun _ => 0) (0 : Int32).toNatClampNeg 0)))).set 17 ((u 16), .inl (cI, 110, .inl (upd (fun _ => 0) (0 : Int32).toNatClampNeg 0)))).set 18 ((u 17), .inl (cI, 110, .inl (upd (fun _ => 0) (0 : Int32).toNatClampNeg (-1))))).set 19 ((u 18), .inl (cI, 110, .inl (upd (fun _ => 0) (0 : Int32).toNatClampNeg (-1))))) sz)) (wQi ((-1)) D ((((((((xW o u cI cZ cJ).set 13 ((u 12), .inr (5, ([.int 0, .ref (u 13), .ref (u 14), .ref (u 15), .ref (u 16), .ref (u 17), .ref (u 18)].set 0 (.int 1))))).set 14 ((u 13), .inl (cI, 110, .inl (upd (fun _ => 0) (0 : Int32).toNatClampNeg 10)))).set 15 ((u 14), .inl (cI, 110, .inl (upd (fun _ => 0) (0 : Int32).toNatClampNeg x2)))).set 16 ((u 15), .inl (cI, 110, .inl (upd (fun _ => 0) (0 : Int32).toNatClampNeg 0)))).set 17 ((u 16), .inl (cI, 110, .inl (upd (fun _ => 0) (0 : Int32).toNatClampNeg 0)))).set 18 ((u 17), .inl (cI, 110, .inl (upd (fun _ => 0) (0 : Int32).toNatClampNeg (-1))))).set 19 ((u 18), .inl (cI, 110, .inl (upd (fun _ => 0) (0 : Int32).toNatClampNeg (-1))))) (va_A ((((((((xW o u cI cZ cJ).set 13 ((u 12), .inr (5, ([.int 0, .ref (u 13), .ref (u 14), .ref (u 15), .ref (u 16), .ref (u 17), .ref (u 18)].set 0 (.int 1))))).set 14 ((u 13), .inl (cI, 110, .inl (upd (fun _ => 0) (0 : Int32).toNatClampNeg 10)))).set 15 ((u 14), .inl (cI, 110, .inl (upd (fun _ => 0) (0 : Int32).toNatClampNeg x2)))).set 16 ((u 15), .inl (cI, 110, .inl (upd (fun _ => 0) (0 : Int32).toNatClampNeg 0)))).set 17 ((u 16), .inl (cI, 110, .inl (upd (fun _ => 0) (0 : Int32).toNatClampNeg 0)))).set 18 ((u 17), .inl (cI, 110, .inl (upd (fun _ => 0) (0 : Int32).toNatClampNeg (-1))))).set 19 ((u 18), .inl (cI, 110, .inl (upd (fun _ => 0) (0 : Int32).toNatClampNeg (-1))))) sz)) 0 0 (va_A ((((((((xW o u cI cZ cJ).set 13 ((u 12), .inr (5, ([.int 0, .ref (u 13), .ref (u 14), .ref (u 15), .ref (u 16), .ref (u 17), .ref (u 18)].set 0 (.int 1))))).set 14 ((u 13), .inl (cI, 110, .inl (upd (fun _ => 0) (0 : Int32).toNatClampNeg 10)))).set 15 ((u 14), .inl (cI, 110, .inl (upd (fun _ => 0) (0 : Int32).toNatClampNeg x2)))).set 16 ((u 15), .inl (cI, 110, .inl (upd (fun _ => 0) (0 : Int32).toNatClampNeg 0)))).set 17 ((u 16), .inl (cI, 110, .inl (upd (fun _ => 0) (0 : Int32).toNatClampNeg 0)))).set 18 ((u 17), .inl (cI, 110, .inl (upd (fun _ => 0) (0 : Int32).toNatClampNeg (-1))))).set 19 ((u 18), .inl (cI, 110, .inl (upd (fun _ => 0) (0 : Int32).toNatClampNeg (-1))))) sz) := by
  refine aStart (lv := [(0, .ref (u 12)), (1, .int 0)]) (Qc := fun A => wQi ((-1)) D ((((((((xW o u cI cZ cJ).set 13 ((u 12), .inr (5, ([.int 0, .ref (u 13), .ref (u 14), .ref (u 15), .ref (u 16), .ref (u 17), .ref (u 18)].set 0 (.int 1))))).set 14 ((u 13), .inl (cI, 110, .inl (upd (fun _ => 0) (0 : Int32).toNatClampNeg 10)))).set 15 ((u 14), .inl (cI, 110, .inl (upd (fun _ => 0) (0 : Int32).toNatClampNeg x2)))).set 16 ((u 15), .inl (cI, 110, .inl (upd (fun _ => 0) (0 : Int32).toNatClampNeg 0)))).set 17 ((u 16), .inl (cI, 110, .inl (upd (fun _ => 0) (0 : Int32).toNatClampNeg 0)))).set 18 ((u 17), .inl (cI, 110, .inl (upd (fun _ => 0) (0 : Int32).toNatClampNeg (-1))))).set 19 ((u 18), .inl (cI, 110, .inl (upd (fun _ => 0) (0 : Int32).toNatClampNeg (-1))))) A) (by decide) (Nat.le_of_ble_eq_true rfl) rfl ?_
  intro p e s m args below meth c ls A H S hr hlocks hnm hl hK hP hD hS hA hB
  have hx := S.1
  have hb := S.2.1
  refine xgs S hB.z1 hS kw_3_228 rfl dX5_partB_0 ?_
  refine lv_aload_n hx hb dX5_partB_3 rfl (lv_at hl 0 rfl) ?_
  refine xg (ci := 5) S inX5 rfl hK hP (q0 := 13) rfl 1 (by decide) rfl kw_1_111 rfl dX5_partB_4 ?_
  refine lv_iload_n hx hb dX5_partB_7 rfl (lv_at hl 1 rfl) ?_
  refine xiald (t0 := 0) (v := 10) S hK hP (q0 := 14) rfl rfl (vin rfl) rfl dX5_partB_8 ?_
  refine xti (v := 0) S hB.t1 hS (vin rfl) rfl dX5_partB_9 ?_
  refine lv_iconst (v := 4) hx hb dX5_partB_10 (by decide) ?_
  refine lv_icmp_lt (tgt := 23) hx hb dX5_partB_11 (by decide) (fun _ => ?_) (fun c => absurd c (by decide))
  refine lv_iconst (v := (-1)) hx hb dX5_partB_23 (by decide) ?_
  exact wEnd S hr hlocks hP hD hS (Nat.le_of_ble_eq_true rfl) (Nat.le_of_ble_eq_true rfl) dX5_partB_24 rfl

set_option maxHeartbeats 8000000 in
set_option maxRecDepth 100000 in
theorem c_X5_partC_3 (l : Launch) (D : va_G) (cI cZ cJ : ClassId) (o : Nat) (u : Nat → Nat) (ra ga : Nat → Nat) (sz : Nat) (x2 : Int32) (lo_x2 : 0 ≤ x2) (hi_x2 : x2 ≤ 15) : Met l yX5_partC (uW yX5_partC cX5_partC 2 (some .int)) ({ frames := 0, cells := 0, slots := 0, locals := 0 }) (va_Pc [.ref (u 12), .int 0] (aS ra ga D (tyL cI cZ cJ) ((((((((xW o u cI cZ cJ).set 13 ((u 12), .inr (5, ([.int 0, .ref (u 13), .ref (u 14), .ref (u 15), .ref (u 16), .ref (u 17), .ref (u 18)].set 0 (.int 1))))).set 14 ((u 13), .inl (cI, 110, .inl (upd (fun _ => 0) (0 : Int32).toNatClampNeg 10)))).set 15 ((u 14), .inl (cI, 110, .inl (upd (fun _ => 0) (0 : Int32).toNatClampNeg x2)))).set 16 ((u 15), .inl (cI, 110, .inl (upd (fun _ => 0) (0 : Int32).toNatClampNeg 0)))).set 17 ((u 16), .inl (cI, 110, .inl (upd (fun _ => 0) (0 : Int32).toNatClampNeg 0)))).set 18 ((u 17), .inl (cI, 110, .inl (upd (fun _ => 0) (0 : Int32).toNatClampNeg (-1))))).set 19 ((u 18), .inl (cI, 110, .inl (upd (fun _ => 0) (0 : Int32).toNatClampNeg (-1))))) sz)) (wQi ((-1)) D ((((((((xW o u cI cZ cJ).set 13 ((u 12), .inr (5, ([.int 0, .ref (u 13), .ref (u 14), .ref (u 15), .ref (u 16), .ref (u 17), .ref (u 18)].set 0 (.int 1))))).set 14 ((u 13), .inl (cI, 110, .inl (upd (fun _ => 0) (0 : Int32).toNatClampNeg 10)))).set 15 ((u 14), .inl (cI, 110, .inl (upd (fun _ => 0) (0 : Int32).toNatClampNeg x2)))).set 16 ((u 15), .inl (cI, 110, .inl (upd (fun _ => 0) (0 : Int32).toNatClampNeg 0)))).set 17 ((u 16), .inl (cI, 110, .inl (upd (fun _ => 0) (0 : Int32).toNatClampNeg 0)))).set 18 ((u 17), .inl (cI, 110, .inl (upd (fun _ => 0) (0 : Int32).toNatClampNeg (-1))))).set 19 ((u 18), .inl (cI, 110, .inl (upd (fun _ => 0) (0 : Int32).toNatClampNeg (-1))))) (va_A ((((((((xW o u cI cZ cJ).set 13 ((u 12), .inr (5, ([.int 0, .ref (u 13), .ref (u 14), .ref (u 15), .ref (u 16), .ref (u 17), .ref (u 18)].set 0 (.int 1))))).set 14 ((u 13), .inl (cI, 110, .inl (upd (fun _ => 0) (0 : Int32).toNatClampNeg 10)))).set 15 ((u 14), .inl (cI, 110, .inl (upd (fun _ => 0) (0 : Int32).toNatClampNeg x2)))).set 16 ((u 15), .inl (cI, 110, .inl (upd (fun _ => 0) (0 : Int32).toNatClampNeg 0)))).set 17 ((u 16), .inl (cI, 110, .inl (upd (fun _ => 0) (0 : Int32).toNatClampNeg 0)))).set 18 ((u 17), .inl (cI, 110, .inl (upd (fun _ => 0) (0 : Int32).toNatClampNeg (-1))))).set 19 ((u 18), .inl (cI, 110, .inl (upd (fun _ => 0) (0 : Int32).toNatClampNeg (-1))))) sz)) 0 0 (va_A ((((((((xW o u cI cZ cJ).set 13 ((u 12), .inr (5, ([.int 0, .ref (u 13), .ref (u 14), .ref (u 15), .ref (u 16), .ref (u 17), .ref (u 18)].set 0 (.int 1))))).set 14 ((u 13), .inl (cI, 110, .inl (upd (fun _ => 0) (0 : Int32).toNatClampNeg 10)))).set 15 ((u 14), .inl (cI, 110, .inl (upd (fun _ => 0) (0 : Int32).toNatClampNeg x2)))).set 16 ((u 15), .inl (cI, 110, .inl (upd (fun _ => 0) (0 : Int32).toNatClampNeg 0)))).set 17 ((u 16), .inl (cI, 110, .inl (upd (fun _ => 0) (0 : Int32).toNatClampNeg 0)))).set 18 ((u 17), .inl (cI, 110, .inl (upd (fun _ => 0) (0 : Int32).toNatClampNeg (-1))))).set 19 ((u 18), .inl (cI, 110, .inl (upd (fun _ => 0) (0 : Int32).toNatClampNeg (-1))))) sz) := by
  refine aStart (lv := [(0, .ref (u 12)), (1, .int 0)]) (Qc := fun A => wQi ((-1)) D ((((((((xW o u cI cZ cJ).set 13 ((u 12), .inr (5, ([.int 0, .ref (u 13), .ref (u 14), .ref (u 15), .ref (u 16), .ref (u 17), .ref (u 18)].set 0 (.int 1))))).set 14 ((u 13), .inl (cI, 110, .inl (upd (fun _ => 0) (0 : Int32).toNatClampNeg 10)))).set 15 ((u 14), .inl (cI, 110, .inl (upd (fun _ => 0) (0 : Int32).toNatClampNeg x2)))).set 16 ((u 15), .inl (cI, 110, .inl (upd (fun _ => 0) (0 : Int32).toNatClampNeg 0)))).set 17 ((u 16), .inl (cI, 110, .inl (upd (fun _ => 0) (0 : Int32).toNatClampNeg 0)))).set 18 ((u 17), .inl (cI, 110, .inl (upd (fun _ => 0) (0 : Int32).toNatClampNeg (-1))))).set 19 ((u 18), .inl (cI, 110, .inl (upd (fun _ => 0) (0 : Int32).toNatClampNeg (-1))))) A) (by decide) (Nat.le_of_ble_eq_true rfl) rfl ?_
  intro p e s m args below meth c ls A H S hr hlocks hnm hl hK hP hD hS hA hB
  have hx := S.1
  have hb := S.2.1
  refine xgs S hB.z2 hS kw_3_222 rfl dX5_partC_0 ?_
  refine lv_aload_n hx hb dX5_partC_3 rfl (lv_at hl 0 rfl) ?_
  refine xg (ci := 5) S inX5 rfl hK hP (q0 := 13) rfl 1 (by decide) rfl kw_1_111 rfl dX5_partC_4 ?_
  refine lv_iload_n hx hb dX5_partC_7 rfl (lv_at hl 1 rfl) ?_
  refine xiald (t0 := 0) (v := 10) S hK hP (q0 := 14) rfl rfl (vin rfl) rfl dX5_partC_8 ?_
  refine xti (v := 0) S hB.t2 hS (vin rfl) rfl dX5_partC_9 ?_
  refine lv_iconst (v := 4) hx hb dX5_partC_10 (by decide) ?_
  refine lv_icmp_lt (tgt := 23) hx hb dX5_partC_11 (by decide) (fun _ => ?_) (fun c => absurd c (by decide))
  refine lv_iconst (v := (-1)) hx hb dX5_partC_23 (by decide) ?_
  exact wEnd S hr hlocks hP hD hS (Nat.le_of_ble_eq_true rfl) (Nat.le_of_ble_eq_true rfl) dX5_partC_24 rfl

set_option maxHeartbeats 8000000 in
set_option maxRecDepth 100000 in
theorem c_X5_add_3 (l : Launch) (D : va_G) (cI cZ cJ : ClassId) (o : Nat) (u : Nat → Nat) (ra ga : Nat → Nat) (sz : Nat) (x2 : Int32) (lo_x2 : 0 ≤ x2) (hi_x2 : x2 ≤ 15) : Met l yX5_add (uW yX5_add cX5_add 6 (some .int)) ({ frames := 1, cells := 0, slots := 0, locals := 22 }) (va_Pc [.ref (u 12), .int 10, .int x2, .int 0, .int 0] (aS ra ga D (tyL cI cZ cJ) (xW o u cI cZ cJ) sz)) (wQi (0) D ((((((((xW o u cI cZ cJ).set 13 ((u 12), .inr (5, ([.int 0, .ref (u 13), .ref (u 14), .ref (u 15), .ref (u 16), .ref (u 17), .ref (u 18)].set 0 (.int 1))))).set 14 ((u 13), .inl (cI, 110, .inl (upd (fun _ => 0) (0 : Int32).toNatClampNeg 10)))).set 15 ((u 14), .inl (cI, 110, .inl (upd (fun _ => 0) (0 : Int32).toNatClampNeg x2)))).set 16 ((u 15), .inl (cI, 110, .inl (upd (fun _ => 0) (0 : Int32).toNatClampNeg 0)))).set 17 ((u 16), .inl (cI, 110, .inl (upd (fun _ => 0) (0 : Int32).toNatClampNeg 0)))).set 18 ((u 17), .inl (cI, 110, .inl (upd (fun _ => 0) (0 : Int32).toNatClampNeg (-1))))).set 19 ((u 18), .inl (cI, 110, .inl (upd (fun _ => 0) (0 : Int32).toNatClampNeg (-1))))) (va_A (xW o u cI cZ cJ) sz)) 0 0 (va_A (xW o u cI cZ cJ) sz) := by
  refine aStart (lv := [(0, .ref (u 12)), (1, .int 10), (2, .int x2), (3, .int 0), (4, .int 0)]) (Qc := fun A => wQi (0) D ((((((((xW o u cI cZ cJ).set 13 ((u 12), .inr (5, ([.int 0, .ref (u 13), .ref (u 14), .ref (u 15), .ref (u 16), .ref (u 17), .ref (u 18)].set 0 (.int 1))))).set 14 ((u 13), .inl (cI, 110, .inl (upd (fun _ => 0) (0 : Int32).toNatClampNeg 10)))).set 15 ((u 14), .inl (cI, 110, .inl (upd (fun _ => 0) (0 : Int32).toNatClampNeg x2)))).set 16 ((u 15), .inl (cI, 110, .inl (upd (fun _ => 0) (0 : Int32).toNatClampNeg 0)))).set 17 ((u 16), .inl (cI, 110, .inl (upd (fun _ => 0) (0 : Int32).toNatClampNeg 0)))).set 18 ((u 17), .inl (cI, 110, .inl (upd (fun _ => 0) (0 : Int32).toNatClampNeg (-1))))).set 19 ((u 18), .inl (cI, 110, .inl (upd (fun _ => 0) (0 : Int32).toNatClampNeg (-1))))) A) (by decide) (Nat.le_of_ble_eq_true rfl) rfl ?_
  intro p e s m args below meth c ls A H S hr hlocks hnm hl hK hP hD hS hA hB
  have hx := S.1
  have hb := S.2.1
  refine lv_aload_n hx hb dX5_add_0 rfl (lv_at hl 0 rfl) ?_
  refine xg (ci := 5) S inX5 rfl hK hP xW_13 0 (by decide) rfl kw_1_107 rfl dX5_add_1 ?_
  refine lv_istore (lv' := [(5, .int 0), (0, .ref (u 12)), (1, .int 10), (2, .int x2), (3, .int 0), (4, .int 0)]) hx hb dX5_add_4 hl (by decide) rfl (fun ls hl => ?_)
  refine lv_aload_n hx hb dX5_add_6 rfl (lv_at hl 1 rfl) ?_
  refine lv_dup hx hb dX5_add_7 rfl ?_
  refine xg (ci := 5) S inX5 rfl hK hP xW_13 0 (by decide) rfl kw_1_107 rfl dX5_add_8 ?_
  refine lv_iconst (v := 1) hx hb dX5_add_11 (by decide) ?_
  refine xiadd (v := 1) S dX5_add_12 (by decide) ?_
  refine xp (ci := 5) (v := .int 1) S inX5 tyX5 tyX5_ok nmX5 rfl hK hP hD hS xW_13 0 (by decide) kw_1_107 rfl rfl rfl rfl (Nat.le_of_ble_eq_true rfl) dX5_add_13 (fun H locs hP hD hS => ?_)
  have hP : va_P D vwCl ((xW o u cI cZ cJ).set 13 ((u 12), .inr (5, ([.int 0, .ref (u 13), .ref (u 14), .ref (u 15), .ref (u 16), .ref (u 17), .ref (u 18)].set 0 (.int 1))))) H := hP
  have hD : va_D A ((xW o u cI cZ cJ).set 13 ((u 12), .inr (5, ([.int 0, .ref (u 13), .ref (u 14), .ref (u 15), .ref (u 16), .ref (u 17), .ref (u 18)].set 0 (.int 1))))) := hD
  refine lv_aload_n hx hb dX5_add_16 rfl (lv_at hl 1 rfl) ?_
  refine xg (ci := 5) S inX5 rfl hK hP (q0 := 13) rfl 1 (by decide) rfl kw_1_111 rfl dX5_add_17 ?_
  refine lv_iload hx hb dX5_add_20 (lv_at hl 0 rfl) ?_
  refine lv_iload_n hx hb dX5_add_22 rfl (lv_at hl 2 rfl) ?_
  refine xiast (t0 := 0) S hK hP hD hS (q0 := 14) rfl rfl (vin rfl) dX5_add_23 (fun H locs hP hD hS => ?_)
  have hP : va_P D vwCl (((xW o u cI cZ cJ).set 13 ((u 12), .inr (5, ([.int 0, .ref (u 13), .ref (u 14), .ref (u 15), .ref (u 16), .ref (u 17), .ref (u 18)].set 0 (.int 1))))).set 14 ((u 13), .inl (cI, 110, .inl (upd (fun _ => 0) (0 : Int32).toNatClampNeg 10)))) H := hP
  have hD : va_D A (((xW o u cI cZ cJ).set 13 ((u 12), .inr (5, ([.int 0, .ref (u 13), .ref (u 14), .ref (u 15), .ref (u 16), .ref (u 17), .ref (u 18)].set 0 (.int 1))))).set 14 ((u 13), .inl (cI, 110, .inl (upd (fun _ => 0) (0 : Int32).toNatClampNeg 10)))) := hD
  refine lv_aload_n hx hb dX5_add_24 rfl (lv_at hl 1 rfl) ?_
  refine xg (ci := 5) S inX5 rfl hK hP (q0 := 13) rfl 2 (by decide) rfl kw_1_116 rfl dX5_add_25 ?_
  refine lv_iload hx hb dX5_add_28 (lv_at hl 0 rfl) ?_
  refine lv_iload_n hx hb dX5_add_30 rfl (lv_at hl 3 rfl) ?_
  refine xiast (t0 := 0) S hK hP hD hS (q0 := 15) rfl rfl (vin rfl) dX5_add_31 (fun H locs hP hD hS => ?_)
  have hP : va_P D vwCl ((((xW o u cI cZ cJ).set 13 ((u 12), .inr (5, ([.int 0, .ref (u 13), .ref (u 14), .ref (u 15), .ref (u 16), .ref (u 17), .ref (u 18)].set 0 (.int 1))))).set 14 ((u 13), .inl (cI, 110, .inl (upd (fun _ => 0) (0 : Int32).toNatClampNeg 10)))).set 15 ((u 14), .inl (cI, 110, .inl (upd (fun _ => 0) (0 : Int32).toNatClampNeg x2)))) H := hP
  have hD : va_D A ((((xW o u cI cZ cJ).set 13 ((u 12), .inr (5, ([.int 0, .ref (u 13), .ref (u 14), .ref (u 15), .ref (u 16), .ref (u 17), .ref (u 18)].set 0 (.int 1))))).set 14 ((u 13), .inl (cI, 110, .inl (upd (fun _ => 0) (0 : Int32).toNatClampNeg 10)))).set 15 ((u 14), .inl (cI, 110, .inl (upd (fun _ => 0) (0 : Int32).toNatClampNeg x2)))) := hD
  refine lv_aload_n hx hb dX5_add_32 rfl (lv_at hl 1 rfl) ?_
  refine xg (ci := 5) S inX5 rfl hK hP (q0 := 13) rfl 3 (by decide) rfl kw_1_120 rfl dX5_add_33 ?_
  refine lv_iload hx hb dX5_add_36 (lv_at hl 0 rfl) ?_
  refine lv_iload_n hx hb dX5_add_38 rfl (lv_at hl 4 rfl) ?_
  refine xiast (t0 := 0) S hK hP hD hS (q0 := 16) rfl rfl (vin rfl) dX5_add_39 (fun H locs hP hD hS => ?_)
  have hP : va_P D vwCl (((((xW o u cI cZ cJ).set 13 ((u 12), .inr (5, ([.int 0, .ref (u 13), .ref (u 14), .ref (u 15), .ref (u 16), .ref (u 17), .ref (u 18)].set 0 (.int 1))))).set 14 ((u 13), .inl (cI, 110, .inl (upd (fun _ => 0) (0 : Int32).toNatClampNeg 10)))).set 15 ((u 14), .inl (cI, 110, .inl (upd (fun _ => 0) (0 : Int32).toNatClampNeg x2)))).set 16 ((u 15), .inl (cI, 110, .inl (upd (fun _ => 0) (0 : Int32).toNatClampNeg 0)))) H := hP
  have hD : va_D A (((((xW o u cI cZ cJ).set 13 ((u 12), .inr (5, ([.int 0, .ref (u 13), .ref (u 14), .ref (u 15), .ref (u 16), .ref (u 17), .ref (u 18)].set 0 (.int 1))))).set 14 ((u 13), .inl (cI, 110, .inl (upd (fun _ => 0) (0 : Int32).toNatClampNeg 10)))).set 15 ((u 14), .inl (cI, 110, .inl (upd (fun _ => 0) (0 : Int32).toNatClampNeg x2)))).set 16 ((u 15), .inl (cI, 110, .inl (upd (fun _ => 0) (0 : Int32).toNatClampNeg 0)))) := hD
  refine lv_aload_n hx hb dX5_add_40 rfl (lv_at hl 1 rfl) ?_
  refine xg (ci := 5) S inX5 rfl hK hP (q0 := 13) rfl 4 (by decide) rfl kw_1_125 rfl dX5_add_41 ?_
  refine lv_iload hx hb dX5_add_44 (lv_at hl 0 rfl) ?_
  refine lv_iload hx hb dX5_add_46 (lv_at hl 5 rfl) ?_
  refine xiast (t0 := 0) S hK hP hD hS (q0 := 17) rfl rfl (vin rfl) dX5_add_48 (fun H locs hP hD hS => ?_)
  have hP : va_P D vwCl ((((((xW o u cI cZ cJ).set 13 ((u 12), .inr (5, ([.int 0, .ref (u 13), .ref (u 14), .ref (u 15), .ref (u 16), .ref (u 17), .ref (u 18)].set 0 (.int 1))))).set 14 ((u 13), .inl (cI, 110, .inl (upd (fun _ => 0) (0 : Int32).toNatClampNeg 10)))).set 15 ((u 14), .inl (cI, 110, .inl (upd (fun _ => 0) (0 : Int32).toNatClampNeg x2)))).set 16 ((u 15), .inl (cI, 110, .inl (upd (fun _ => 0) (0 : Int32).toNatClampNeg 0)))).set 17 ((u 16), .inl (cI, 110, .inl (upd (fun _ => 0) (0 : Int32).toNatClampNeg 0)))) H := hP
  have hD : va_D A ((((((xW o u cI cZ cJ).set 13 ((u 12), .inr (5, ([.int 0, .ref (u 13), .ref (u 14), .ref (u 15), .ref (u 16), .ref (u 17), .ref (u 18)].set 0 (.int 1))))).set 14 ((u 13), .inl (cI, 110, .inl (upd (fun _ => 0) (0 : Int32).toNatClampNeg 10)))).set 15 ((u 14), .inl (cI, 110, .inl (upd (fun _ => 0) (0 : Int32).toNatClampNeg x2)))).set 16 ((u 15), .inl (cI, 110, .inl (upd (fun _ => 0) (0 : Int32).toNatClampNeg 0)))).set 17 ((u 16), .inl (cI, 110, .inl (upd (fun _ => 0) (0 : Int32).toNatClampNeg 0)))) := hD
  refine lv_aload_n hx hb dX5_add_49 rfl (lv_at hl 1 rfl) ?_
  refine xg (ci := 5) S inX5 rfl hK hP (q0 := 13) rfl 5 (by decide) rfl kw_1_130 rfl dX5_add_50 ?_
  refine lv_iload hx hb dX5_add_53 (lv_at hl 0 rfl) ?_
  refine lv_iconst (v := (-1)) hx hb dX5_add_55 (by decide) ?_
  refine xiast (t0 := 0) S hK hP hD hS (q0 := 18) rfl rfl (vin rfl) dX5_add_56 (fun H locs hP hD hS => ?_)
  have hP : va_P D vwCl (((((((xW o u cI cZ cJ).set 13 ((u 12), .inr (5, ([.int 0, .ref (u 13), .ref (u 14), .ref (u 15), .ref (u 16), .ref (u 17), .ref (u 18)].set 0 (.int 1))))).set 14 ((u 13), .inl (cI, 110, .inl (upd (fun _ => 0) (0 : Int32).toNatClampNeg 10)))).set 15 ((u 14), .inl (cI, 110, .inl (upd (fun _ => 0) (0 : Int32).toNatClampNeg x2)))).set 16 ((u 15), .inl (cI, 110, .inl (upd (fun _ => 0) (0 : Int32).toNatClampNeg 0)))).set 17 ((u 16), .inl (cI, 110, .inl (upd (fun _ => 0) (0 : Int32).toNatClampNeg 0)))).set 18 ((u 17), .inl (cI, 110, .inl (upd (fun _ => 0) (0 : Int32).toNatClampNeg (-1))))) H := hP
  have hD : va_D A (((((((xW o u cI cZ cJ).set 13 ((u 12), .inr (5, ([.int 0, .ref (u 13), .ref (u 14), .ref (u 15), .ref (u 16), .ref (u 17), .ref (u 18)].set 0 (.int 1))))).set 14 ((u 13), .inl (cI, 110, .inl (upd (fun _ => 0) (0 : Int32).toNatClampNeg 10)))).set 15 ((u 14), .inl (cI, 110, .inl (upd (fun _ => 0) (0 : Int32).toNatClampNeg x2)))).set 16 ((u 15), .inl (cI, 110, .inl (upd (fun _ => 0) (0 : Int32).toNatClampNeg 0)))).set 17 ((u 16), .inl (cI, 110, .inl (upd (fun _ => 0) (0 : Int32).toNatClampNeg 0)))).set 18 ((u 17), .inl (cI, 110, .inl (upd (fun _ => 0) (0 : Int32).toNatClampNeg (-1))))) := hD
  refine lv_aload_n hx hb dX5_add_57 rfl (lv_at hl 1 rfl) ?_
  refine xg (ci := 5) S inX5 rfl hK hP (q0 := 13) rfl 6 (by decide) rfl kw_1_134 rfl dX5_add_58 ?_
  refine lv_iload hx hb dX5_add_61 (lv_at hl 0 rfl) ?_
  refine lv_iconst (v := (-1)) hx hb dX5_add_63 (by decide) ?_
  refine xiast (t0 := 0) S hK hP hD hS (q0 := 19) rfl rfl (vin rfl) dX5_add_64 (fun H locs hP hD hS => ?_)
  have hP : va_P D vwCl ((((((((xW o u cI cZ cJ).set 13 ((u 12), .inr (5, ([.int 0, .ref (u 13), .ref (u 14), .ref (u 15), .ref (u 16), .ref (u 17), .ref (u 18)].set 0 (.int 1))))).set 14 ((u 13), .inl (cI, 110, .inl (upd (fun _ => 0) (0 : Int32).toNatClampNeg 10)))).set 15 ((u 14), .inl (cI, 110, .inl (upd (fun _ => 0) (0 : Int32).toNatClampNeg x2)))).set 16 ((u 15), .inl (cI, 110, .inl (upd (fun _ => 0) (0 : Int32).toNatClampNeg 0)))).set 17 ((u 16), .inl (cI, 110, .inl (upd (fun _ => 0) (0 : Int32).toNatClampNeg 0)))).set 18 ((u 17), .inl (cI, 110, .inl (upd (fun _ => 0) (0 : Int32).toNatClampNeg (-1))))).set 19 ((u 18), .inl (cI, 110, .inl (upd (fun _ => 0) (0 : Int32).toNatClampNeg (-1))))) H := hP
  have hD : va_D A ((((((((xW o u cI cZ cJ).set 13 ((u 12), .inr (5, ([.int 0, .ref (u 13), .ref (u 14), .ref (u 15), .ref (u 16), .ref (u 17), .ref (u 18)].set 0 (.int 1))))).set 14 ((u 13), .inl (cI, 110, .inl (upd (fun _ => 0) (0 : Int32).toNatClampNeg 10)))).set 15 ((u 14), .inl (cI, 110, .inl (upd (fun _ => 0) (0 : Int32).toNatClampNeg x2)))).set 16 ((u 15), .inl (cI, 110, .inl (upd (fun _ => 0) (0 : Int32).toNatClampNeg 0)))).set 17 ((u 16), .inl (cI, 110, .inl (upd (fun _ => 0) (0 : Int32).toNatClampNeg 0)))).set 18 ((u 17), .inl (cI, 110, .inl (upd (fun _ => 0) (0 : Int32).toNatClampNeg (-1))))).set 19 ((u 18), .inl (cI, 110, .inl (upd (fun _ => 0) (0 : Int32).toNatClampNeg (-1))))) := hD
  refine lv_aload_n hx hb dX5_add_65 rfl (lv_at hl 1 rfl) ?_
  refine lv_aload_n hx hb dX5_add_66 rfl (lv_at hl 1 rfl) ?_
  refine lv_iload hx hb dX5_add_67 (lv_at hl 0 rfl) ?_
  refine aVi (As := [.int 0]) (ci := 5) S (c_X5_partA_3 l D cI cZ cJ o u ra ga H.size x2 lo_x2 hi_x2) mi_X5_partA kw_6_57 rfl rfl ⟨Nat.le_of_ble_eq_true rfl, Nat.le_of_ble_eq_true rfl⟩ hP hD hK hS hA hB (k := 13) rfl rfl rfl hl.1 (Nat.le_of_ble_eq_true rfl) ⟨Nat.le_of_ble_eq_true rfl, Nat.le_of_ble_eq_true rfl⟩ dX5_add_69 (fun H locs hz hP hD hS => ?_)
  refine lv_iload hx hb dX5_add_72 (lv_at hl 0 rfl) ?_
  refine aVv (As := [.int (-1), .int 0]) (ci := 5) S (c_X5_claim_3 l D cI cZ cJ o u ra ga H.size x2 lo_x2 hi_x2) mi_X5_claim kw_6_58 rfl rfl ⟨Nat.le_of_ble_eq_true rfl, Nat.le_of_ble_eq_true rfl⟩ hP hD hK hS hA hB (k := 13) rfl rfl rfl hl.1 (Nat.le_of_ble_eq_true rfl) ⟨Nat.le_of_ble_eq_true rfl, Nat.le_of_ble_eq_true rfl⟩ dX5_add_74 (fun H locs hz hP hD hS => ?_)
  refine lv_aload_n hx hb dX5_add_77 rfl (lv_at hl 1 rfl) ?_
  refine lv_aload_n hx hb dX5_add_78 rfl (lv_at hl 1 rfl) ?_
  refine lv_iload hx hb dX5_add_79 (lv_at hl 0 rfl) ?_
  refine aVi (As := [.int 0]) (ci := 5) S (c_X5_partB_3 l D cI cZ cJ o u ra ga H.size x2 lo_x2 hi_x2) mi_X5_partB kw_6_62 rfl rfl ⟨Nat.le_of_ble_eq_true rfl, Nat.le_of_ble_eq_true rfl⟩ hP hD hK hS hA hB (k := 13) rfl rfl rfl hl.1 (Nat.le_of_ble_eq_true rfl) ⟨Nat.le_of_ble_eq_true rfl, Nat.le_of_ble_eq_true rfl⟩ dX5_add_81 (fun H locs hz hP hD hS => ?_)
  refine lv_iload hx hb dX5_add_84 (lv_at hl 0 rfl) ?_
  refine aVv (As := [.int (-1), .int 0]) (ci := 5) S (c_X5_claim_3 l D cI cZ cJ o u ra ga H.size x2 lo_x2 hi_x2) mi_X5_claim kw_6_58 rfl rfl ⟨Nat.le_of_ble_eq_true rfl, Nat.le_of_ble_eq_true rfl⟩ hP hD hK hS hA hB (k := 13) rfl rfl rfl hl.1 (Nat.le_of_ble_eq_true rfl) ⟨Nat.le_of_ble_eq_true rfl, Nat.le_of_ble_eq_true rfl⟩ dX5_add_86 (fun H locs hz hP hD hS => ?_)
  refine lv_aload_n hx hb dX5_add_89 rfl (lv_at hl 1 rfl) ?_
  refine lv_aload_n hx hb dX5_add_90 rfl (lv_at hl 1 rfl) ?_
  refine lv_iload hx hb dX5_add_91 (lv_at hl 0 rfl) ?_
  refine aVi (As := [.int 0]) (ci := 5) S (c_X5_partC_3 l D cI cZ cJ o u ra ga H.size x2 lo_x2 hi_x2) mi_X5_partC kw_6_63 rfl rfl ⟨Nat.le_of_ble_eq_true rfl, Nat.le_of_ble_eq_true rfl⟩ hP hD hK hS hA hB (k := 13) rfl rfl rfl hl.1 (Nat.le_of_ble_eq_true rfl) ⟨Nat.le_of_ble_eq_true rfl, Nat.le_of_ble_eq_true rfl⟩ dX5_add_93 (fun H locs hz hP hD hS => ?_)
  refine lv_iload hx hb dX5_add_96 (lv_at hl 0 rfl) ?_
  refine aVv (As := [.int (-1), .int 0]) (ci := 5) S (c_X5_claim_3 l D cI cZ cJ o u ra ga H.size x2 lo_x2 hi_x2) mi_X5_claim kw_6_58 rfl rfl ⟨Nat.le_of_ble_eq_true rfl, Nat.le_of_ble_eq_true rfl⟩ hP hD hK hS hA hB (k := 13) rfl rfl rfl hl.1 (Nat.le_of_ble_eq_true rfl) ⟨Nat.le_of_ble_eq_true rfl, Nat.le_of_ble_eq_true rfl⟩ dX5_add_98 (fun H locs hz hP hD hS => ?_)
  refine lv_iload hx hb dX5_add_101 (lv_at hl 0 rfl) ?_
  exact wEnd S hr hlocks hP hD hS (Nat.le_of_ble_eq_true rfl) (Nat.le_of_ble_eq_true rfl) dX5_add_103 rfl

set_option maxHeartbeats 8000000 in
set_option maxRecDepth 100000 in
theorem c_X8_node_21 (l : Launch) (D : va_G) (cI cZ cJ : ClassId) (o : Nat) (u : Nat → Nat) (hst : l.stackTraces = false) (ra ga : Nat → Nat) (sz : Nat) (x2 : Int32) (x3 : Int32) (x4 : Int32) : vx_Met l yX8_node (uW yX8_node cX8_node 5 (some .int)) ({ frames := 7, cells := 1, slots := 6, locals := 102 }) (va_Pc [.ref o, .int 9, .int x2, .int x3, .int x4] (aS ra ga D (tyL cI cZ cJ) (xW o u cI cZ cJ) sz)) (nQi (va_A (xW o u cI cZ cJ) sz)) (wX "java/lang/IllegalArgumentException" D (xW o u cI cZ cJ) (va_A (xW o u cI cZ cJ) sz)) 1 6 (va_A (xW o u cI cZ cJ) sz) := by
  refine xStart (lv := [(0, .ref o), (1, .int 9), (2, .int x2), (3, .int x3), (4, .int x4)]) (Qc := fun A => nQi A) (XC := fun A => wX "java/lang/IllegalArgumentException" D (xW o u cI cZ cJ) A) (by decide) (Nat.le_of_ble_eq_true rfl) rfl ?_
  intro p e s m args below meth c ls A H S hr hlocks hnm hl hK hP hD hS hA hB hnt
  have hx := S.1
  have hb := S.2.1
  refine lv_aload_n hx hb dX8_node_0 rfl (lv_at hl 0 rfl) ?_
  refine xg (ci := 8) S inX8 rfl hK hP xW_0 1 (by decide) rfl kw_3_21 rfl dX8_node_1 ?_
  refine lv_iload_n hx hb dX8_node_4 rfl (lv_at hl 1 rfl) ?_
  refine lv_iload_n hx hb dX8_node_5 rfl (lv_at hl 2 rfl) ?_
  refine lv_iload_n hx hb dX8_node_6 rfl (lv_at hl 3 rfl) ?_
  refine lv_iload hx hb dX8_node_7 (lv_at hl 4 rfl) ?_
  refine aVi (As := [.int 9, .int x2, .int x3, .int x4]) (ci := 5) S (c_X5_suits_21 l D cI cZ cJ o u ra ga H.size x2 x3 x4) mi_X5_suits kw_6_27 rfl rfl ⟨Nat.le_of_ble_eq_true rfl, Nat.le_of_ble_eq_true rfl⟩ hP hD hK hS hA hB xW_13 rfl rfl hl.1 (Nat.le_of_ble_eq_true rfl) ⟨Nat.le_of_ble_eq_true rfl, Nat.le_of_ble_eq_true rfl⟩ dX8_node_9 (fun H locs hz hP hD hS => ?_)
  exact tSv (As := [.int 0]) S (c_X8_needArgument_0 l D cI cZ cJ o u hst ra ga H.size) ms_X8_needArgument kw_4_4 rfl rfl ⟨Nat.le_of_ble_eq_true rfl, Nat.le_of_ble_eq_true rfl⟩ hP hD hK hS hA hB hl.1 (Nat.le_of_ble_eq_true rfl) ⟨Nat.le_of_ble_eq_true rfl, Nat.le_of_ble_eq_true rfl⟩ dX8_node_12 hnt hlocks (Nat.le_of_ble_eq_true rfl) (Nat.le_of_ble_eq_true rfl)

set_option maxHeartbeats 8000000 in
set_option maxRecDepth 100000 in
theorem c_X8_node_22 (l : Launch) (D : va_G) (cI cZ cJ : ClassId) (o : Nat) (u : Nat → Nat) (hst : l.stackTraces = false) (ra ga : Nat → Nat) (sz : Nat) (x2 : Int32) (x3 : Int32) (x4 : Int32) (hi_x2 : x2 ≤ (-1)) : vx_Met l yX8_node (uW yX8_node cX8_node 5 (some .int)) ({ frames := 7, cells := 1, slots := 6, locals := 102 }) (va_Pc [.ref o, .int 10, .int x2, .int x3, .int x4] (aS ra ga D (tyL cI cZ cJ) (xW o u cI cZ cJ) sz)) (nQi (va_A (xW o u cI cZ cJ) sz)) (wX "java/lang/IllegalArgumentException" D (xW o u cI cZ cJ) (va_A (xW o u cI cZ cJ) sz)) 1 6 (va_A (xW o u cI cZ cJ) sz) := by
  refine xStart (lv := [(0, .ref o), (1, .int 10), (2, .int x2), (3, .int x3), (4, .int x4)]) (Qc := fun A => nQi A) (XC := fun A => wX "java/lang/IllegalArgumentException" D (xW o u cI cZ cJ) A) (by decide) (Nat.le_of_ble_eq_true rfl) rfl ?_
  intro p e s m args below meth c ls A H S hr hlocks hnm hl hK hP hD hS hA hB hnt
  have hx := S.1
  have hb := S.2.1
  refine lv_aload_n hx hb dX8_node_0 rfl (lv_at hl 0 rfl) ?_
  refine xg (ci := 8) S inX8 rfl hK hP xW_0 1 (by decide) rfl kw_3_21 rfl dX8_node_1 ?_
  refine lv_iload_n hx hb dX8_node_4 rfl (lv_at hl 1 rfl) ?_
  refine lv_iload_n hx hb dX8_node_5 rfl (lv_at hl 2 rfl) ?_
  refine lv_iload_n hx hb dX8_node_6 rfl (lv_at hl 3 rfl) ?_
  refine lv_iload hx hb dX8_node_7 (lv_at hl 4 rfl) ?_
  refine aVi (As := [.int 10, .int x2, .int x3, .int x4]) (ci := 5) S (c_X5_suits_22 l D cI cZ cJ o u ra ga H.size x2 x3 x4 hi_x2) mi_X5_suits kw_6_27 rfl rfl ⟨Nat.le_of_ble_eq_true rfl, Nat.le_of_ble_eq_true rfl⟩ hP hD hK hS hA hB xW_13 rfl rfl hl.1 (Nat.le_of_ble_eq_true rfl) ⟨Nat.le_of_ble_eq_true rfl, Nat.le_of_ble_eq_true rfl⟩ dX8_node_9 (fun H locs hz hP hD hS => ?_)
  exact tSv (As := [.int 0]) S (c_X8_needArgument_0 l D cI cZ cJ o u hst ra ga H.size) ms_X8_needArgument kw_4_4 rfl rfl ⟨Nat.le_of_ble_eq_true rfl, Nat.le_of_ble_eq_true rfl⟩ hP hD hK hS hA hB hl.1 (Nat.le_of_ble_eq_true rfl) ⟨Nat.le_of_ble_eq_true rfl, Nat.le_of_ble_eq_true rfl⟩ dX8_node_12 hnt hlocks (Nat.le_of_ble_eq_true rfl) (Nat.le_of_ble_eq_true rfl)

set_option maxHeartbeats 8000000 in
set_option maxRecDepth 100000 in
theorem c_X8_node_23 (l : Launch) (D : va_G) (cI cZ cJ : ClassId) (o : Nat) (u : Nat → Nat) (hst : l.stackTraces = false) (ra ga : Nat → Nat) (sz : Nat) (x2 : Int32) (x3 : Int32) (x4 : Int32) (lo_x2 : 16 ≤ x2) : vx_Met l yX8_node (uW yX8_node cX8_node 5 (some .int)) ({ frames := 7, cells := 1, slots := 6, locals := 102 }) (va_Pc [.ref o, .int 10, .int x2, .int x3, .int x4] (aS ra ga D (tyL cI cZ cJ) (xW o u cI cZ cJ) sz)) (nQi (va_A (xW o u cI cZ cJ) sz)) (wX "java/lang/IllegalArgumentException" D (xW o u cI cZ cJ) (va_A (xW o u cI cZ cJ) sz)) 1 6 (va_A (xW o u cI cZ cJ) sz) := by
  refine xStart (lv := [(0, .ref o), (1, .int 10), (2, .int x2), (3, .int x3), (4, .int x4)]) (Qc := fun A => nQi A) (XC := fun A => wX "java/lang/IllegalArgumentException" D (xW o u cI cZ cJ) A) (by decide) (Nat.le_of_ble_eq_true rfl) rfl ?_
  intro p e s m args below meth c ls A H S hr hlocks hnm hl hK hP hD hS hA hB hnt
  have hx := S.1
  have hb := S.2.1
  refine lv_aload_n hx hb dX8_node_0 rfl (lv_at hl 0 rfl) ?_
  refine xg (ci := 8) S inX8 rfl hK hP xW_0 1 (by decide) rfl kw_3_21 rfl dX8_node_1 ?_
  refine lv_iload_n hx hb dX8_node_4 rfl (lv_at hl 1 rfl) ?_
  refine lv_iload_n hx hb dX8_node_5 rfl (lv_at hl 2 rfl) ?_
  refine lv_iload_n hx hb dX8_node_6 rfl (lv_at hl 3 rfl) ?_
  refine lv_iload hx hb dX8_node_7 (lv_at hl 4 rfl) ?_
  refine aVi (As := [.int 10, .int x2, .int x3, .int x4]) (ci := 5) S (c_X5_suits_23 l D cI cZ cJ o u ra ga H.size x2 x3 x4 lo_x2) mi_X5_suits kw_6_27 rfl rfl ⟨Nat.le_of_ble_eq_true rfl, Nat.le_of_ble_eq_true rfl⟩ hP hD hK hS hA hB xW_13 rfl rfl hl.1 (Nat.le_of_ble_eq_true rfl) ⟨Nat.le_of_ble_eq_true rfl, Nat.le_of_ble_eq_true rfl⟩ dX8_node_9 (fun H locs hz hP hD hS => ?_)
  exact tSv (As := [.int 0]) S (c_X8_needArgument_0 l D cI cZ cJ o u hst ra ga H.size) ms_X8_needArgument kw_4_4 rfl rfl ⟨Nat.le_of_ble_eq_true rfl, Nat.le_of_ble_eq_true rfl⟩ hP hD hK hS hA hB hl.1 (Nat.le_of_ble_eq_true rfl) ⟨Nat.le_of_ble_eq_true rfl, Nat.le_of_ble_eq_true rfl⟩ dX8_node_12 hnt hlocks (Nat.le_of_ble_eq_true rfl) (Nat.le_of_ble_eq_true rfl)

set_option maxHeartbeats 8000000 in
set_option maxRecDepth 100000 in
theorem c_X5_suits_25 (l : Launch) (D : va_G) (cI cZ cJ : ClassId) (o : Nat) (u : Nat → Nat) (ra ga : Nat → Nat) (sz : Nat) (x2 : Int32) (x4 : Int32) (lo_x2 : 0 ≤ x2) (hi_x2 : x2 ≤ 15) (ne_x4_0 : ¬ x4 = 0) : Met l yX5_suits (uW yX5_suits cX5_suits 5 (some .boolean)) ({ frames := 2, cells := 0, slots := 0, locals := 42 }) (va_Pc [.ref (u 12), .int 10, .int x2, .int 0, .int x4] (aS ra ga D (tyL cI cZ cJ) (xW o u cI cZ cJ) sz)) (wQi (0) D (xW o u cI cZ cJ) (va_A (xW o u cI cZ cJ) sz)) 0 0 (va_A (xW o u cI cZ cJ) sz) := by
  refine aStart (lv := [(0, .ref (u 12)), (1, .int 10), (2, .int x2), (3, .int 0), (4, .int x4)]) (Qc := fun A => wQi (0) D (xW o u cI cZ cJ) A) (by decide) (Nat.le_of_ble_eq_true rfl) rfl ?_
  intro p e s m args below meth c ls A H S hr hlocks hnm hl hK hP hD hS hA hB
  have hx := S.1
  have hb := S.2.1
  refine lv_iload_n hx hb dX5_suits_0 rfl (lv_at hl 1 rfl) ?_
  refine lv_if_lt (tgt := 10) hx hb dX5_suits_1 (by decide) (fun c => absurd c (by decide)) (fun _ => ?_)
  refine lv_iload_n hx hb dX5_suits_4 rfl (lv_at hl 1 rfl) ?_
  refine lv_bipush (v := 21) hx hb dX5_suits_5 (by decide) ?_
  refine lv_icmp_le (tgt := 12) hx hb dX5_suits_7 (by decide) (fun _ => ?_) (fun c => absurd c (by decide))
  refine lv_aload_n hx hb dX5_suits_12 rfl (lv_at hl 0 rfl) ?_
  refine xgs S hB.z0 hS kw_3_91 rfl dX5_suits_13 ?_
  refine lv_iload_n hx hb dX5_suits_16 rfl (lv_at hl 1 rfl) ?_
  refine xti (v := 2) S hB.t0 hS (vin rfl) rfl dX5_suits_17 ?_
  refine lv_iload_n hx hb dX5_suits_18 rfl (lv_at hl 2 rfl) ?_
  refine aVi (As := [.int 2, .int x2]) (ci := 5) S (c_X5_fills_8 l D cI cZ cJ o u ra ga H.size x2 lo_x2 hi_x2) mi_X5_fills kw_6_31 rfl rfl ⟨Nat.le_of_ble_eq_true rfl, Nat.le_of_ble_eq_true rfl⟩ hP hD hK hS hA hB xW_13 rfl rfl hl.1 (Nat.le_of_ble_eq_true rfl) ⟨Nat.le_of_ble_eq_true rfl, Nat.le_of_ble_eq_true rfl⟩ dX5_suits_19 (fun H locs hz hP hD hS => ?_)
  refine lv_if_eq (tgt := 112) hx hb dX5_suits_22 (by decide) (fun c => absurd c (by decide)) (fun _ => ?_)
  refine lv_aload_n hx hb dX5_suits_25 rfl (lv_at hl 0 rfl) ?_
  refine xgs S hB.z1 hS kw_3_228 rfl dX5_suits_26 ?_
  refine lv_iload_n hx hb dX5_suits_29 rfl (lv_at hl 1 rfl) ?_
  refine xti (v := 0) S hB.t1 hS (vin rfl) rfl dX5_suits_30 ?_
  refine lv_iload_n hx hb dX5_suits_31 rfl (lv_at hl 3 rfl) ?_
  refine rdV (As := [.int 0, .int 0]) (ci := 5) S (c_X5_fills_3 l D cI cZ cJ o u) mi_X5_fills kw_6_31 ⟨rfl, rfl⟩ ⟨Nat.le_of_ble_eq_true rfl, Nat.le_of_ble_eq_true rfl⟩ hP hK xW_13 rfl rfl hl.1 (Nat.le_of_ble_eq_true rfl) ⟨Nat.le_of_ble_eq_true rfl, Nat.le_of_ble_eq_true rfl⟩ dX5_suits_32 ?_
  refine lv_if_eq (tgt := 112) hx hb dX5_suits_35 (by decide) (fun c => absurd c (by decide)) (fun _ => ?_)
  refine lv_aload_n hx hb dX5_suits_38 rfl (lv_at hl 0 rfl) ?_
  refine xgs S hB.z2 hS kw_3_222 rfl dX5_suits_39 ?_
  refine lv_iload_n hx hb dX5_suits_42 rfl (lv_at hl 1 rfl) ?_
  refine xti (v := 0) S hB.t2 hS (vin rfl) rfl dX5_suits_43 ?_
  refine lv_iload hx hb dX5_suits_44 (lv_at hl 4 rfl) ?_
  refine rdV (As := [.int 0, .int x4]) (ci := 5) S (c_X5_fills_4 l D cI cZ cJ o u x4 ne_x4_0) mi_X5_fills kw_6_31 ⟨rfl, rfl⟩ ⟨Nat.le_of_ble_eq_true rfl, Nat.le_of_ble_eq_true rfl⟩ hP hK xW_13 rfl rfl hl.1 (Nat.le_of_ble_eq_true rfl) ⟨Nat.le_of_ble_eq_true rfl, Nat.le_of_ble_eq_true rfl⟩ dX5_suits_46 ?_
  refine lv_if_eq (tgt := 112) hx hb dX5_suits_49 (by decide) (fun _ => ?_) (fun c => absurd c (by decide))
  refine lv_iconst (v := 0) hx hb dX5_suits_112 (by decide) ?_
  exact wEndZ S hr hlocks hP hD hS (Nat.le_of_ble_eq_true rfl) (Nat.le_of_ble_eq_true rfl) dX5_suits_113 rfl rfl

set_option maxHeartbeats 8000000 in
set_option maxRecDepth 100000 in
theorem c_X8_node_24 (l : Launch) (D : va_G) (cI cZ cJ : ClassId) (o : Nat) (u : Nat → Nat) (ra ga : Nat → Nat) (sz : Nat) (x2 : Int32) (lo_x2 : 0 ≤ x2) (hi_x2 : x2 ≤ 15) : Met l yX8_node (uW yX8_node cX8_node 5 (some .int)) ({ frames := 3, cells := 0, slots := 0, locals := 66 }) (va_Pc [.ref o, .int 10, .int x2, .int 0, .int 0] (aS ra ga D (tyL cI cZ cJ) (xW o u cI cZ cJ) sz)) (wQi (0) D ((((((((xW o u cI cZ cJ).set 13 ((u 12), .inr (5, ([.int 0, .ref (u 13), .ref (u 14), .ref (u 15), .ref (u 16), .ref (u 17), .ref (u 18)].set 0 (.int 1))))).set 14 ((u 13), .inl (cI, 110, .inl (upd (fun _ => 0) (0 : Int32).toNatClampNeg 10)))).set 15 ((u 14), .inl (cI, 110, .inl (upd (fun _ => 0) (0 : Int32).toNatClampNeg x2)))).set 16 ((u 15), .inl (cI, 110, .inl (upd (fun _ => 0) (0 : Int32).toNatClampNeg 0)))).set 17 ((u 16), .inl (cI, 110, .inl (upd (fun _ => 0) (0 : Int32).toNatClampNeg 0)))).set 18 ((u 17), .inl (cI, 110, .inl (upd (fun _ => 0) (0 : Int32).toNatClampNeg (-1))))).set 19 ((u 18), .inl (cI, 110, .inl (upd (fun _ => 0) (0 : Int32).toNatClampNeg (-1))))) (va_A (xW o u cI cZ cJ) sz)) 0 0 (va_A (xW o u cI cZ cJ) sz) := by
  refine aStart (lv := [(0, .ref o), (1, .int 10), (2, .int x2), (3, .int 0), (4, .int 0)]) (Qc := fun A => wQi (0) D ((((((((xW o u cI cZ cJ).set 13 ((u 12), .inr (5, ([.int 0, .ref (u 13), .ref (u 14), .ref (u 15), .ref (u 16), .ref (u 17), .ref (u 18)].set 0 (.int 1))))).set 14 ((u 13), .inl (cI, 110, .inl (upd (fun _ => 0) (0 : Int32).toNatClampNeg 10)))).set 15 ((u 14), .inl (cI, 110, .inl (upd (fun _ => 0) (0 : Int32).toNatClampNeg x2)))).set 16 ((u 15), .inl (cI, 110, .inl (upd (fun _ => 0) (0 : Int32).toNatClampNeg 0)))).set 17 ((u 16), .inl (cI, 110, .inl (upd (fun _ => 0) (0 : Int32).toNatClampNeg 0)))).set 18 ((u 17), .inl (cI, 110, .inl (upd (fun _ => 0) (0 : Int32).toNatClampNeg (-1))))).set 19 ((u 18), .inl (cI, 110, .inl (upd (fun _ => 0) (0 : Int32).toNatClampNeg (-1))))) A) (by decide) (Nat.le_of_ble_eq_true rfl) rfl ?_
  intro p e s m args below meth c ls A H S hr hlocks hnm hl hK hP hD hS hA hB
  have hx := S.1
  have hb := S.2.1
  refine lv_aload_n hx hb dX8_node_0 rfl (lv_at hl 0 rfl) ?_
  refine xg (ci := 8) S inX8 rfl hK hP xW_0 1 (by decide) rfl kw_3_21 rfl dX8_node_1 ?_
  refine lv_iload_n hx hb dX8_node_4 rfl (lv_at hl 1 rfl) ?_
  refine lv_iload_n hx hb dX8_node_5 rfl (lv_at hl 2 rfl) ?_
  refine lv_iload_n hx hb dX8_node_6 rfl (lv_at hl 3 rfl) ?_
  refine lv_iload hx hb dX8_node_7 (lv_at hl 4 rfl) ?_
  refine aVi (As := [.int 10, .int x2, .int 0, .int 0]) (ci := 5) S (c_X5_suits_24 l D cI cZ cJ o u ra ga H.size x2 lo_x2 hi_x2) mi_X5_suits kw_6_27 rfl rfl ⟨Nat.le_of_ble_eq_true rfl, Nat.le_of_ble_eq_true rfl⟩ hP hD hK hS hA hB xW_13 rfl rfl hl.1 (Nat.le_of_ble_eq_true rfl) ⟨Nat.le_of_ble_eq_true rfl, Nat.le_of_ble_eq_true rfl⟩ dX8_node_9 (fun H locs hz hP hD hS => ?_)
  refine aSv (As := [.int 1]) S (c_X8_needArgument_1 l D cI cZ cJ o u ra ga H.size) ms_X8_needArgument kw_4_4 rfl rfl ⟨Nat.le_of_ble_eq_true rfl, Nat.le_of_ble_eq_true rfl⟩ hP hD hK hS hA hB hl.1 (Nat.le_of_ble_eq_true rfl) ⟨Nat.le_of_ble_eq_true rfl, Nat.le_of_ble_eq_true rfl⟩ dX8_node_12 (fun H locs hz hP hD hS => ?_)
  refine lv_aload_n hx hb dX8_node_15 rfl (lv_at hl 0 rfl) ?_
  refine xg (ci := 8) S inX8 rfl hK hP xW_0 1 (by decide) rfl kw_3_21 rfl dX8_node_16 ?_
  refine xg (ci := 5) S inX5 rfl hK hP xW_13 0 (by decide) rfl kw_1_110 rfl dX8_node_19 ?_
  refine lv_bipush (v := 110) hx hb dX8_node_22 (by decide) ?_
  refine lv_icmp_ge (tgt := 31) hx hb dX8_node_24 (by decide) (fun c => absurd c (by decide)) (fun _ => ?_)
  refine lv_iconst (v := 1) hx hb dX8_node_27 (by decide) ?_
  refine lv_goto (tgt := 32) hx hb dX8_node_28 (by decide) ?_
  refine aSv (As := [.int 1]) S (c_X8_needState_0 l D cI cZ cJ o u ra ga H.size) ms_X8_needState kw_5_183 rfl rfl ⟨Nat.le_of_ble_eq_true rfl, Nat.le_of_ble_eq_true rfl⟩ hP hD hK hS hA hB hl.1 (Nat.le_of_ble_eq_true rfl) ⟨Nat.le_of_ble_eq_true rfl, Nat.le_of_ble_eq_true rfl⟩ dX8_node_32 (fun H locs hz hP hD hS => ?_)
  refine lv_aload_n hx hb dX8_node_35 rfl (lv_at hl 0 rfl) ?_
  refine lv_iconst (v := 1) hx hb dX8_node_36 (by decide) ?_
  refine xp (ci := 8) (v := .int 1) S inX8 tyX8 tyX8_ok nmX8 rfl hK hP hD hS xW_0 9 (by decide) kw_3_29 rfl rfl rfl rfl (Nat.le_of_ble_eq_true rfl) dX8_node_37 (fun H locs hP hD hS => ?_)
  have hP : va_P D vwCl (xW o u cI cZ cJ) H := hP
  have hD : va_D A (xW o u cI cZ cJ) := hD
  refine lv_aload_n hx hb dX8_node_40 rfl (lv_at hl 0 rfl) ?_
  refine xg (ci := 8) S inX8 rfl hK hP xW_0 1 (by decide) rfl kw_3_21 rfl dX8_node_41 ?_
  refine lv_iload_n hx hb dX8_node_44 rfl (lv_at hl 1 rfl) ?_
  refine lv_iload_n hx hb dX8_node_45 rfl (lv_at hl 2 rfl) ?_
  refine lv_iload_n hx hb dX8_node_46 rfl (lv_at hl 3 rfl) ?_
  refine lv_iload hx hb dX8_node_47 (lv_at hl 4 rfl) ?_
  refine aVi (As := [.int 10, .int x2, .int 0, .int 0]) (ci := 5) S (c_X5_add_3 l D cI cZ cJ o u ra ga H.size x2 lo_x2 hi_x2) mi_X5_add kw_6_53 rfl rfl ⟨Nat.le_of_ble_eq_true rfl, Nat.le_of_ble_eq_true rfl⟩ hP hD hK hS hA hB xW_13 rfl rfl hl.1 (Nat.le_of_ble_eq_true rfl) ⟨Nat.le_of_ble_eq_true rfl, Nat.le_of_ble_eq_true rfl⟩ dX8_node_49 (fun H locs hz hP hD hS => ?_)
  exact wEnd S hr hlocks hP hD hS (Nat.le_of_ble_eq_true rfl) (Nat.le_of_ble_eq_true rfl) dX8_node_52 rfl

set_option maxHeartbeats 8000000 in
set_option maxRecDepth 100000 in
theorem c_X8_node_25 (l : Launch) (D : va_G) (cI cZ cJ : ClassId) (o : Nat) (u : Nat → Nat) (hst : l.stackTraces = false) (ra ga : Nat → Nat) (sz : Nat) (x2 : Int32) (x4 : Int32) (lo_x2 : 0 ≤ x2) (hi_x2 : x2 ≤ 15) (ne_x4_0 : ¬ x4 = 0) : vx_Met l yX8_node (uW yX8_node cX8_node 5 (some .int)) ({ frames := 7, cells := 1, slots := 6, locals := 102 }) (va_Pc [.ref o, .int 10, .int x2, .int 0, .int x4] (aS ra ga D (tyL cI cZ cJ) (xW o u cI cZ cJ) sz)) (nQi (va_A (xW o u cI cZ cJ) sz)) (wX "java/lang/IllegalArgumentException" D (xW o u cI cZ cJ) (va_A (xW o u cI cZ cJ) sz)) 1 6 (va_A (xW o u cI cZ cJ) sz) := by
  refine xStart (lv := [(0, .ref o), (1, .int 10), (2, .int x2), (3, .int 0), (4, .int x4)]) (Qc := fun A => nQi A) (XC := fun A => wX "java/lang/IllegalArgumentException" D (xW o u cI cZ cJ) A) (by decide) (Nat.le_of_ble_eq_true rfl) rfl ?_
  intro p e s m args below meth c ls A H S hr hlocks hnm hl hK hP hD hS hA hB hnt
  have hx := S.1
  have hb := S.2.1
  refine lv_aload_n hx hb dX8_node_0 rfl (lv_at hl 0 rfl) ?_
  refine xg (ci := 8) S inX8 rfl hK hP xW_0 1 (by decide) rfl kw_3_21 rfl dX8_node_1 ?_
  refine lv_iload_n hx hb dX8_node_4 rfl (lv_at hl 1 rfl) ?_
  refine lv_iload_n hx hb dX8_node_5 rfl (lv_at hl 2 rfl) ?_
  refine lv_iload_n hx hb dX8_node_6 rfl (lv_at hl 3 rfl) ?_
  refine lv_iload hx hb dX8_node_7 (lv_at hl 4 rfl) ?_
  refine aVi (As := [.int 10, .int x2, .int 0, .int x4]) (ci := 5) S (c_X5_suits_25 l D cI cZ cJ o u ra ga H.size x2 x4 lo_x2 hi_x2 ne_x4_0) mi_X5_suits kw_6_27 rfl rfl ⟨Nat.le_of_ble_eq_true rfl, Nat.le_of_ble_eq_true rfl⟩ hP hD hK hS hA hB xW_13 rfl rfl hl.1 (Nat.le_of_ble_eq_true rfl) ⟨Nat.le_of_ble_eq_true rfl, Nat.le_of_ble_eq_true rfl⟩ dX8_node_9 (fun H locs hz hP hD hS => ?_)
  exact tSv (As := [.int 0]) S (c_X8_needArgument_0 l D cI cZ cJ o u hst ra ga H.size) ms_X8_needArgument kw_4_4 rfl rfl ⟨Nat.le_of_ble_eq_true rfl, Nat.le_of_ble_eq_true rfl⟩ hP hD hK hS hA hB hl.1 (Nat.le_of_ble_eq_true rfl) ⟨Nat.le_of_ble_eq_true rfl, Nat.le_of_ble_eq_true rfl⟩ dX8_node_12 hnt hlocks (Nat.le_of_ble_eq_true rfl) (Nat.le_of_ble_eq_true rfl)

set_option maxHeartbeats 8000000 in
set_option maxRecDepth 100000 in
theorem c_X5_suits_26 (l : Launch) (D : va_G) (cI cZ cJ : ClassId) (o : Nat) (u : Nat → Nat) (ra ga : Nat → Nat) (sz : Nat) (x2 : Int32) (x3 : Int32) (x4 : Int32) (lo_x2 : 0 ≤ x2) (hi_x2 : x2 ≤ 15) (ne_x3_0 : ¬ x3 = 0) : Met l yX5_suits (uW yX5_suits cX5_suits 5 (some .boolean)) ({ frames := 2, cells := 0, slots := 0, locals := 42 }) (va_Pc [.ref (u 12), .int 10, .int x2, .int x3, .int x4] (aS ra ga D (tyL cI cZ cJ) (xW o u cI cZ cJ) sz)) (wQi (0) D (xW o u cI cZ cJ) (va_A (xW o u cI cZ cJ) sz)) 0 0 (va_A (xW o u cI cZ cJ) sz) := by
  refine aStart (lv := [(0, .ref (u 12)), (1, .int 10), (2, .int x2), (3, .int x3), (4, .int x4)]) (Qc := fun A => wQi (0) D (xW o u cI cZ cJ) A) (by decide) (Nat.le_of_ble_eq_true rfl) rfl ?_
  intro p e s m args below meth c ls A H S hr hlocks hnm hl hK hP hD hS hA hB
  have hx := S.1
  have hb := S.2.1
  refine lv_iload_n hx hb dX5_suits_0 rfl (lv_at hl 1 rfl) ?_
  refine lv_if_lt (tgt := 10) hx hb dX5_suits_1 (by decide) (fun c => absurd c (by decide)) (fun _ => ?_)
  refine lv_iload_n hx hb dX5_suits_4 rfl (lv_at hl 1 rfl) ?_
  refine lv_bipush (v := 21) hx hb dX5_suits_5 (by decide) ?_
  refine lv_icmp_le (tgt := 12) hx hb dX5_suits_7 (by decide) (fun _ => ?_) (fun c => absurd c (by decide))
  refine lv_aload_n hx hb dX5_suits_12 rfl (lv_at hl 0 rfl) ?_
  refine xgs S hB.z0 hS kw_3_91 rfl dX5_suits_13 ?_
  refine lv_iload_n hx hb dX5_suits_16 rfl (lv_at hl 1 rfl) ?_
  refine xti (v := 2) S hB.t0 hS (vin rfl) rfl dX5_suits_17 ?_
  refine lv_iload_n hx hb dX5_suits_18 rfl (lv_at hl 2 rfl) ?_
  refine aVi (As := [.int 2, .int x2]) (ci := 5) S (c_X5_fills_8 l D cI cZ cJ o u ra ga H.size x2 lo_x2 hi_x2) mi_X5_fills kw_6_31 rfl rfl ⟨Nat.le_of_ble_eq_true rfl, Nat.le_of_ble_eq_true rfl⟩ hP hD hK hS hA hB xW_13 rfl rfl hl.1 (Nat.le_of_ble_eq_true rfl) ⟨Nat.le_of_ble_eq_true rfl, Nat.le_of_ble_eq_true rfl⟩ dX5_suits_19 (fun H locs hz hP hD hS => ?_)
  refine lv_if_eq (tgt := 112) hx hb dX5_suits_22 (by decide) (fun c => absurd c (by decide)) (fun _ => ?_)
  refine lv_aload_n hx hb dX5_suits_25 rfl (lv_at hl 0 rfl) ?_
  refine xgs S hB.z1 hS kw_3_228 rfl dX5_suits_26 ?_
  refine lv_iload_n hx hb dX5_suits_29 rfl (lv_at hl 1 rfl) ?_
  refine xti (v := 0) S hB.t1 hS (vin rfl) rfl dX5_suits_30 ?_
  refine lv_iload_n hx hb dX5_suits_31 rfl (lv_at hl 3 rfl) ?_
  refine rdV (As := [.int 0, .int x3]) (ci := 5) S (c_X5_fills_5 l D cI cZ cJ o u x3 ne_x3_0) mi_X5_fills kw_6_31 ⟨rfl, rfl⟩ ⟨Nat.le_of_ble_eq_true rfl, Nat.le_of_ble_eq_true rfl⟩ hP hK xW_13 rfl rfl hl.1 (Nat.le_of_ble_eq_true rfl) ⟨Nat.le_of_ble_eq_true rfl, Nat.le_of_ble_eq_true rfl⟩ dX5_suits_32 ?_
  refine lv_if_eq (tgt := 112) hx hb dX5_suits_35 (by decide) (fun _ => ?_) (fun c => absurd c (by decide))
  refine lv_iconst (v := 0) hx hb dX5_suits_112 (by decide) ?_
  exact wEndZ S hr hlocks hP hD hS (Nat.le_of_ble_eq_true rfl) (Nat.le_of_ble_eq_true rfl) dX5_suits_113 rfl rfl

set_option maxHeartbeats 8000000 in
set_option maxRecDepth 100000 in
theorem c_X8_node_26 (l : Launch) (D : va_G) (cI cZ cJ : ClassId) (o : Nat) (u : Nat → Nat) (hst : l.stackTraces = false) (ra ga : Nat → Nat) (sz : Nat) (x2 : Int32) (x3 : Int32) (x4 : Int32) (lo_x2 : 0 ≤ x2) (hi_x2 : x2 ≤ 15) (ne_x3_0 : ¬ x3 = 0) : vx_Met l yX8_node (uW yX8_node cX8_node 5 (some .int)) ({ frames := 7, cells := 1, slots := 6, locals := 102 }) (va_Pc [.ref o, .int 10, .int x2, .int x3, .int x4] (aS ra ga D (tyL cI cZ cJ) (xW o u cI cZ cJ) sz)) (nQi (va_A (xW o u cI cZ cJ) sz)) (wX "java/lang/IllegalArgumentException" D (xW o u cI cZ cJ) (va_A (xW o u cI cZ cJ) sz)) 1 6 (va_A (xW o u cI cZ cJ) sz) := by
  refine xStart (lv := [(0, .ref o), (1, .int 10), (2, .int x2), (3, .int x3), (4, .int x4)]) (Qc := fun A => nQi A) (XC := fun A => wX "java/lang/IllegalArgumentException" D (xW o u cI cZ cJ) A) (by decide) (Nat.le_of_ble_eq_true rfl) rfl ?_
  intro p e s m args below meth c ls A H S hr hlocks hnm hl hK hP hD hS hA hB hnt
  have hx := S.1
  have hb := S.2.1
  refine lv_aload_n hx hb dX8_node_0 rfl (lv_at hl 0 rfl) ?_
  refine xg (ci := 8) S inX8 rfl hK hP xW_0 1 (by decide) rfl kw_3_21 rfl dX8_node_1 ?_
  refine lv_iload_n hx hb dX8_node_4 rfl (lv_at hl 1 rfl) ?_
  refine lv_iload_n hx hb dX8_node_5 rfl (lv_at hl 2 rfl) ?_
  refine lv_iload_n hx hb dX8_node_6 rfl (lv_at hl 3 rfl) ?_
  refine lv_iload hx hb dX8_node_7 (lv_at hl 4 rfl) ?_
  refine aVi (As := [.int 10, .int x2, .int x3, .int x4]) (ci := 5) S (c_X5_suits_26 l D cI cZ cJ o u ra ga H.size x2 x3 x4 lo_x2 hi_x2 ne_x3_0) mi_X5_suits kw_6_27 rfl rfl ⟨Nat.le_of_ble_eq_true rfl, Nat.le_of_ble_eq_true rfl⟩ hP hD hK hS hA hB xW_13 rfl rfl hl.1 (Nat.le_of_ble_eq_true rfl) ⟨Nat.le_of_ble_eq_true rfl, Nat.le_of_ble_eq_true rfl⟩ dX8_node_9 (fun H locs hz hP hD hS => ?_)
  exact tSv (As := [.int 0]) S (c_X8_needArgument_0 l D cI cZ cJ o u hst ra ga H.size) ms_X8_needArgument kw_4_4 rfl rfl ⟨Nat.le_of_ble_eq_true rfl, Nat.le_of_ble_eq_true rfl⟩ hP hD hK hS hA hB hl.1 (Nat.le_of_ble_eq_true rfl) ⟨Nat.le_of_ble_eq_true rfl, Nat.le_of_ble_eq_true rfl⟩ dX8_node_12 hnt hlocks (Nat.le_of_ble_eq_true rfl) (Nat.le_of_ble_eq_true rfl)

set_option maxHeartbeats 8000000 in
set_option maxRecDepth 100000 in
theorem c_X5_suits_27 (l : Launch) (D : va_G) (cI cZ cJ : ClassId) (o : Nat) (u : Nat → Nat) (ra ga : Nat → Nat) (sz : Nat) (x2 : Int32) (x3 : Int32) (x4 : Int32) (hi_x2 : x2 ≤ (-1)) : Met l yX5_suits (uW yX5_suits cX5_suits 5 (some .boolean)) ({ frames := 2, cells := 0, slots := 0, locals := 42 }) (va_Pc [.ref (u 12), .int 11, .int x2, .int x3, .int x4] (aS ra ga D (tyL cI cZ cJ) (xW o u cI cZ cJ) sz)) (wQi (0) D (xW o u cI cZ cJ) (va_A (xW o u cI cZ cJ) sz)) 0 0 (va_A (xW o u cI cZ cJ) sz) := by
  refine aStart (lv := [(0, .ref (u 12)), (1, .int 11), (2, .int x2), (3, .int x3), (4, .int x4)]) (Qc := fun A => wQi (0) D (xW o u cI cZ cJ) A) (by decide) (Nat.le_of_ble_eq_true rfl) rfl ?_
  intro p e s m args below meth c ls A H S hr hlocks hnm hl hK hP hD hS hA hB
  have hx := S.1
  have hb := S.2.1
  refine lv_iload_n hx hb dX5_suits_0 rfl (lv_at hl 1 rfl) ?_
  refine lv_if_lt (tgt := 10) hx hb dX5_suits_1 (by decide) (fun c => absurd c (by decide)) (fun _ => ?_)
  refine lv_iload_n hx hb dX5_suits_4 rfl (lv_at hl 1 rfl) ?_
  refine lv_bipush (v := 21) hx hb dX5_suits_5 (by decide) ?_
  refine lv_icmp_le (tgt := 12) hx hb dX5_suits_7 (by decide) (fun _ => ?_) (fun c => absurd c (by decide))
  refine lv_aload_n hx hb dX5_suits_12 rfl (lv_at hl 0 rfl) ?_
  refine xgs S hB.z0 hS kw_3_91 rfl dX5_suits_13 ?_
  refine lv_iload_n hx hb dX5_suits_16 rfl (lv_at hl 1 rfl) ?_
  refine xti (v := 2) S hB.t0 hS (vin rfl) rfl dX5_suits_17 ?_
  refine lv_iload_n hx hb dX5_suits_18 rfl (lv_at hl 2 rfl) ?_
  refine aVi (As := [.int 2, .int x2]) (ci := 5) S (c_X5_fills_6 l D cI cZ cJ o u ra ga H.size x2 hi_x2) mi_X5_fills kw_6_31 rfl rfl ⟨Nat.le_of_ble_eq_true rfl, Nat.le_of_ble_eq_true rfl⟩ hP hD hK hS hA hB xW_13 rfl rfl hl.1 (Nat.le_of_ble_eq_true rfl) ⟨Nat.le_of_ble_eq_true rfl, Nat.le_of_ble_eq_true rfl⟩ dX5_suits_19 (fun H locs hz hP hD hS => ?_)
  refine lv_if_eq (tgt := 112) hx hb dX5_suits_22 (by decide) (fun _ => ?_) (fun c => absurd c (by decide))
  refine lv_iconst (v := 0) hx hb dX5_suits_112 (by decide) ?_
  exact wEndZ S hr hlocks hP hD hS (Nat.le_of_ble_eq_true rfl) (Nat.le_of_ble_eq_true rfl) dX5_suits_113 rfl rfl

set_option maxHeartbeats 8000000 in
set_option maxRecDepth 100000 in
theorem c_X5_suits_28 (l : Launch) (D : va_G) (cI cZ cJ : ClassId) (o : Nat) (u : Nat → Nat) (ra ga : Nat → Nat) (sz : Nat) (x2 : Int32) (x3 : Int32) (x4 : Int32) (lo_x2 : 16 ≤ x2) : Met l yX5_suits (uW yX5_suits cX5_suits 5 (some .boolean)) ({ frames := 2, cells := 0, slots := 0, locals := 42 }) (va_Pc [.ref (u 12), .int 11, .int x2, .int x3, .int x4] (aS ra ga D (tyL cI cZ cJ) (xW o u cI cZ cJ) sz)) (wQi (0) D (xW o u cI cZ cJ) (va_A (xW o u cI cZ cJ) sz)) 0 0 (va_A (xW o u cI cZ cJ) sz) := by
  refine aStart (lv := [(0, .ref (u 12)), (1, .int 11), (2, .int x2), (3, .int x3), (4, .int x4)]) (Qc := fun A => wQi (0) D (xW o u cI cZ cJ) A) (by decide) (Nat.le_of_ble_eq_true rfl) rfl ?_
  intro p e s m args below meth c ls A H S hr hlocks hnm hl hK hP hD hS hA hB
  have hx := S.1
  have hb := S.2.1
  refine lv_iload_n hx hb dX5_suits_0 rfl (lv_at hl 1 rfl) ?_
  refine lv_if_lt (tgt := 10) hx hb dX5_suits_1 (by decide) (fun c => absurd c (by decide)) (fun _ => ?_)
  refine lv_iload_n hx hb dX5_suits_4 rfl (lv_at hl 1 rfl) ?_
  refine lv_bipush (v := 21) hx hb dX5_suits_5 (by decide) ?_
  refine lv_icmp_le (tgt := 12) hx hb dX5_suits_7 (by decide) (fun _ => ?_) (fun c => absurd c (by decide))
  refine lv_aload_n hx hb dX5_suits_12 rfl (lv_at hl 0 rfl) ?_
  refine xgs S hB.z0 hS kw_3_91 rfl dX5_suits_13 ?_
  refine lv_iload_n hx hb dX5_suits_16 rfl (lv_at hl 1 rfl) ?_
  refine xti (v := 2) S hB.t0 hS (vin rfl) rfl dX5_suits_17 ?_
  refine lv_iload_n hx hb dX5_suits_18 rfl (lv_at hl 2 rfl) ?_
  refine aVi (As := [.int 2, .int x2]) (ci := 5) S (c_X5_fills_7 l D cI cZ cJ o u ra ga H.size x2 lo_x2) mi_X5_fills kw_6_31 rfl rfl ⟨Nat.le_of_ble_eq_true rfl, Nat.le_of_ble_eq_true rfl⟩ hP hD hK hS hA hB xW_13 rfl rfl hl.1 (Nat.le_of_ble_eq_true rfl) ⟨Nat.le_of_ble_eq_true rfl, Nat.le_of_ble_eq_true rfl⟩ dX5_suits_19 (fun H locs hz hP hD hS => ?_)
  refine lv_if_eq (tgt := 112) hx hb dX5_suits_22 (by decide) (fun _ => ?_) (fun c => absurd c (by decide))
  refine lv_iconst (v := 0) hx hb dX5_suits_112 (by decide) ?_
  exact wEndZ S hr hlocks hP hD hS (Nat.le_of_ble_eq_true rfl) (Nat.le_of_ble_eq_true rfl) dX5_suits_113 rfl rfl

set_option maxHeartbeats 8000000 in
set_option maxRecDepth 100000 in
theorem c_X5_suits_29 (l : Launch) (D : va_G) (cI cZ cJ : ClassId) (o : Nat) (u : Nat → Nat) (ra ga : Nat → Nat) (sz : Nat) (x2 : Int32) (lo_x2 : 0 ≤ x2) (hi_x2 : x2 ≤ 15) : Met l yX5_suits (uW yX5_suits cX5_suits 5 (some .boolean)) ({ frames := 2, cells := 0, slots := 0, locals := 42 }) (va_Pc [.ref (u 12), .int 11, .int x2, .int 0, .int 0] (aS ra ga D (tyL cI cZ cJ) (xW o u cI cZ cJ) sz)) (wQi (1) D (xW o u cI cZ cJ) (va_A (xW o u cI cZ cJ) sz)) 0 0 (va_A (xW o u cI cZ cJ) sz) := by
  refine aStart (lv := [(0, .ref (u 12)), (1, .int 11), (2, .int x2), (3, .int 0), (4, .int 0)]) (Qc := fun A => wQi (1) D (xW o u cI cZ cJ) A) (by decide) (Nat.le_of_ble_eq_true rfl) rfl ?_
  intro p e s m args below meth c ls A H S hr hlocks hnm hl hK hP hD hS hA hB
  have hx := S.1
  have hb := S.2.1
  refine lv_iload_n hx hb dX5_suits_0 rfl (lv_at hl 1 rfl) ?_
  refine lv_if_lt (tgt := 10) hx hb dX5_suits_1 (by decide) (fun c => absurd c (by decide)) (fun _ => ?_)
  refine lv_iload_n hx hb dX5_suits_4 rfl (lv_at hl 1 rfl) ?_
  refine lv_bipush (v := 21) hx hb dX5_suits_5 (by decide) ?_
  refine lv_icmp_le (tgt := 12) hx hb dX5_suits_7 (by decide) (fun _ => ?_) (fun c => absurd c (by decide))
  refine lv_aload_n hx hb dX5_suits_12 rfl (lv_at hl 0 rfl) ?_
  refine xgs S hB.z0 hS kw_3_91 rfl dX5_suits_13 ?_
  refine lv_iload_n hx hb dX5_suits_16 rfl (lv_at hl 1 rfl) ?_
  refine xti (v := 2) S hB.t0 hS (vin rfl) rfl dX5_suits_17 ?_
  refine lv_iload_n hx hb dX5_suits_18 rfl (lv_at hl 2 rfl) ?_
  refine aVi (As := [.int 2, .int x2]) (ci := 5) S (c_X5_fills_8 l D cI cZ cJ o u ra ga H.size x2 lo_x2 hi_x2) mi_X5_fills kw_6_31 rfl rfl ⟨Nat.le_of_ble_eq_true rfl, Nat.le_of_ble_eq_true rfl⟩ hP hD hK hS hA hB xW_13 rfl rfl hl.1 (Nat.le_of_ble_eq_true rfl) ⟨Nat.le_of_ble_eq_true rfl, Nat.le_of_ble_eq_true rfl⟩ dX5_suits_19 (fun H locs hz hP hD hS => ?_)
  refine lv_if_eq (tgt := 112) hx hb dX5_suits_22 (by decide) (fun c => absurd c (by decide)) (fun _ => ?_)
  refine lv_aload_n hx hb dX5_suits_25 rfl (lv_at hl 0 rfl) ?_
  refine xgs S hB.z1 hS kw_3_228 rfl dX5_suits_26 ?_
  refine lv_iload_n hx hb dX5_suits_29 rfl (lv_at hl 1 rfl) ?_
  refine xti (v := 0) S hB.t1 hS (vin rfl) rfl dX5_suits_30 ?_
  refine lv_iload_n hx hb dX5_suits_31 rfl (lv_at hl 3 rfl) ?_
  refine rdV (As := [.int 0, .int 0]) (ci := 5) S (c_X5_fills_3 l D cI cZ cJ o u) mi_X5_fills kw_6_31 ⟨rfl, rfl⟩ ⟨Nat.le_of_ble_eq_true rfl, Nat.le_of_ble_eq_true rfl⟩ hP hK xW_13 rfl rfl hl.1 (Nat.le_of_ble_eq_true rfl) ⟨Nat.le_of_ble_eq_true rfl, Nat.le_of_ble_eq_true rfl⟩ dX5_suits_32 ?_
  refine lv_if_eq (tgt := 112) hx hb dX5_suits_35 (by decide) (fun c => absurd c (by decide)) (fun _ => ?_)
  refine lv_aload_n hx hb dX5_suits_38 rfl (lv_at hl 0 rfl) ?_
  refine xgs S hB.z2 hS kw_3_222 rfl dX5_suits_39 ?_
  refine lv_iload_n hx hb dX5_suits_42 rfl (lv_at hl 1 rfl) ?_
  refine xti (v := 0) S hB.t2 hS (vin rfl) rfl dX5_suits_43 ?_
  refine lv_iload hx hb dX5_suits_44 (lv_at hl 4 rfl) ?_
  refine rdV (As := [.int 0, .int 0]) (ci := 5) S (c_X5_fills_3 l D cI cZ cJ o u) mi_X5_fills kw_6_31 ⟨rfl, rfl⟩ ⟨Nat.le_of_ble_eq_true rfl, Nat.le_of_ble_eq_true rfl⟩ hP hK xW_13 rfl rfl hl.1 (Nat.le_of_ble_eq_true rfl) ⟨Nat.le_of_ble_eq_true rfl, Nat.le_of_ble_eq_true rfl⟩ dX5_suits_46 ?_
  refine lv_if_eq (tgt := 112) hx hb dX5_suits_49 (by decide) (fun c => absurd c (by decide)) (fun _ => ?_)
  refine xgs S hB.z0 hS kw_3_91 rfl dX5_suits_52 ?_
  refine lv_iload_n hx hb dX5_suits_55 rfl (lv_at hl 1 rfl) ?_
  refine xti (v := 2) S hB.t0 hS (vin rfl) rfl dX5_suits_56 ?_
  refine lv_iload_n hx hb dX5_suits_57 rfl (lv_at hl 2 rfl) ?_
  refine xgs S hB.z1 hS kw_3_228 rfl dX5_suits_58 ?_
  refine lv_iload_n hx hb dX5_suits_61 rfl (lv_at hl 1 rfl) ?_
  refine xti (v := 0) S hB.t1 hS (vin rfl) rfl dX5_suits_62 ?_
  refine lv_iload_n hx hb dX5_suits_63 rfl (lv_at hl 3 rfl) ?_
  refine rdS (As := [.int 2, .int x2, .int 0, .int 0]) S (c_X5_isSamePart_2 l D cI cZ cJ o u x2 lo_x2 hi_x2) ms_X5_isSamePart kw_6_50 ⟨rfl, rfl⟩ ⟨Nat.le_of_ble_eq_true rfl, Nat.le_of_ble_eq_true rfl⟩ hP hK hl.1 (Nat.le_of_ble_eq_true rfl) ⟨Nat.le_of_ble_eq_true rfl, Nat.le_of_ble_eq_true rfl⟩ dX5_suits_64 ?_
  refine lv_if_ne (tgt := 112) hx hb dX5_suits_67 (by decide) (fun c => absurd c (by decide)) (fun _ => ?_)
  refine xgs S hB.z0 hS kw_3_91 rfl dX5_suits_70 ?_
  refine lv_iload_n hx hb dX5_suits_73 rfl (lv_at hl 1 rfl) ?_
  refine xti (v := 2) S hB.t0 hS (vin rfl) rfl dX5_suits_74 ?_
  refine lv_iload_n hx hb dX5_suits_75 rfl (lv_at hl 2 rfl) ?_
  refine xgs S hB.z2 hS kw_3_222 rfl dX5_suits_76 ?_
  refine lv_iload_n hx hb dX5_suits_79 rfl (lv_at hl 1 rfl) ?_
  refine xti (v := 0) S hB.t2 hS (vin rfl) rfl dX5_suits_80 ?_
  refine lv_iload hx hb dX5_suits_81 (lv_at hl 4 rfl) ?_
  refine rdS (As := [.int 2, .int x2, .int 0, .int 0]) S (c_X5_isSamePart_2 l D cI cZ cJ o u x2 lo_x2 hi_x2) ms_X5_isSamePart kw_6_50 ⟨rfl, rfl⟩ ⟨Nat.le_of_ble_eq_true rfl, Nat.le_of_ble_eq_true rfl⟩ hP hK hl.1 (Nat.le_of_ble_eq_true rfl) ⟨Nat.le_of_ble_eq_true rfl, Nat.le_of_ble_eq_true rfl⟩ dX5_suits_83 ?_
  refine lv_if_ne (tgt := 112) hx hb dX5_suits_86 (by decide) (fun c => absurd c (by decide)) (fun _ => ?_)
  refine xgs S hB.z1 hS kw_3_228 rfl dX5_suits_89 ?_
  refine lv_iload_n hx hb dX5_suits_92 rfl (lv_at hl 1 rfl) ?_
  refine xti (v := 0) S hB.t1 hS (vin rfl) rfl dX5_suits_93 ?_
  refine lv_iload_n hx hb dX5_suits_94 rfl (lv_at hl 3 rfl) ?_
  refine xgs S hB.z2 hS kw_3_222 rfl dX5_suits_95 ?_
  refine lv_iload_n hx hb dX5_suits_98 rfl (lv_at hl 1 rfl) ?_
  refine xti (v := 0) S hB.t2 hS (vin rfl) rfl dX5_suits_99 ?_
  refine lv_iload hx hb dX5_suits_100 (lv_at hl 4 rfl) ?_
  refine rdS (As := [.int 0, .int 0, .int 0, .int 0]) S (c_X5_isSamePart_1 l D cI cZ cJ o u) ms_X5_isSamePart kw_6_50 ⟨rfl, rfl⟩ ⟨Nat.le_of_ble_eq_true rfl, Nat.le_of_ble_eq_true rfl⟩ hP hK hl.1 (Nat.le_of_ble_eq_true rfl) ⟨Nat.le_of_ble_eq_true rfl, Nat.le_of_ble_eq_true rfl⟩ dX5_suits_102 ?_
  refine lv_if_ne (tgt := 112) hx hb dX5_suits_105 (by decide) (fun c => absurd c (by decide)) (fun _ => ?_)
  refine lv_iconst (v := 1) hx hb dX5_suits_108 (by decide) ?_
  refine lv_goto (tgt := 113) hx hb dX5_suits_109 (by decide) ?_
  exact wEndZ S hr hlocks hP hD hS (Nat.le_of_ble_eq_true rfl) (Nat.le_of_ble_eq_true rfl) dX5_suits_113 rfl rfl

set_option maxHeartbeats 8000000 in
set_option maxRecDepth 100000 in
theorem c_X5_partA_4 (l : Launch) (D : va_G) (cI cZ cJ : ClassId) (o : Nat) (u : Nat → Nat) (ra ga : Nat → Nat) (sz : Nat) (x2 : Int32) (lo_x2 : 0 ≤ x2) (hi_x2 : x2 ≤ 15) : Met l yX5_partA (uW yX5_partA cX5_partA 2 (some .int)) ({ frames := 0, cells := 0, slots := 0, locals := 0 }) (va_Pc [.ref (u 12), .int 0] (aS ra ga D (tyL cI cZ cJ) ((((((((xW o u cI cZ cJ).set 13 ((u 12), .inr (5, ([.int 0, .ref (u 13), .ref (u 14), .ref (u 15), .ref (u 16), .ref (u 17), .ref (u 18)].set 0 (.int 1))))).set 14 ((u 13), .inl (cI, 110, .inl (upd (fun _ => 0) (0 : Int32).toNatClampNeg 11)))).set 15 ((u 14), .inl (cI, 110, .inl (upd (fun _ => 0) (0 : Int32).toNatClampNeg x2)))).set 16 ((u 15), .inl (cI, 110, .inl (upd (fun _ => 0) (0 : Int32).toNatClampNeg 0)))).set 17 ((u 16), .inl (cI, 110, .inl (upd (fun _ => 0) (0 : Int32).toNatClampNeg 0)))).set 18 ((u 17), .inl (cI, 110, .inl (upd (fun _ => 0) (0 : Int32).toNatClampNeg (-1))))).set 19 ((u 18), .inl (cI, 110, .inl (upd (fun _ => 0) (0 : Int32).toNatClampNeg (-1))))) sz)) (wQi ((-1)) D ((((((((xW o u cI cZ cJ).set 13 ((u 12), .inr (5, ([.int 0, .ref (u 13), .ref (u 14), .ref (u 15), .ref (u 16), .ref (u 17), .ref (u 18)].set 0 (.int 1))))).set 14 ((u 13), .inl (cI, 110, .inl (upd (fun _ => 0) (0 : Int32).toNatClampNeg 11)))).set 15 ((u 14), .inl (cI, 110, .inl (upd (fun _ => 0) (0 : Int32).toNatClampNeg x2)))).set 16 ((u 15), .inl (cI, 110, .inl (upd (fun _ => 0) (0 : Int32).toNatClampNeg 0)))).set 17 ((u 16), .inl (cI, 110, .inl (upd (fun _ => 0) (0 : Int32).toNatClampNeg 0)))).set 18 ((u 17), .inl (cI, 110, .inl (upd (fun _ => 0) (0 : Int32).toNatClampNeg (-1))))).set 19 ((u 18), .inl (cI, 110, .inl (upd (fun _ => 0) (0 : Int32).toNatClampNeg (-1))))) (va_A ((((((((xW o u cI cZ cJ).set 13 ((u 12), .inr (5, ([.int 0, .ref (u 13), .ref (u 14), .ref (u 15), .ref (u 16), .ref (u 17), .ref (u 18)].set 0 (.int 1))))).set 14 ((u 13), .inl (cI, 110, .inl (upd (fun _ => 0) (0 : Int32).toNatClampNeg 11)))).set 15 ((u 14), .inl (cI, 110, .inl (upd (fun _ => 0) (0 : Int32).toNatClampNeg x2)))).set 16 ((u 15), .inl (cI, 110, .inl (upd (fun _ => 0) (0 : Int32).toNatClampNeg 0)))).set 17 ((u 16), .inl (cI, 110, .inl (upd (fun _ => 0) (0 : Int32).toNatClampNeg 0)))).set 18 ((u 17), .inl (cI, 110, .inl (upd (fun _ => 0) (0 : Int32).toNatClampNeg (-1))))).set 19 ((u 18), .inl (cI, 110, .inl (upd (fun _ => 0) (0 : Int32).toNatClampNeg (-1))))) sz)) 0 0 (va_A ((((((((xW o u cI cZ cJ).set 13 ((u 12), .inr (5, ([.int 0, .ref (u 13), .ref (u 14), .ref (u 15), .ref (u 16), .ref (u 17), .ref (u 18)].set 0 (.int 1))))).set 14 ((u 13), .inl (cI, 110, .inl (upd (fun _ => 0) (0 : Int32).toNatClampNeg 11)))).set 15 ((u 14), .inl (cI, 110, .inl (upd (fun _ => 0) (0 : Int32).toNatClampNeg x2)))).set 16 ((u 15), .inl (cI, 110, .inl (upd (fun _ => 0) (0 : Int32).toNatClampNeg 0)))).set 17 ((u 16), .inl (cI, 110, .inl (upd (fun _ => 0) (0 : Int32).toNatClampNeg 0)))).set 18 ((u 17), .inl (cI, 110, .inl (upd (fun _ => 0) (0 : Int32).toNatClampNeg (-1))))).set 19 ((u 18), .inl (cI, 110, .inl (upd (fun _ => 0) (0 : Int32).toNatClampNeg (-1))))) sz) := by
  refine aStart (lv := [(0, .ref (u 12)), (1, .int 0)]) (Qc := fun A => wQi ((-1)) D ((((((((xW o u cI cZ cJ).set 13 ((u 12), .inr (5, ([.int 0, .ref (u 13), .ref (u 14), .ref (u 15), .ref (u 16), .ref (u 17), .ref (u 18)].set 0 (.int 1))))).set 14 ((u 13), .inl (cI, 110, .inl (upd (fun _ => 0) (0 : Int32).toNatClampNeg 11)))).set 15 ((u 14), .inl (cI, 110, .inl (upd (fun _ => 0) (0 : Int32).toNatClampNeg x2)))).set 16 ((u 15), .inl (cI, 110, .inl (upd (fun _ => 0) (0 : Int32).toNatClampNeg 0)))).set 17 ((u 16), .inl (cI, 110, .inl (upd (fun _ => 0) (0 : Int32).toNatClampNeg 0)))).set 18 ((u 17), .inl (cI, 110, .inl (upd (fun _ => 0) (0 : Int32).toNatClampNeg (-1))))).set 19 ((u 18), .inl (cI, 110, .inl (upd (fun _ => 0) (0 : Int32).toNatClampNeg (-1))))) A) (by decide) (Nat.le_of_ble_eq_true rfl) rfl ?_
  intro p e s m args below meth c ls A H S hr hlocks hnm hl hK hP hD hS hA hB
  have hx := S.1
  have hb := S.2.1
  refine xgs S hB.z0 hS kw_3_91 rfl dX5_partA_0 ?_
  refine lv_aload_n hx hb dX5_partA_3 rfl (lv_at hl 0 rfl) ?_
  refine xg (ci := 5) S inX5 rfl hK hP (q0 := 13) rfl 1 (by decide) rfl kw_1_111 rfl dX5_partA_4 ?_
  refine lv_iload_n hx hb dX5_partA_7 rfl (lv_at hl 1 rfl) ?_
  refine xiald (t0 := 0) (v := 11) S hK hP (q0 := 14) rfl rfl (vin rfl) rfl dX5_partA_8 ?_
  refine xti (v := 2) S hB.t0 hS (vin rfl) rfl dX5_partA_9 ?_
  refine lv_iconst (v := 4) hx hb dX5_partA_10 (by decide) ?_
  refine lv_icmp_lt (tgt := 23) hx hb dX5_partA_11 (by decide) (fun _ => ?_) (fun c => absurd c (by decide))
  refine lv_iconst (v := (-1)) hx hb dX5_partA_23 (by decide) ?_
  exact wEnd S hr hlocks hP hD hS (Nat.le_of_ble_eq_true rfl) (Nat.le_of_ble_eq_true rfl) dX5_partA_24 rfl

set_option maxHeartbeats 8000000 in
set_option maxRecDepth 100000 in
theorem c_X5_claim_4 (l : Launch) (D : va_G) (cI cZ cJ : ClassId) (o : Nat) (u : Nat → Nat) (ra ga : Nat → Nat) (sz : Nat) (x2 : Int32) (lo_x2 : 0 ≤ x2) (hi_x2 : x2 ≤ 15) : Met l yX5_claim (uW yX5_claim cX5_claim 3 none) ({ frames := 0, cells := 0, slots := 0, locals := 0 }) (va_Pc [.ref (u 12), .int (-1), .int 0] (aS ra ga D (tyL cI cZ cJ) ((((((((xW o u cI cZ cJ).set 13 ((u 12), .inr (5, ([.int 0, .ref (u 13), .ref (u 14), .ref (u 15), .ref (u 16), .ref (u 17), .ref (u 18)].set 0 (.int 1))))).set 14 ((u 13), .inl (cI, 110, .inl (upd (fun _ => 0) (0 : Int32).toNatClampNeg 11)))).set 15 ((u 14), .inl (cI, 110, .inl (upd (fun _ => 0) (0 : Int32).toNatClampNeg x2)))).set 16 ((u 15), .inl (cI, 110, .inl (upd (fun _ => 0) (0 : Int32).toNatClampNeg 0)))).set 17 ((u 16), .inl (cI, 110, .inl (upd (fun _ => 0) (0 : Int32).toNatClampNeg 0)))).set 18 ((u 17), .inl (cI, 110, .inl (upd (fun _ => 0) (0 : Int32).toNatClampNeg (-1))))).set 19 ((u 18), .inl (cI, 110, .inl (upd (fun _ => 0) (0 : Int32).toNatClampNeg (-1))))) sz)) (wQv D ((((((((xW o u cI cZ cJ).set 13 ((u 12), .inr (5, ([.int 0, .ref (u 13), .ref (u 14), .ref (u 15), .ref (u 16), .ref (u 17), .ref (u 18)].set 0 (.int 1))))).set 14 ((u 13), .inl (cI, 110, .inl (upd (fun _ => 0) (0 : Int32).toNatClampNeg 11)))).set 15 ((u 14), .inl (cI, 110, .inl (upd (fun _ => 0) (0 : Int32).toNatClampNeg x2)))).set 16 ((u 15), .inl (cI, 110, .inl (upd (fun _ => 0) (0 : Int32).toNatClampNeg 0)))).set 17 ((u 16), .inl (cI, 110, .inl (upd (fun _ => 0) (0 : Int32).toNatClampNeg 0)))).set 18 ((u 17), .inl (cI, 110, .inl (upd (fun _ => 0) (0 : Int32).toNatClampNeg (-1))))).set 19 ((u 18), .inl (cI, 110, .inl (upd (fun _ => 0) (0 : Int32).toNatClampNeg (-1))))) (va_A ((((((((xW o u cI cZ cJ).set 13 ((u 12), .inr (5, ([.int 0, .ref (u 13), .ref (u 14), .ref (u 15), .ref (u 16), .ref (u 17), .ref (u 18)].set 0 (.int 1))))).set 14 ((u 13), .inl (cI, 110, .inl (upd (fun _ => 0) (0 : Int32).toNatClampNeg 11)))).set 15 ((u 14), .inl (cI, 110, .inl (upd (fun _ => 0) (0 : Int32).toNatClampNeg x2)))).set 16 ((u 15), .inl (cI, 110, .inl (upd (fun _ => 0) (0 : Int32).toNatClampNeg 0)))).set 17 ((u 16), .inl (cI, 110, .inl (upd (fun _ => 0) (0 : Int32).toNatClampNeg 0)))).set 18 ((u 17), .inl (cI, 110, .inl (upd (fun _ => 0) (0 : Int32).toNatClampNeg (-1))))).set 19 ((u 18), .inl (cI, 110, .inl (upd (fun _ => 0) (0 : Int32).toNatClampNeg (-1))))) sz)) 0 0 (va_A ((((((((xW o u cI cZ cJ).set 13 ((u 12), .inr (5, ([.int 0, .ref (u 13), .ref (u 14), .ref (u 15), .ref (u 16), .ref (u 17), .ref (u 18)].set 0 (.int 1))))).set 14 ((u 13), .inl (cI, 110, .inl (upd (fun _ => 0) (0 : Int32).toNatClampNeg 11)))).set 15 ((u 14), .inl (cI, 110, .inl (upd (fun _ => 0) (0 : Int32).toNatClampNeg x2)))).set 16 ((u 15), .inl (cI, 110, .inl (upd (fun _ => 0) (0 : Int32).toNatClampNeg 0)))).set 17 ((u 16), .inl (cI, 110, .inl (upd (fun _ => 0) (0 : Int32).toNatClampNeg 0)))).set 18 ((u 17), .inl (cI, 110, .inl (upd (fun _ => 0) (0 : Int32).toNatClampNeg (-1))))).set 19 ((u 18), .inl (cI, 110, .inl (upd (fun _ => 0) (0 : Int32).toNatClampNeg (-1))))) sz) := by
  refine aStart (lv := [(0, .ref (u 12)), (1, .int (-1)), (2, .int 0)]) (Qc := fun A => wQv D ((((((((xW o u cI cZ cJ).set 13 ((u 12), .inr (5, ([.int 0, .ref (u 13), .ref (u 14), .ref (u 15), .ref (u 16), .ref (u 17), .ref (u 18)].set 0 (.int 1))))).set 14 ((u 13), .inl (cI, 110, .inl (upd (fun _ => 0) (0 : Int32).toNatClampNeg 11)))).set 15 ((u 14), .inl (cI, 110, .inl (upd (fun _ => 0) (0 : Int32).toNatClampNeg x2)))).set 16 ((u 15), .inl (cI, 110, .inl (upd (fun _ => 0) (0 : Int32).toNatClampNeg 0)))).set 17 ((u 16), .inl (cI, 110, .inl (upd (fun _ => 0) (0 : Int32).toNatClampNeg 0)))).set 18 ((u 17), .inl (cI, 110, .inl (upd (fun _ => 0) (0 : Int32).toNatClampNeg (-1))))).set 19 ((u 18), .inl (cI, 110, .inl (upd (fun _ => 0) (0 : Int32).toNatClampNeg (-1))))) A) (by decide) (Nat.le_of_ble_eq_true rfl) rfl ?_
  intro p e s m args below meth c ls A H S hr hlocks hnm hl hK hP hD hS hA hB
  have hx := S.1
  have hb := S.2.1
  refine lv_iload_n hx hb dX5_claim_0 rfl (lv_at hl 1 rfl) ?_
  refine lv_iconst (v := (-1)) hx hb dX5_claim_1 (by decide) ?_
  refine lv_icmp_eq (tgt := 12) hx hb dX5_claim_2 (by decide) (fun _ => ?_) (fun c => absurd c (by decide))
  exact wEndv S hr hlocks hP hD hS (Nat.le_of_ble_eq_true rfl) (Nat.le_of_ble_eq_true rfl) dX5_claim_12

set_option maxHeartbeats 8000000 in
set_option maxRecDepth 100000 in
theorem c_X5_partB_4 (l : Launch) (D : va_G) (cI cZ cJ : ClassId) (o : Nat) (u : Nat → Nat) (ra ga : Nat → Nat) (sz : Nat) (x2 : Int32) (lo_x2 : 0 ≤ x2) (hi_x2 : x2 ≤ 15) : Met l yX5_partB (uW yX5_partB cX5_partB 2 (some .int)) ({ frames := 0, cells := 0, slots := 0, locals := 0 }) (va_Pc [.ref (u 12), .int 0] (aS ra ga D (tyL cI cZ cJ) ((((((((xW o u cI cZ cJ).set 13 ((u 12), .inr (5, ([.int 0, .ref (u 13), .ref (u 14), .ref (u 15), .ref (u 16), .ref (u 17), .ref (u 18)].set 0 (.int 1))))).set 14 ((u 13), .inl (cI, 110, .inl (upd (fun _ => 0) (0 : Int32).toNatClampNeg 11)))).set 15 ((u 14), .inl (cI, 110, .inl (upd (fun _ => 0) (0 : Int32).toNatClampNeg x2)))).set 16 ((u 15), .inl (cI, 110, .inl (upd (fun _ => 0) (0 : Int32).toNatClampNeg 0)))).set 17 ((u 16), .inl (cI, 110, .inl (upd (fun _ => 0) (0 : Int32).toNatClampNeg 0)))).set 18 ((u 17), .inl (cI, 110, .inl (upd (fun _ => 0) (0 : Int32).toNatClampNeg (-1))))).set 19 ((u 18), .inl (cI, 110, .inl (upd (fun _ => 0) (0 : Int32).toNatClampNeg (-1))))) sz)) (wQi ((-1)) D ((((((((xW o u cI cZ cJ).set 13 ((u 12), .inr (5, ([.int 0, .ref (u 13), .ref (u 14), .ref (u 15), .ref (u 16), .ref (u 17), .ref (u 18)].set 0 (.int 1))))).set 14 ((u 13), .inl (cI, 110, .inl (upd (fun _ => 0) (0 : Int32).toNatClampNeg 11)))).set 15 ((u 14), .inl (cI, 110, .inl (upd (fun _ => 0) (0 : Int32).toNatClampNeg x2)))).set 16 ((u 15), .inl (cI, 110, .inl (upd (fun _ => 0) (0 : Int32).toNatClampNeg 0)))).set 17 ((u 16), .inl (cI, 110, .inl (upd (fun _ => 0) (0 : Int32).toNatClampNeg 0)))).set 18 ((u 17), .inl (cI, 110, .inl (upd (fun _ => 0) (0 : Int32).toNatClampNeg (-1))))).set 19 ((u 18), .inl (cI, 110, .inl (upd (fun _ => 0) (0 : Int32).toNatClampNeg (-1))))) (va_A ((((((((xW o u cI cZ cJ).set 13 ((u 12), .inr (5, ([.int 0, .ref (u 13), .ref (u 14), .ref (u 15), .ref (u 16), .ref (u 17), .ref (u 18)].set 0 (.int 1))))).set 14 ((u 13), .inl (cI, 110, .inl (upd (fun _ => 0) (0 : Int32).toNatClampNeg 11)))).set 15 ((u 14), .inl (cI, 110, .inl (upd (fun _ => 0) (0 : Int32).toNatClampNeg x2)))).set 16 ((u 15), .inl (cI, 110, .inl (upd (fun _ => 0) (0 : Int32).toNatClampNeg 0)))).set 17 ((u 16), .inl (cI, 110, .inl (upd (fun _ => 0) (0 : Int32).toNatClampNeg 0)))).set 18 ((u 17), .inl (cI, 110, .inl (upd (fun _ => 0) (0 : Int32).toNatClampNeg (-1))))).set 19 ((u 18), .inl (cI, 110, .inl (upd (fun _ => 0) (0 : Int32).toNatClampNeg (-1))))) sz)) 0 0 (va_A ((((((((xW o u cI cZ cJ).set 13 ((u 12), .inr (5, ([.int 0, .ref (u 13), .ref (u 14), .ref (u 15), .ref (u 16), .ref (u 17), .ref (u 18)].set 0 (.int 1))))).set 14 ((u 13), .inl (cI, 110, .inl (upd (fun _ => 0) (0 : Int32).toNatClampNeg 11)))).set 15 ((u 14), .inl (cI, 110, .inl (upd (fun _ => 0) (0 : Int32).toNatClampNeg x2)))).set 16 ((u 15), .inl (cI, 110, .inl (upd (fun _ => 0) (0 : Int32).toNatClampNeg 0)))).set 17 ((u 16), .inl (cI, 110, .inl (upd (fun _ => 0) (0 : Int32).toNatClampNeg 0)))).set 18 ((u 17), .inl (cI, 110, .inl (upd (fun _ => 0) (0 : Int32).toNatClampNeg (-1))))).set 19 ((u 18), .inl (cI, 110, .inl (upd (fun _ => 0) (0 : Int32).toNatClampNeg (-1))))) sz) := by
  refine aStart (lv := [(0, .ref (u 12)), (1, .int 0)]) (Qc := fun A => wQi ((-1)) D ((((((((xW o u cI cZ cJ).set 13 ((u 12), .inr (5, ([.int 0, .ref (u 13), .ref (u 14), .ref (u 15), .ref (u 16), .ref (u 17), .ref (u 18)].set 0 (.int 1))))).set 14 ((u 13), .inl (cI, 110, .inl (upd (fun _ => 0) (0 : Int32).toNatClampNeg 11)))).set 15 ((u 14), .inl (cI, 110, .inl (upd (fun _ => 0) (0 : Int32).toNatClampNeg x2)))).set 16 ((u 15), .inl (cI, 110, .inl (upd (fun _ => 0) (0 : Int32).toNatClampNeg 0)))).set 17 ((u 16), .inl (cI, 110, .inl (upd (fun _ => 0) (0 : Int32).toNatClampNeg 0)))).set 18 ((u 17), .inl (cI, 110, .inl (upd (fun _ => 0) (0 : Int32).toNatClampNeg (-1))))).set 19 ((u 18), .inl (cI, 110, .inl (upd (fun _ => 0) (0 : Int32).toNatClampNeg (-1))))) A) (by decide) (Nat.le_of_ble_eq_true rfl) rfl ?_
  intro p e s m args below meth c ls A H S hr hlocks hnm hl hK hP hD hS hA hB
  have hx := S.1
  have hb := S.2.1
  refine xgs S hB.z1 hS kw_3_228 rfl dX5_partB_0 ?_
  refine lv_aload_n hx hb dX5_partB_3 rfl (lv_at hl 0 rfl) ?_
  refine xg (ci := 5) S inX5 rfl hK hP (q0 := 13) rfl 1 (by decide) rfl kw_1_111 rfl dX5_partB_4 ?_
  refine lv_iload_n hx hb dX5_partB_7 rfl (lv_at hl 1 rfl) ?_
  refine xiald (t0 := 0) (v := 11) S hK hP (q0 := 14) rfl rfl (vin rfl) rfl dX5_partB_8 ?_
  refine xti (v := 0) S hB.t1 hS (vin rfl) rfl dX5_partB_9 ?_
  refine lv_iconst (v := 4) hx hb dX5_partB_10 (by decide) ?_
  refine lv_icmp_lt (tgt := 23) hx hb dX5_partB_11 (by decide) (fun _ => ?_) (fun c => absurd c (by decide))
  refine lv_iconst (v := (-1)) hx hb dX5_partB_23 (by decide) ?_
  exact wEnd S hr hlocks hP hD hS (Nat.le_of_ble_eq_true rfl) (Nat.le_of_ble_eq_true rfl) dX5_partB_24 rfl

set_option maxHeartbeats 8000000 in
set_option maxRecDepth 100000 in
theorem c_X5_partC_4 (l : Launch) (D : va_G) (cI cZ cJ : ClassId) (o : Nat) (u : Nat → Nat) (ra ga : Nat → Nat) (sz : Nat) (x2 : Int32) (lo_x2 : 0 ≤ x2) (hi_x2 : x2 ≤ 15) : Met l yX5_partC (uW yX5_partC cX5_partC 2 (some .int)) ({ frames := 0, cells := 0, slots := 0, locals := 0 }) (va_Pc [.ref (u 12), .int 0] (aS ra ga D (tyL cI cZ cJ) ((((((((xW o u cI cZ cJ).set 13 ((u 12), .inr (5, ([.int 0, .ref (u 13), .ref (u 14), .ref (u 15), .ref (u 16), .ref (u 17), .ref (u 18)].set 0 (.int 1))))).set 14 ((u 13), .inl (cI, 110, .inl (upd (fun _ => 0) (0 : Int32).toNatClampNeg 11)))).set 15 ((u 14), .inl (cI, 110, .inl (upd (fun _ => 0) (0 : Int32).toNatClampNeg x2)))).set 16 ((u 15), .inl (cI, 110, .inl (upd (fun _ => 0) (0 : Int32).toNatClampNeg 0)))).set 17 ((u 16), .inl (cI, 110, .inl (upd (fun _ => 0) (0 : Int32).toNatClampNeg 0)))).set 18 ((u 17), .inl (cI, 110, .inl (upd (fun _ => 0) (0 : Int32).toNatClampNeg (-1))))).set 19 ((u 18), .inl (cI, 110, .inl (upd (fun _ => 0) (0 : Int32).toNatClampNeg (-1))))) sz)) (wQi ((-1)) D ((((((((xW o u cI cZ cJ).set 13 ((u 12), .inr (5, ([.int 0, .ref (u 13), .ref (u 14), .ref (u 15), .ref (u 16), .ref (u 17), .ref (u 18)].set 0 (.int 1))))).set 14 ((u 13), .inl (cI, 110, .inl (upd (fun _ => 0) (0 : Int32).toNatClampNeg 11)))).set 15 ((u 14), .inl (cI, 110, .inl (upd (fun _ => 0) (0 : Int32).toNatClampNeg x2)))).set 16 ((u 15), .inl (cI, 110, .inl (upd (fun _ => 0) (0 : Int32).toNatClampNeg 0)))).set 17 ((u 16), .inl (cI, 110, .inl (upd (fun _ => 0) (0 : Int32).toNatClampNeg 0)))).set 18 ((u 17), .inl (cI, 110, .inl (upd (fun _ => 0) (0 : Int32).toNatClampNeg (-1))))).set 19 ((u 18), .inl (cI, 110, .inl (upd (fun _ => 0) (0 : Int32).toNatClampNeg (-1))))) (va_A ((((((((xW o u cI cZ cJ).set 13 ((u 12), .inr (5, ([.int 0, .ref (u 13), .ref (u 14), .ref (u 15), .ref (u 16), .ref (u 17), .ref (u 18)].set 0 (.int 1))))).set 14 ((u 13), .inl (cI, 110, .inl (upd (fun _ => 0) (0 : Int32).toNatClampNeg 11)))).set 15 ((u 14), .inl (cI, 110, .inl (upd (fun _ => 0) (0 : Int32).toNatClampNeg x2)))).set 16 ((u 15), .inl (cI, 110, .inl (upd (fun _ => 0) (0 : Int32).toNatClampNeg 0)))).set 17 ((u 16), .inl (cI, 110, .inl (upd (fun _ => 0) (0 : Int32).toNatClampNeg 0)))).set 18 ((u 17), .inl (cI, 110, .inl (upd (fun _ => 0) (0 : Int32).toNatClampNeg (-1))))).set 19 ((u 18), .inl (cI, 110, .inl (upd (fun _ => 0) (0 : Int32).toNatClampNeg (-1))))) sz)) 0 0 (va_A ((((((((xW o u cI cZ cJ).set 13 ((u 12), .inr (5, ([.int 0, .ref (u 13), .ref (u 14), .ref (u 15), .ref (u 16), .ref (u 17), .ref (u 18)].set 0 (.int 1))))).set 14 ((u 13), .inl (cI, 110, .inl (upd (fun _ => 0) (0 : Int32).toNatClampNeg 11)))).set 15 ((u 14), .inl (cI, 110, .inl (upd (fun _ => 0) (0 : Int32).toNatClampNeg x2)))).set 16 ((u 15), .inl (cI, 110, .inl (upd (fun _ => 0) (0 : Int32).toNatClampNeg 0)))).set 17 ((u 16), .inl (cI, 110, .inl (upd (fun _ => 0) (0 : Int32).toNatClampNeg 0)))).set 18 ((u 17), .inl (cI, 110, .inl (upd (fun _ => 0) (0 : Int32).toNatClampNeg (-1))))).set 19 ((u 18), .inl (cI, 110, .inl (upd (fun _ => 0) (0 : Int32).toNatClampNeg (-1))))) sz) := by
  refine aStart (lv := [(0, .ref (u 12)), (1, .int 0)]) (Qc := fun A => wQi ((-1)) D ((((((((xW o u cI cZ cJ).set 13 ((u 12), .inr (5, ([.int 0, .ref (u 13), .ref (u 14), .ref (u 15), .ref (u 16), .ref (u 17), .ref (u 18)].set 0 (.int 1))))).set 14 ((u 13), .inl (cI, 110, .inl (upd (fun _ => 0) (0 : Int32).toNatClampNeg 11)))).set 15 ((u 14), .inl (cI, 110, .inl (upd (fun _ => 0) (0 : Int32).toNatClampNeg x2)))).set 16 ((u 15), .inl (cI, 110, .inl (upd (fun _ => 0) (0 : Int32).toNatClampNeg 0)))).set 17 ((u 16), .inl (cI, 110, .inl (upd (fun _ => 0) (0 : Int32).toNatClampNeg 0)))).set 18 ((u 17), .inl (cI, 110, .inl (upd (fun _ => 0) (0 : Int32).toNatClampNeg (-1))))).set 19 ((u 18), .inl (cI, 110, .inl (upd (fun _ => 0) (0 : Int32).toNatClampNeg (-1))))) A) (by decide) (Nat.le_of_ble_eq_true rfl) rfl ?_
  intro p e s m args below meth c ls A H S hr hlocks hnm hl hK hP hD hS hA hB
  have hx := S.1
  have hb := S.2.1
  refine xgs S hB.z2 hS kw_3_222 rfl dX5_partC_0 ?_
  refine lv_aload_n hx hb dX5_partC_3 rfl (lv_at hl 0 rfl) ?_
  refine xg (ci := 5) S inX5 rfl hK hP (q0 := 13) rfl 1 (by decide) rfl kw_1_111 rfl dX5_partC_4 ?_
  refine lv_iload_n hx hb dX5_partC_7 rfl (lv_at hl 1 rfl) ?_
  refine xiald (t0 := 0) (v := 11) S hK hP (q0 := 14) rfl rfl (vin rfl) rfl dX5_partC_8 ?_
  refine xti (v := 0) S hB.t2 hS (vin rfl) rfl dX5_partC_9 ?_
  refine lv_iconst (v := 4) hx hb dX5_partC_10 (by decide) ?_
  refine lv_icmp_lt (tgt := 23) hx hb dX5_partC_11 (by decide) (fun _ => ?_) (fun c => absurd c (by decide))
  refine lv_iconst (v := (-1)) hx hb dX5_partC_23 (by decide) ?_
  exact wEnd S hr hlocks hP hD hS (Nat.le_of_ble_eq_true rfl) (Nat.le_of_ble_eq_true rfl) dX5_partC_24 rfl

set_option maxHeartbeats 8000000 in
set_option maxRecDepth 100000 in
theorem c_X5_add_4 (l : Launch) (D : va_G) (cI cZ cJ : ClassId) (o : Nat) (u : Nat → Nat) (ra ga : Nat → Nat) (sz : Nat) (x2 : Int32) (lo_x2 : 0 ≤ x2) (hi_x2 : x2 ≤ 15) : Met l yX5_add (uW yX5_add cX5_add 6 (some .int)) ({ frames := 1, cells := 0, slots := 0, locals := 22 }) (va_Pc [.ref (u 12), .int 11, .int x2, .int 0, .int 0] (aS ra ga D (tyL cI cZ cJ) (xW o u cI cZ cJ) sz)) (wQi (0) D ((((((((xW o u cI cZ cJ).set 13 ((u 12), .inr (5, ([.int 0, .ref (u 13), .ref (u 14), .ref (u 15), .ref (u 16), .ref (u 17), .ref (u 18)].set 0 (.int 1))))).set 14 ((u 13), .inl (cI, 110, .inl (upd (fun _ => 0) (0 : Int32).toNatClampNeg 11)))).set 15 ((u 14), .inl (cI, 110, .inl (upd (fun _ => 0) (0 : Int32).toNatClampNeg x2)))).set 16 ((u 15), .inl (cI, 110, .inl (upd (fun _ => 0) (0 : Int32).toNatClampNeg 0)))).set 17 ((u 16), .inl (cI, 110, .inl (upd (fun _ => 0) (0 : Int32).toNatClampNeg 0)))).set 18 ((u 17), .inl (cI, 110, .inl (upd (fun _ => 0) (0 : Int32).toNatClampNeg (-1))))).set 19 ((u 18), .inl (cI, 110, .inl (upd (fun _ => 0) (0 : Int32).toNatClampNeg (-1))))) (va_A (xW o u cI cZ cJ) sz)) 0 0 (va_A (xW o u cI cZ cJ) sz) := by
  refine aStart (lv := [(0, .ref (u 12)), (1, .int 11), (2, .int x2), (3, .int 0), (4, .int 0)]) (Qc := fun A => wQi (0) D ((((((((xW o u cI cZ cJ).set 13 ((u 12), .inr (5, ([.int 0, .ref (u 13), .ref (u 14), .ref (u 15), .ref (u 16), .ref (u 17), .ref (u 18)].set 0 (.int 1))))).set 14 ((u 13), .inl (cI, 110, .inl (upd (fun _ => 0) (0 : Int32).toNatClampNeg 11)))).set 15 ((u 14), .inl (cI, 110, .inl (upd (fun _ => 0) (0 : Int32).toNatClampNeg x2)))).set 16 ((u 15), .inl (cI, 110, .inl (upd (fun _ => 0) (0 : Int32).toNatClampNeg 0)))).set 17 ((u 16), .inl (cI, 110, .inl (upd (fun _ => 0) (0 : Int32).toNatClampNeg 0)))).set 18 ((u 17), .inl (cI, 110, .inl (upd (fun _ => 0) (0 : Int32).toNatClampNeg (-1))))).set 19 ((u 18), .inl (cI, 110, .inl (upd (fun _ => 0) (0 : Int32).toNatClampNeg (-1))))) A) (by decide) (Nat.le_of_ble_eq_true rfl) rfl ?_
  intro p e s m args below meth c ls A H S hr hlocks hnm hl hK hP hD hS hA hB
  have hx := S.1
  have hb := S.2.1
  refine lv_aload_n hx hb dX5_add_0 rfl (lv_at hl 0 rfl) ?_
  refine xg (ci := 5) S inX5 rfl hK hP xW_13 0 (by decide) rfl kw_1_107 rfl dX5_add_1 ?_
  refine lv_istore (lv' := [(5, .int 0), (0, .ref (u 12)), (1, .int 11), (2, .int x2), (3, .int 0), (4, .int 0)]) hx hb dX5_add_4 hl (by decide) rfl (fun ls hl => ?_)
  refine lv_aload_n hx hb dX5_add_6 rfl (lv_at hl 1 rfl) ?_
  refine lv_dup hx hb dX5_add_7 rfl ?_
  refine xg (ci := 5) S inX5 rfl hK hP xW_13 0 (by decide) rfl kw_1_107 rfl dX5_add_8 ?_
  refine lv_iconst (v := 1) hx hb dX5_add_11 (by decide) ?_
  refine xiadd (v := 1) S dX5_add_12 (by decide) ?_
  refine xp (ci := 5) (v := .int 1) S inX5 tyX5 tyX5_ok nmX5 rfl hK hP hD hS xW_13 0 (by decide) kw_1_107 rfl rfl rfl rfl (Nat.le_of_ble_eq_true rfl) dX5_add_13 (fun H locs hP hD hS => ?_)
  have hP : va_P D vwCl ((xW o u cI cZ cJ).set 13 ((u 12), .inr (5, ([.int 0, .ref (u 13), .ref (u 14), .ref (u 15), .ref (u 16), .ref (u 17), .ref (u 18)].set 0 (.int 1))))) H := hP
  have hD : va_D A ((xW o u cI cZ cJ).set 13 ((u 12), .inr (5, ([.int 0, .ref (u 13), .ref (u 14), .ref (u 15), .ref (u 16), .ref (u 17), .ref (u 18)].set 0 (.int 1))))) := hD
  refine lv_aload_n hx hb dX5_add_16 rfl (lv_at hl 1 rfl) ?_
  refine xg (ci := 5) S inX5 rfl hK hP (q0 := 13) rfl 1 (by decide) rfl kw_1_111 rfl dX5_add_17 ?_
  refine lv_iload hx hb dX5_add_20 (lv_at hl 0 rfl) ?_
  refine lv_iload_n hx hb dX5_add_22 rfl (lv_at hl 2 rfl) ?_
  refine xiast (t0 := 0) S hK hP hD hS (q0 := 14) rfl rfl (vin rfl) dX5_add_23 (fun H locs hP hD hS => ?_)
  have hP : va_P D vwCl (((xW o u cI cZ cJ).set 13 ((u 12), .inr (5, ([.int 0, .ref (u 13), .ref (u 14), .ref (u 15), .ref (u 16), .ref (u 17), .ref (u 18)].set 0 (.int 1))))).set 14 ((u 13), .inl (cI, 110, .inl (upd (fun _ => 0) (0 : Int32).toNatClampNeg 11)))) H := hP
  have hD : va_D A (((xW o u cI cZ cJ).set 13 ((u 12), .inr (5, ([.int 0, .ref (u 13), .ref (u 14), .ref (u 15), .ref (u 16), .ref (u 17), .ref (u 18)].set 0 (.int 1))))).set 14 ((u 13), .inl (cI, 110, .inl (upd (fun _ => 0) (0 : Int32).toNatClampNeg 11)))) := hD
  refine lv_aload_n hx hb dX5_add_24 rfl (lv_at hl 1 rfl) ?_
  refine xg (ci := 5) S inX5 rfl hK hP (q0 := 13) rfl 2 (by decide) rfl kw_1_116 rfl dX5_add_25 ?_
  refine lv_iload hx hb dX5_add_28 (lv_at hl 0 rfl) ?_
  refine lv_iload_n hx hb dX5_add_30 rfl (lv_at hl 3 rfl) ?_
  refine xiast (t0 := 0) S hK hP hD hS (q0 := 15) rfl rfl (vin rfl) dX5_add_31 (fun H locs hP hD hS => ?_)
  have hP : va_P D vwCl ((((xW o u cI cZ cJ).set 13 ((u 12), .inr (5, ([.int 0, .ref (u 13), .ref (u 14), .ref (u 15), .ref (u 16), .ref (u 17), .ref (u 18)].set 0 (.int 1))))).set 14 ((u 13), .inl (cI, 110, .inl (upd (fun _ => 0) (0 : Int32).toNatClampNeg 11)))).set 15 ((u 14), .inl (cI, 110, .inl (upd (fun _ => 0) (0 : Int32).toNatClampNeg x2)))) H := hP
  have hD : va_D A ((((xW o u cI cZ cJ).set 13 ((u 12), .inr (5, ([.int 0, .ref (u 13), .ref (u 14), .ref (u 15), .ref (u 16), .ref (u 17), .ref (u 18)].set 0 (.int 1))))).set 14 ((u 13), .inl (cI, 110, .inl (upd (fun _ => 0) (0 : Int32).toNatClampNeg 11)))).set 15 ((u 14), .inl (cI, 110, .inl (upd (fun _ => 0) (0 : Int32).toNatClampNeg x2)))) := hD
  refine lv_aload_n hx hb dX5_add_32 rfl (lv_at hl 1 rfl) ?_
  refine xg (ci := 5) S inX5 rfl hK hP (q0 := 13) rfl 3 (by decide) rfl kw_1_120 rfl dX5_add_33 ?_
  refine lv_iload hx hb dX5_add_36 (lv_at hl 0 rfl) ?_
  refine lv_iload_n hx hb dX5_add_38 rfl (lv_at hl 4 rfl) ?_
  refine xiast (t0 := 0) S hK hP hD hS (q0 := 16) rfl rfl (vin rfl) dX5_add_39 (fun H locs hP hD hS => ?_)
  have hP : va_P D vwCl (((((xW o u cI cZ cJ).set 13 ((u 12), .inr (5, ([.int 0, .ref (u 13), .ref (u 14), .ref (u 15), .ref (u 16), .ref (u 17), .ref (u 18)].set 0 (.int 1))))).set 14 ((u 13), .inl (cI, 110, .inl (upd (fun _ => 0) (0 : Int32).toNatClampNeg 11)))).set 15 ((u 14), .inl (cI, 110, .inl (upd (fun _ => 0) (0 : Int32).toNatClampNeg x2)))).set 16 ((u 15), .inl (cI, 110, .inl (upd (fun _ => 0) (0 : Int32).toNatClampNeg 0)))) H := hP
  have hD : va_D A (((((xW o u cI cZ cJ).set 13 ((u 12), .inr (5, ([.int 0, .ref (u 13), .ref (u 14), .ref (u 15), .ref (u 16), .ref (u 17), .ref (u 18)].set 0 (.int 1))))).set 14 ((u 13), .inl (cI, 110, .inl (upd (fun _ => 0) (0 : Int32).toNatClampNeg 11)))).set 15 ((u 14), .inl (cI, 110, .inl (upd (fun _ => 0) (0 : Int32).toNatClampNeg x2)))).set 16 ((u 15), .inl (cI, 110, .inl (upd (fun _ => 0) (0 : Int32).toNatClampNeg 0)))) := hD
  refine lv_aload_n hx hb dX5_add_40 rfl (lv_at hl 1 rfl) ?_
  refine xg (ci := 5) S inX5 rfl hK hP (q0 := 13) rfl 4 (by decide) rfl kw_1_125 rfl dX5_add_41 ?_
  refine lv_iload hx hb dX5_add_44 (lv_at hl 0 rfl) ?_
  refine lv_iload hx hb dX5_add_46 (lv_at hl 5 rfl) ?_
  refine xiast (t0 := 0) S hK hP hD hS (q0 := 17) rfl rfl (vin rfl) dX5_add_48 (fun H locs hP hD hS => ?_)
  have hP : va_P D vwCl ((((((xW o u cI cZ cJ).set 13 ((u 12), .inr (5, ([.int 0, .ref (u 13), .ref (u 14), .ref (u 15), .ref (u 16), .ref (u 17), .ref (u 18)].set 0 (.int 1))))).set 14 ((u 13), .inl (cI, 110, .inl (upd (fun _ => 0) (0 : Int32).toNatClampNeg 11)))).set 15 ((u 14), .inl (cI, 110, .inl (upd (fun _ => 0) (0 : Int32).toNatClampNeg x2)))).set 16 ((u 15), .inl (cI, 110, .inl (upd (fun _ => 0) (0 : Int32).toNatClampNeg 0)))).set 17 ((u 16), .inl (cI, 110, .inl (upd (fun _ => 0) (0 : Int32).toNatClampNeg 0)))) H := hP
  have hD : va_D A ((((((xW o u cI cZ cJ).set 13 ((u 12), .inr (5, ([.int 0, .ref (u 13), .ref (u 14), .ref (u 15), .ref (u 16), .ref (u 17), .ref (u 18)].set 0 (.int 1))))).set 14 ((u 13), .inl (cI, 110, .inl (upd (fun _ => 0) (0 : Int32).toNatClampNeg 11)))).set 15 ((u 14), .inl (cI, 110, .inl (upd (fun _ => 0) (0 : Int32).toNatClampNeg x2)))).set 16 ((u 15), .inl (cI, 110, .inl (upd (fun _ => 0) (0 : Int32).toNatClampNeg 0)))).set 17 ((u 16), .inl (cI, 110, .inl (upd (fun _ => 0) (0 : Int32).toNatClampNeg 0)))) := hD
  refine lv_aload_n hx hb dX5_add_49 rfl (lv_at hl 1 rfl) ?_
  refine xg (ci := 5) S inX5 rfl hK hP (q0 := 13) rfl 5 (by decide) rfl kw_1_130 rfl dX5_add_50 ?_
  refine lv_iload hx hb dX5_add_53 (lv_at hl 0 rfl) ?_
  refine lv_iconst (v := (-1)) hx hb dX5_add_55 (by decide) ?_
  refine xiast (t0 := 0) S hK hP hD hS (q0 := 18) rfl rfl (vin rfl) dX5_add_56 (fun H locs hP hD hS => ?_)
  have hP : va_P D vwCl (((((((xW o u cI cZ cJ).set 13 ((u 12), .inr (5, ([.int 0, .ref (u 13), .ref (u 14), .ref (u 15), .ref (u 16), .ref (u 17), .ref (u 18)].set 0 (.int 1))))).set 14 ((u 13), .inl (cI, 110, .inl (upd (fun _ => 0) (0 : Int32).toNatClampNeg 11)))).set 15 ((u 14), .inl (cI, 110, .inl (upd (fun _ => 0) (0 : Int32).toNatClampNeg x2)))).set 16 ((u 15), .inl (cI, 110, .inl (upd (fun _ => 0) (0 : Int32).toNatClampNeg 0)))).set 17 ((u 16), .inl (cI, 110, .inl (upd (fun _ => 0) (0 : Int32).toNatClampNeg 0)))).set 18 ((u 17), .inl (cI, 110, .inl (upd (fun _ => 0) (0 : Int32).toNatClampNeg (-1))))) H := hP
  have hD : va_D A (((((((xW o u cI cZ cJ).set 13 ((u 12), .inr (5, ([.int 0, .ref (u 13), .ref (u 14), .ref (u 15), .ref (u 16), .ref (u 17), .ref (u 18)].set 0 (.int 1))))).set 14 ((u 13), .inl (cI, 110, .inl (upd (fun _ => 0) (0 : Int32).toNatClampNeg 11)))).set 15 ((u 14), .inl (cI, 110, .inl (upd (fun _ => 0) (0 : Int32).toNatClampNeg x2)))).set 16 ((u 15), .inl (cI, 110, .inl (upd (fun _ => 0) (0 : Int32).toNatClampNeg 0)))).set 17 ((u 16), .inl (cI, 110, .inl (upd (fun _ => 0) (0 : Int32).toNatClampNeg 0)))).set 18 ((u 17), .inl (cI, 110, .inl (upd (fun _ => 0) (0 : Int32).toNatClampNeg (-1))))) := hD
  refine lv_aload_n hx hb dX5_add_57 rfl (lv_at hl 1 rfl) ?_
  refine xg (ci := 5) S inX5 rfl hK hP (q0 := 13) rfl 6 (by decide) rfl kw_1_134 rfl dX5_add_58 ?_
  refine lv_iload hx hb dX5_add_61 (lv_at hl 0 rfl) ?_
  refine lv_iconst (v := (-1)) hx hb dX5_add_63 (by decide) ?_
  refine xiast (t0 := 0) S hK hP hD hS (q0 := 19) rfl rfl (vin rfl) dX5_add_64 (fun H locs hP hD hS => ?_)
  have hP : va_P D vwCl ((((((((xW o u cI cZ cJ).set 13 ((u 12), .inr (5, ([.int 0, .ref (u 13), .ref (u 14), .ref (u 15), .ref (u 16), .ref (u 17), .ref (u 18)].set 0 (.int 1))))).set 14 ((u 13), .inl (cI, 110, .inl (upd (fun _ => 0) (0 : Int32).toNatClampNeg 11)))).set 15 ((u 14), .inl (cI, 110, .inl (upd (fun _ => 0) (0 : Int32).toNatClampNeg x2)))).set 16 ((u 15), .inl (cI, 110, .inl (upd (fun _ => 0) (0 : Int32).toNatClampNeg 0)))).set 17 ((u 16), .inl (cI, 110, .inl (upd (fun _ => 0) (0 : Int32).toNatClampNeg 0)))).set 18 ((u 17), .inl (cI, 110, .inl (upd (fun _ => 0) (0 : Int32).toNatClampNeg (-1))))).set 19 ((u 18), .inl (cI, 110, .inl (upd (fun _ => 0) (0 : Int32).toNatClampNeg (-1))))) H := hP
  have hD : va_D A ((((((((xW o u cI cZ cJ).set 13 ((u 12), .inr (5, ([.int 0, .ref (u 13), .ref (u 14), .ref (u 15), .ref (u 16), .ref (u 17), .ref (u 18)].set 0 (.int 1))))).set 14 ((u 13), .inl (cI, 110, .inl (upd (fun _ => 0) (0 : Int32).toNatClampNeg 11)))).set 15 ((u 14), .inl (cI, 110, .inl (upd (fun _ => 0) (0 : Int32).toNatClampNeg x2)))).set 16 ((u 15), .inl (cI, 110, .inl (upd (fun _ => 0) (0 : Int32).toNatClampNeg 0)))).set 17 ((u 16), .inl (cI, 110, .inl (upd (fun _ => 0) (0 : Int32).toNatClampNeg 0)))).set 18 ((u 17), .inl (cI, 110, .inl (upd (fun _ => 0) (0 : Int32).toNatClampNeg (-1))))).set 19 ((u 18), .inl (cI, 110, .inl (upd (fun _ => 0) (0 : Int32).toNatClampNeg (-1))))) := hD
  refine lv_aload_n hx hb dX5_add_65 rfl (lv_at hl 1 rfl) ?_
  refine lv_aload_n hx hb dX5_add_66 rfl (lv_at hl 1 rfl) ?_
  refine lv_iload hx hb dX5_add_67 (lv_at hl 0 rfl) ?_
  refine aVi (As := [.int 0]) (ci := 5) S (c_X5_partA_4 l D cI cZ cJ o u ra ga H.size x2 lo_x2 hi_x2) mi_X5_partA kw_6_57 rfl rfl ⟨Nat.le_of_ble_eq_true rfl, Nat.le_of_ble_eq_true rfl⟩ hP hD hK hS hA hB (k := 13) rfl rfl rfl hl.1 (Nat.le_of_ble_eq_true rfl) ⟨Nat.le_of_ble_eq_true rfl, Nat.le_of_ble_eq_true rfl⟩ dX5_add_69 (fun H locs hz hP hD hS => ?_)
  refine lv_iload hx hb dX5_add_72 (lv_at hl 0 rfl) ?_
  refine aVv (As := [.int (-1), .int 0]) (ci := 5) S (c_X5_claim_4 l D cI cZ cJ o u ra ga H.size x2 lo_x2 hi_x2) mi_X5_claim kw_6_58 rfl rfl ⟨Nat.le_of_ble_eq_true rfl, Nat.le_of_ble_eq_true rfl⟩ hP hD hK hS hA hB (k := 13) rfl rfl rfl hl.1 (Nat.le_of_ble_eq_true rfl) ⟨Nat.le_of_ble_eq_true rfl, Nat.le_of_ble_eq_true rfl⟩ dX5_add_74 (fun H locs hz hP hD hS => ?_)
  refine lv_aload_n hx hb dX5_add_77 rfl (lv_at hl 1 rfl) ?_
  refine lv_aload_n hx hb dX5_add_78 rfl (lv_at hl 1 rfl) ?_
  refine lv_iload hx hb dX5_add_79 (lv_at hl 0 rfl) ?_
  refine aVi (As := [.int 0]) (ci := 5) S (c_X5_partB_4 l D cI cZ cJ o u ra ga H.size x2 lo_x2 hi_x2) mi_X5_partB kw_6_62 rfl rfl ⟨Nat.le_of_ble_eq_true rfl, Nat.le_of_ble_eq_true rfl⟩ hP hD hK hS hA hB (k := 13) rfl rfl rfl hl.1 (Nat.le_of_ble_eq_true rfl) ⟨Nat.le_of_ble_eq_true rfl, Nat.le_of_ble_eq_true rfl⟩ dX5_add_81 (fun H locs hz hP hD hS => ?_)
  refine lv_iload hx hb dX5_add_84 (lv_at hl 0 rfl) ?_
  refine aVv (As := [.int (-1), .int 0]) (ci := 5) S (c_X5_claim_4 l D cI cZ cJ o u ra ga H.size x2 lo_x2 hi_x2) mi_X5_claim kw_6_58 rfl rfl ⟨Nat.le_of_ble_eq_true rfl, Nat.le_of_ble_eq_true rfl⟩ hP hD hK hS hA hB (k := 13) rfl rfl rfl hl.1 (Nat.le_of_ble_eq_true rfl) ⟨Nat.le_of_ble_eq_true rfl, Nat.le_of_ble_eq_true rfl⟩ dX5_add_86 (fun H locs hz hP hD hS => ?_)
  refine lv_aload_n hx hb dX5_add_89 rfl (lv_at hl 1 rfl) ?_
  refine lv_aload_n hx hb dX5_add_90 rfl (lv_at hl 1 rfl) ?_
  refine lv_iload hx hb dX5_add_91 (lv_at hl 0 rfl) ?_
  refine aVi (As := [.int 0]) (ci := 5) S (c_X5_partC_4 l D cI cZ cJ o u ra ga H.size x2 lo_x2 hi_x2) mi_X5_partC kw_6_63 rfl rfl ⟨Nat.le_of_ble_eq_true rfl, Nat.le_of_ble_eq_true rfl⟩ hP hD hK hS hA hB (k := 13) rfl rfl rfl hl.1 (Nat.le_of_ble_eq_true rfl) ⟨Nat.le_of_ble_eq_true rfl, Nat.le_of_ble_eq_true rfl⟩ dX5_add_93 (fun H locs hz hP hD hS => ?_)
  refine lv_iload hx hb dX5_add_96 (lv_at hl 0 rfl) ?_
  refine aVv (As := [.int (-1), .int 0]) (ci := 5) S (c_X5_claim_4 l D cI cZ cJ o u ra ga H.size x2 lo_x2 hi_x2) mi_X5_claim kw_6_58 rfl rfl ⟨Nat.le_of_ble_eq_true rfl, Nat.le_of_ble_eq_true rfl⟩ hP hD hK hS hA hB (k := 13) rfl rfl rfl hl.1 (Nat.le_of_ble_eq_true rfl) ⟨Nat.le_of_ble_eq_true rfl, Nat.le_of_ble_eq_true rfl⟩ dX5_add_98 (fun H locs hz hP hD hS => ?_)
  refine lv_iload hx hb dX5_add_101 (lv_at hl 0 rfl) ?_
  exact wEnd S hr hlocks hP hD hS (Nat.le_of_ble_eq_true rfl) (Nat.le_of_ble_eq_true rfl) dX5_add_103 rfl

set_option maxHeartbeats 8000000 in
set_option maxRecDepth 100000 in
theorem c_X8_node_27 (l : Launch) (D : va_G) (cI cZ cJ : ClassId) (o : Nat) (u : Nat → Nat) (hst : l.stackTraces = false) (ra ga : Nat → Nat) (sz : Nat) (x2 : Int32) (x3 : Int32) (x4 : Int32) (hi_x2 : x2 ≤ (-1)) : vx_Met l yX8_node (uW yX8_node cX8_node 5 (some .int)) ({ frames := 7, cells := 1, slots := 6, locals := 102 }) (va_Pc [.ref o, .int 11, .int x2, .int x3, .int x4] (aS ra ga D (tyL cI cZ cJ) (xW o u cI cZ cJ) sz)) (nQi (va_A (xW o u cI cZ cJ) sz)) (wX "java/lang/IllegalArgumentException" D (xW o u cI cZ cJ) (va_A (xW o u cI cZ cJ) sz)) 1 6 (va_A (xW o u cI cZ cJ) sz) := by
  refine xStart (lv := [(0, .ref o), (1, .int 11), (2, .int x2), (3, .int x3), (4, .int x4)]) (Qc := fun A => nQi A) (XC := fun A => wX "java/lang/IllegalArgumentException" D (xW o u cI cZ cJ) A) (by decide) (Nat.le_of_ble_eq_true rfl) rfl ?_
  intro p e s m args below meth c ls A H S hr hlocks hnm hl hK hP hD hS hA hB hnt
  have hx := S.1
  have hb := S.2.1
  refine lv_aload_n hx hb dX8_node_0 rfl (lv_at hl 0 rfl) ?_
  refine xg (ci := 8) S inX8 rfl hK hP xW_0 1 (by decide) rfl kw_3_21 rfl dX8_node_1 ?_
  refine lv_iload_n hx hb dX8_node_4 rfl (lv_at hl 1 rfl) ?_
  refine lv_iload_n hx hb dX8_node_5 rfl (lv_at hl 2 rfl) ?_
  refine lv_iload_n hx hb dX8_node_6 rfl (lv_at hl 3 rfl) ?_
  refine lv_iload hx hb dX8_node_7 (lv_at hl 4 rfl) ?_
  refine aVi (As := [.int 11, .int x2, .int x3, .int x4]) (ci := 5) S (c_X5_suits_27 l D cI cZ cJ o u ra ga H.size x2 x3 x4 hi_x2) mi_X5_suits kw_6_27 rfl rfl ⟨Nat.le_of_ble_eq_true rfl, Nat.le_of_ble_eq_true rfl⟩ hP hD hK hS hA hB xW_13 rfl rfl hl.1 (Nat.le_of_ble_eq_true rfl) ⟨Nat.le_of_ble_eq_true rfl, Nat.le_of_ble_eq_true rfl⟩ dX8_node_9 (fun H locs hz hP hD hS => ?_)
  exact tSv (As := [.int 0]) S (c_X8_needArgument_0 l D cI cZ cJ o u hst ra ga H.size) ms_X8_needArgument kw_4_4 rfl rfl ⟨Nat.le_of_ble_eq_true rfl, Nat.le_of_ble_eq_true rfl⟩ hP hD hK hS hA hB hl.1 (Nat.le_of_ble_eq_true rfl) ⟨Nat.le_of_ble_eq_true rfl, Nat.le_of_ble_eq_true rfl⟩ dX8_node_12 hnt hlocks (Nat.le_of_ble_eq_true rfl) (Nat.le_of_ble_eq_true rfl)

set_option maxHeartbeats 8000000 in
set_option maxRecDepth 100000 in
theorem c_X8_node_28 (l : Launch) (D : va_G) (cI cZ cJ : ClassId) (o : Nat) (u : Nat → Nat) (hst : l.stackTraces = false) (ra ga : Nat → Nat) (sz : Nat) (x2 : Int32) (x3 : Int32) (x4 : Int32) (lo_x2 : 16 ≤ x2) : vx_Met l yX8_node (uW yX8_node cX8_node 5 (some .int)) ({ frames := 7, cells := 1, slots := 6, locals := 102 }) (va_Pc [.ref o, .int 11, .int x2, .int x3, .int x4] (aS ra ga D (tyL cI cZ cJ) (xW o u cI cZ cJ) sz)) (nQi (va_A (xW o u cI cZ cJ) sz)) (wX "java/lang/IllegalArgumentException" D (xW o u cI cZ cJ) (va_A (xW o u cI cZ cJ) sz)) 1 6 (va_A (xW o u cI cZ cJ) sz) := by
  refine xStart (lv := [(0, .ref o), (1, .int 11), (2, .int x2), (3, .int x3), (4, .int x4)]) (Qc := fun A => nQi A) (XC := fun A => wX "java/lang/IllegalArgumentException" D (xW o u cI cZ cJ) A) (by decide) (Nat.le_of_ble_eq_true rfl) rfl ?_
  intro p e s m args below meth c ls A H S hr hlocks hnm hl hK hP hD hS hA hB hnt
  have hx := S.1
  have hb := S.2.1
  refine lv_aload_n hx hb dX8_node_0 rfl (lv_at hl 0 rfl) ?_
  refine xg (ci := 8) S inX8 rfl hK hP xW_0 1 (by decide) rfl kw_3_21 rfl dX8_node_1 ?_
  refine lv_iload_n hx hb dX8_node_4 rfl (lv_at hl 1 rfl) ?_
  refine lv_iload_n hx hb dX8_node_5 rfl (lv_at hl 2 rfl) ?_
  refine lv_iload_n hx hb dX8_node_6 rfl (lv_at hl 3 rfl) ?_
  refine lv_iload hx hb dX8_node_7 (lv_at hl 4 rfl) ?_
  refine aVi (As := [.int 11, .int x2, .int x3, .int x4]) (ci := 5) S (c_X5_suits_28 l D cI cZ cJ o u ra ga H.size x2 x3 x4 lo_x2) mi_X5_suits kw_6_27 rfl rfl ⟨Nat.le_of_ble_eq_true rfl, Nat.le_of_ble_eq_true rfl⟩ hP hD hK hS hA hB xW_13 rfl rfl hl.1 (Nat.le_of_ble_eq_true rfl) ⟨Nat.le_of_ble_eq_true rfl, Nat.le_of_ble_eq_true rfl⟩ dX8_node_9 (fun H locs hz hP hD hS => ?_)
  exact tSv (As := [.int 0]) S (c_X8_needArgument_0 l D cI cZ cJ o u hst ra ga H.size) ms_X8_needArgument kw_4_4 rfl rfl ⟨Nat.le_of_ble_eq_true rfl, Nat.le_of_ble_eq_true rfl⟩ hP hD hK hS hA hB hl.1 (Nat.le_of_ble_eq_true rfl) ⟨Nat.le_of_ble_eq_true rfl, Nat.le_of_ble_eq_true rfl⟩ dX8_node_12 hnt hlocks (Nat.le_of_ble_eq_true rfl) (Nat.le_of_ble_eq_true rfl)

set_option maxHeartbeats 8000000 in
set_option maxRecDepth 100000 in
theorem c_X5_suits_30 (l : Launch) (D : va_G) (cI cZ cJ : ClassId) (o : Nat) (u : Nat → Nat) (ra ga : Nat → Nat) (sz : Nat) (x2 : Int32) (x4 : Int32) (lo_x2 : 0 ≤ x2) (hi_x2 : x2 ≤ 15) (ne_x4_0 : ¬ x4 = 0) : Met l yX5_suits (uW yX5_suits cX5_suits 5 (some .boolean)) ({ frames := 2, cells := 0, slots := 0, locals := 42 }) (va_Pc [.ref (u 12), .int 11, .int x2, .int 0, .int x4] (aS ra ga D (tyL cI cZ cJ) (xW o u cI cZ cJ) sz)) (wQi (0) D (xW o u cI cZ cJ) (va_A (xW o u cI cZ cJ) sz)) 0 0 (va_A (xW o u cI cZ cJ) sz) := by
  refine aStart (lv := [(0, .ref (u 12)), (1, .int 11), (2, .int x2), (3, .int 0), (4, .int x4)]) (Qc := fun A => wQi (0) D (xW o u cI cZ cJ) A) (by decide) (Nat.le_of_ble_eq_true rfl) rfl ?_
  intro p e s m args below meth c ls A H S hr hlocks hnm hl hK hP hD hS hA hB
  have hx := S.1
  have hb := S.2.1
  refine lv_iload_n hx hb dX5_suits_0 rfl (lv_at hl 1 rfl) ?_
  refine lv_if_lt (tgt := 10) hx hb dX5_suits_1 (by decide) (fun c => absurd c (by decide)) (fun _ => ?_)
  refine lv_iload_n hx hb dX5_suits_4 rfl (lv_at hl 1 rfl) ?_
  refine lv_bipush (v := 21) hx hb dX5_suits_5 (by decide) ?_
  refine lv_icmp_le (tgt := 12) hx hb dX5_suits_7 (by decide) (fun _ => ?_) (fun c => absurd c (by decide))
  refine lv_aload_n hx hb dX5_suits_12 rfl (lv_at hl 0 rfl) ?_
  refine xgs S hB.z0 hS kw_3_91 rfl dX5_suits_13 ?_
  refine lv_iload_n hx hb dX5_suits_16 rfl (lv_at hl 1 rfl) ?_
  refine xti (v := 2) S hB.t0 hS (vin rfl) rfl dX5_suits_17 ?_
  refine lv_iload_n hx hb dX5_suits_18 rfl (lv_at hl 2 rfl) ?_
  refine aVi (As := [.int 2, .int x2]) (ci := 5) S (c_X5_fills_8 l D cI cZ cJ o u ra ga H.size x2 lo_x2 hi_x2) mi_X5_fills kw_6_31 rfl rfl ⟨Nat.le_of_ble_eq_true rfl, Nat.le_of_ble_eq_true rfl⟩ hP hD hK hS hA hB xW_13 rfl rfl hl.1 (Nat.le_of_ble_eq_true rfl) ⟨Nat.le_of_ble_eq_true rfl, Nat.le_of_ble_eq_true rfl⟩ dX5_suits_19 (fun H locs hz hP hD hS => ?_)
  refine lv_if_eq (tgt := 112) hx hb dX5_suits_22 (by decide) (fun c => absurd c (by decide)) (fun _ => ?_)
  refine lv_aload_n hx hb dX5_suits_25 rfl (lv_at hl 0 rfl) ?_
  refine xgs S hB.z1 hS kw_3_228 rfl dX5_suits_26 ?_
  refine lv_iload_n hx hb dX5_suits_29 rfl (lv_at hl 1 rfl) ?_
  refine xti (v := 0) S hB.t1 hS (vin rfl) rfl dX5_suits_30 ?_
  refine lv_iload_n hx hb dX5_suits_31 rfl (lv_at hl 3 rfl) ?_
  refine rdV (As := [.int 0, .int 0]) (ci := 5) S (c_X5_fills_3 l D cI cZ cJ o u) mi_X5_fills kw_6_31 ⟨rfl, rfl⟩ ⟨Nat.le_of_ble_eq_true rfl, Nat.le_of_ble_eq_true rfl⟩ hP hK xW_13 rfl rfl hl.1 (Nat.le_of_ble_eq_true rfl) ⟨Nat.le_of_ble_eq_true rfl, Nat.le_of_ble_eq_true rfl⟩ dX5_suits_32 ?_
  refine lv_if_eq (tgt := 112) hx hb dX5_suits_35 (by decide) (fun c => absurd c (by decide)) (fun _ => ?_)
  refine lv_aload_n hx hb dX5_suits_38 rfl (lv_at hl 0 rfl) ?_
  refine xgs S hB.z2 hS kw_3_222 rfl dX5_suits_39 ?_
  refine lv_iload_n hx hb dX5_suits_42 rfl (lv_at hl 1 rfl) ?_
  refine xti (v := 0) S hB.t2 hS (vin rfl) rfl dX5_suits_43 ?_
  refine lv_iload hx hb dX5_suits_44 (lv_at hl 4 rfl) ?_
  refine rdV (As := [.int 0, .int x4]) (ci := 5) S (c_X5_fills_4 l D cI cZ cJ o u x4 ne_x4_0) mi_X5_fills kw_6_31 ⟨rfl, rfl⟩ ⟨Nat.le_of_ble_eq_true rfl, Nat.le_of_ble_eq_true rfl⟩ hP hK xW_13 rfl rfl hl.1 (Nat.le_of_ble_eq_true rfl) ⟨Nat.le_of_ble_eq_true rfl, Nat.le_of_ble_eq_true rfl⟩ dX5_suits_46 ?_
  refine lv_if_eq (tgt := 112) hx hb dX5_suits_49 (by decide) (fun _ => ?_) (fun c => absurd c (by decide))
  refine lv_iconst (v := 0) hx hb dX5_suits_112 (by decide) ?_
  exact wEndZ S hr hlocks hP hD hS (Nat.le_of_ble_eq_true rfl) (Nat.le_of_ble_eq_true rfl) dX5_suits_113 rfl rfl

set_option maxHeartbeats 8000000 in
set_option maxRecDepth 100000 in
theorem c_X8_node_29 (l : Launch) (D : va_G) (cI cZ cJ : ClassId) (o : Nat) (u : Nat → Nat) (ra ga : Nat → Nat) (sz : Nat) (x2 : Int32) (lo_x2 : 0 ≤ x2) (hi_x2 : x2 ≤ 15) : Met l yX8_node (uW yX8_node cX8_node 5 (some .int)) ({ frames := 3, cells := 0, slots := 0, locals := 66 }) (va_Pc [.ref o, .int 11, .int x2, .int 0, .int 0] (aS ra ga D (tyL cI cZ cJ) (xW o u cI cZ cJ) sz)) (wQi (0) D ((((((((xW o u cI cZ cJ).set 13 ((u 12), .inr (5, ([.int 0, .ref (u 13), .ref (u 14), .ref (u 15), .ref (u 16), .ref (u 17), .ref (u 18)].set 0 (.int 1))))).set 14 ((u 13), .inl (cI, 110, .inl (upd (fun _ => 0) (0 : Int32).toNatClampNeg 11)))).set 15 ((u 14), .inl (cI, 110, .inl (upd (fun _ => 0) (0 : Int32).toNatClampNeg x2)))).set 16 ((u 15), .inl (cI, 110, .inl (upd (fun _ => 0) (0 : Int32).toNatClampNeg 0)))).set 17 ((u 16), .inl (cI, 110, .inl (upd (fun _ => 0) (0 : Int32).toNatClampNeg 0)))).set 18 ((u 17), .inl (cI, 110, .inl (upd (fun _ => 0) (0 : Int32).toNatClampNeg (-1))))).set 19 ((u 18), .inl (cI, 110, .inl (upd (fun _ => 0) (0 : Int32).toNatClampNeg (-1))))) (va_A (xW o u cI cZ cJ) sz)) 0 0 (va_A (xW o u cI cZ cJ) sz) := by
  refine aStart (lv := [(0, .ref o), (1, .int 11), (2, .int x2), (3, .int 0), (4, .int 0)]) (Qc := fun A => wQi (0) D ((((((((xW o u cI cZ cJ).set 13 ((u 12), .inr (5, ([.int 0, .ref (u 13), .ref (u 14), .ref (u 15), .ref (u 16), .ref (u 17), .ref (u 18)].set 0 (.int 1))))).set 14 ((u 13), .inl (cI, 110, .inl (upd (fun _ => 0) (0 : Int32).toNatClampNeg 11)))).set 15 ((u 14), .inl (cI, 110, .inl (upd (fun _ => 0) (0 : Int32).toNatClampNeg x2)))).set 16 ((u 15), .inl (cI, 110, .inl (upd (fun _ => 0) (0 : Int32).toNatClampNeg 0)))).set 17 ((u 16), .inl (cI, 110, .inl (upd (fun _ => 0) (0 : Int32).toNatClampNeg 0)))).set 18 ((u 17), .inl (cI, 110, .inl (upd (fun _ => 0) (0 : Int32).toNatClampNeg (-1))))).set 19 ((u 18), .inl (cI, 110, .inl (upd (fun _ => 0) (0 : Int32).toNatClampNeg (-1))))) A) (by decide) (Nat.le_of_ble_eq_true rfl) rfl ?_
  intro p e s m args below meth c ls A H S hr hlocks hnm hl hK hP hD hS hA hB
  have hx := S.1
  have hb := S.2.1
  refine lv_aload_n hx hb dX8_node_0 rfl (lv_at hl 0 rfl) ?_
  refine xg (ci := 8) S inX8 rfl hK hP xW_0 1 (by decide) rfl kw_3_21 rfl dX8_node_1 ?_
  refine lv_iload_n hx hb dX8_node_4 rfl (lv_at hl 1 rfl) ?_
  refine lv_iload_n hx hb dX8_node_5 rfl (lv_at hl 2 rfl) ?_
  refine lv_iload_n hx hb dX8_node_6 rfl (lv_at hl 3 rfl) ?_
  refine lv_iload hx hb dX8_node_7 (lv_at hl 4 rfl) ?_
  refine aVi (As := [.int 11, .int x2, .int 0, .int 0]) (ci := 5) S (c_X5_suits_29 l D cI cZ cJ o u ra ga H.size x2 lo_x2 hi_x2) mi_X5_suits kw_6_27 rfl rfl ⟨Nat.le_of_ble_eq_true rfl, Nat.le_of_ble_eq_true rfl⟩ hP hD hK hS hA hB xW_13 rfl rfl hl.1 (Nat.le_of_ble_eq_true rfl) ⟨Nat.le_of_ble_eq_true rfl, Nat.le_of_ble_eq_true rfl⟩ dX8_node_9 (fun H locs hz hP hD hS => ?_)
  refine aSv (As := [.int 1]) S (c_X8_needArgument_1 l D cI cZ cJ o u ra ga H.size) ms_X8_needArgument kw_4_4 rfl rfl ⟨Nat.le_of_ble_eq_true rfl, Nat.le_of_ble_eq_true rfl⟩ hP hD hK hS hA hB hl.1 (Nat.le_of_ble_eq_true rfl) ⟨Nat.le_of_ble_eq_true rfl, Nat.le_of_ble_eq_true rfl⟩ dX8_node_12 (fun H locs hz hP hD hS => ?_)
  refine lv_aload_n hx hb dX8_node_15 rfl (lv_at hl 0 rfl) ?_
  refine xg (ci := 8) S inX8 rfl hK hP xW_0 1 (by decide) rfl kw_3_21 rfl dX8_node_16 ?_
  refine xg (ci := 5) S inX5 rfl hK hP xW_13 0 (by decide) rfl kw_1_110 rfl dX8_node_19 ?_
  refine lv_bipush (v := 110) hx hb dX8_node_22 (by decide) ?_
  refine lv_icmp_ge (tgt := 31) hx hb dX8_node_24 (by decide) (fun c => absurd c (by decide)) (fun _ => ?_)
  refine lv_iconst (v := 1) hx hb dX8_node_27 (by decide) ?_
  refine lv_goto (tgt := 32) hx hb dX8_node_28 (by decide) ?_
  refine aSv (As := [.int 1]) S (c_X8_needState_0 l D cI cZ cJ o u ra ga H.size) ms_X8_needState kw_5_183 rfl rfl ⟨Nat.le_of_ble_eq_true rfl, Nat.le_of_ble_eq_true rfl⟩ hP hD hK hS hA hB hl.1 (Nat.le_of_ble_eq_true rfl) ⟨Nat.le_of_ble_eq_true rfl, Nat.le_of_ble_eq_true rfl⟩ dX8_node_32 (fun H locs hz hP hD hS => ?_)
  refine lv_aload_n hx hb dX8_node_35 rfl (lv_at hl 0 rfl) ?_
  refine lv_iconst (v := 1) hx hb dX8_node_36 (by decide) ?_
  refine xp (ci := 8) (v := .int 1) S inX8 tyX8 tyX8_ok nmX8 rfl hK hP hD hS xW_0 9 (by decide) kw_3_29 rfl rfl rfl rfl (Nat.le_of_ble_eq_true rfl) dX8_node_37 (fun H locs hP hD hS => ?_)
  have hP : va_P D vwCl (xW o u cI cZ cJ) H := hP
  have hD : va_D A (xW o u cI cZ cJ) := hD
  refine lv_aload_n hx hb dX8_node_40 rfl (lv_at hl 0 rfl) ?_
  refine xg (ci := 8) S inX8 rfl hK hP xW_0 1 (by decide) rfl kw_3_21 rfl dX8_node_41 ?_
  refine lv_iload_n hx hb dX8_node_44 rfl (lv_at hl 1 rfl) ?_
  refine lv_iload_n hx hb dX8_node_45 rfl (lv_at hl 2 rfl) ?_
  refine lv_iload_n hx hb dX8_node_46 rfl (lv_at hl 3 rfl) ?_
  refine lv_iload hx hb dX8_node_47 (lv_at hl 4 rfl) ?_
  refine aVi (As := [.int 11, .int x2, .int 0, .int 0]) (ci := 5) S (c_X5_add_4 l D cI cZ cJ o u ra ga H.size x2 lo_x2 hi_x2) mi_X5_add kw_6_53 rfl rfl ⟨Nat.le_of_ble_eq_true rfl, Nat.le_of_ble_eq_true rfl⟩ hP hD hK hS hA hB xW_13 rfl rfl hl.1 (Nat.le_of_ble_eq_true rfl) ⟨Nat.le_of_ble_eq_true rfl, Nat.le_of_ble_eq_true rfl⟩ dX8_node_49 (fun H locs hz hP hD hS => ?_)
  exact wEnd S hr hlocks hP hD hS (Nat.le_of_ble_eq_true rfl) (Nat.le_of_ble_eq_true rfl) dX8_node_52 rfl

set_option maxHeartbeats 8000000 in
set_option maxRecDepth 100000 in
theorem c_X8_node_30 (l : Launch) (D : va_G) (cI cZ cJ : ClassId) (o : Nat) (u : Nat → Nat) (hst : l.stackTraces = false) (ra ga : Nat → Nat) (sz : Nat) (x2 : Int32) (x4 : Int32) (lo_x2 : 0 ≤ x2) (hi_x2 : x2 ≤ 15) (ne_x4_0 : ¬ x4 = 0) : vx_Met l yX8_node (uW yX8_node cX8_node 5 (some .int)) ({ frames := 7, cells := 1, slots := 6, locals := 102 }) (va_Pc [.ref o, .int 11, .int x2, .int 0, .int x4] (aS ra ga D (tyL cI cZ cJ) (xW o u cI cZ cJ) sz)) (nQi (va_A (xW o u cI cZ cJ) sz)) (wX "java/lang/IllegalArgumentException" D (xW o u cI cZ cJ) (va_A (xW o u cI cZ cJ) sz)) 1 6 (va_A (xW o u cI cZ cJ) sz) := by
  refine xStart (lv := [(0, .ref o), (1, .int 11), (2, .int x2), (3, .int 0), (4, .int x4)]) (Qc := fun A => nQi A) (XC := fun A => wX "java/lang/IllegalArgumentException" D (xW o u cI cZ cJ) A) (by decide) (Nat.le_of_ble_eq_true rfl) rfl ?_
  intro p e s m args below meth c ls A H S hr hlocks hnm hl hK hP hD hS hA hB hnt
  have hx := S.1
  have hb := S.2.1
  refine lv_aload_n hx hb dX8_node_0 rfl (lv_at hl 0 rfl) ?_
  refine xg (ci := 8) S inX8 rfl hK hP xW_0 1 (by decide) rfl kw_3_21 rfl dX8_node_1 ?_
  refine lv_iload_n hx hb dX8_node_4 rfl (lv_at hl 1 rfl) ?_
  refine lv_iload_n hx hb dX8_node_5 rfl (lv_at hl 2 rfl) ?_
  refine lv_iload_n hx hb dX8_node_6 rfl (lv_at hl 3 rfl) ?_
  refine lv_iload hx hb dX8_node_7 (lv_at hl 4 rfl) ?_
  refine aVi (As := [.int 11, .int x2, .int 0, .int x4]) (ci := 5) S (c_X5_suits_30 l D cI cZ cJ o u ra ga H.size x2 x4 lo_x2 hi_x2 ne_x4_0) mi_X5_suits kw_6_27 rfl rfl ⟨Nat.le_of_ble_eq_true rfl, Nat.le_of_ble_eq_true rfl⟩ hP hD hK hS hA hB xW_13 rfl rfl hl.1 (Nat.le_of_ble_eq_true rfl) ⟨Nat.le_of_ble_eq_true rfl, Nat.le_of_ble_eq_true rfl⟩ dX8_node_9 (fun H locs hz hP hD hS => ?_)
  exact tSv (As := [.int 0]) S (c_X8_needArgument_0 l D cI cZ cJ o u hst ra ga H.size) ms_X8_needArgument kw_4_4 rfl rfl ⟨Nat.le_of_ble_eq_true rfl, Nat.le_of_ble_eq_true rfl⟩ hP hD hK hS hA hB hl.1 (Nat.le_of_ble_eq_true rfl) ⟨Nat.le_of_ble_eq_true rfl, Nat.le_of_ble_eq_true rfl⟩ dX8_node_12 hnt hlocks (Nat.le_of_ble_eq_true rfl) (Nat.le_of_ble_eq_true rfl)

set_option maxHeartbeats 8000000 in
set_option maxRecDepth 100000 in
theorem c_X5_suits_31 (l : Launch) (D : va_G) (cI cZ cJ : ClassId) (o : Nat) (u : Nat → Nat) (ra ga : Nat → Nat) (sz : Nat) (x2 : Int32) (x3 : Int32) (x4 : Int32) (lo_x2 : 0 ≤ x2) (hi_x2 : x2 ≤ 15) (ne_x3_0 : ¬ x3 = 0) : Met l yX5_suits (uW yX5_suits cX5_suits 5 (some .boolean)) ({ frames := 2, cells := 0, slots := 0, locals := 42 }) (va_Pc [.ref (u 12), .int 11, .int x2, .int x3, .int x4] (aS ra ga D (tyL cI cZ cJ) (xW o u cI cZ cJ) sz)) (wQi (0) D (xW o u cI cZ cJ) (va_A (xW o u cI cZ cJ) sz)) 0 0 (va_A (xW o u cI cZ cJ) sz) := by
  refine aStart (lv := [(0, .ref (u 12)), (1, .int 11), (2, .int x2), (3, .int x3), (4, .int x4)]) (Qc := fun A => wQi (0) D (xW o u cI cZ cJ) A) (by decide) (Nat.le_of_ble_eq_true rfl) rfl ?_
  intro p e s m args below meth c ls A H S hr hlocks hnm hl hK hP hD hS hA hB
  have hx := S.1
  have hb := S.2.1
  refine lv_iload_n hx hb dX5_suits_0 rfl (lv_at hl 1 rfl) ?_
  refine lv_if_lt (tgt := 10) hx hb dX5_suits_1 (by decide) (fun c => absurd c (by decide)) (fun _ => ?_)
  refine lv_iload_n hx hb dX5_suits_4 rfl (lv_at hl 1 rfl) ?_
  refine lv_bipush (v := 21) hx hb dX5_suits_5 (by decide) ?_
  refine lv_icmp_le (tgt := 12) hx hb dX5_suits_7 (by decide) (fun _ => ?_) (fun c => absurd c (by decide))
  refine lv_aload_n hx hb dX5_suits_12 rfl (lv_at hl 0 rfl) ?_
  refine xgs S hB.z0 hS kw_3_91 rfl dX5_suits_13 ?_
  refine lv_iload_n hx hb dX5_suits_16 rfl (lv_at hl 1 rfl) ?_
  refine xti (v := 2) S hB.t0 hS (vin rfl) rfl dX5_suits_17 ?_
  refine lv_iload_n hx hb dX5_suits_18 rfl (lv_at hl 2 rfl) ?_
  refine aVi (As := [.int 2, .int x2]) (ci := 5) S (c_X5_fills_8 l D cI cZ cJ o u ra ga H.size x2 lo_x2 hi_x2) mi_X5_fills kw_6_31 rfl rfl ⟨Nat.le_of_ble_eq_true rfl, Nat.le_of_ble_eq_true rfl⟩ hP hD hK hS hA hB xW_13 rfl rfl hl.1 (Nat.le_of_ble_eq_true rfl) ⟨Nat.le_of_ble_eq_true rfl, Nat.le_of_ble_eq_true rfl⟩ dX5_suits_19 (fun H locs hz hP hD hS => ?_)
  refine lv_if_eq (tgt := 112) hx hb dX5_suits_22 (by decide) (fun c => absurd c (by decide)) (fun _ => ?_)
  refine lv_aload_n hx hb dX5_suits_25 rfl (lv_at hl 0 rfl) ?_
  refine xgs S hB.z1 hS kw_3_228 rfl dX5_suits_26 ?_
  refine lv_iload_n hx hb dX5_suits_29 rfl (lv_at hl 1 rfl) ?_
  refine xti (v := 0) S hB.t1 hS (vin rfl) rfl dX5_suits_30 ?_
  refine lv_iload_n hx hb dX5_suits_31 rfl (lv_at hl 3 rfl) ?_
  refine rdV (As := [.int 0, .int x3]) (ci := 5) S (c_X5_fills_5 l D cI cZ cJ o u x3 ne_x3_0) mi_X5_fills kw_6_31 ⟨rfl, rfl⟩ ⟨Nat.le_of_ble_eq_true rfl, Nat.le_of_ble_eq_true rfl⟩ hP hK xW_13 rfl rfl hl.1 (Nat.le_of_ble_eq_true rfl) ⟨Nat.le_of_ble_eq_true rfl, Nat.le_of_ble_eq_true rfl⟩ dX5_suits_32 ?_
  refine lv_if_eq (tgt := 112) hx hb dX5_suits_35 (by decide) (fun _ => ?_) (fun c => absurd c (by decide))
  refine lv_iconst (v := 0) hx hb dX5_suits_112 (by decide) ?_
  exact wEndZ S hr hlocks hP hD hS (Nat.le_of_ble_eq_true rfl) (Nat.le_of_ble_eq_true rfl) dX5_suits_113 rfl rfl

set_option maxHeartbeats 8000000 in
set_option maxRecDepth 100000 in
theorem c_X8_node_31 (l : Launch) (D : va_G) (cI cZ cJ : ClassId) (o : Nat) (u : Nat → Nat) (hst : l.stackTraces = false) (ra ga : Nat → Nat) (sz : Nat) (x2 : Int32) (x3 : Int32) (x4 : Int32) (lo_x2 : 0 ≤ x2) (hi_x2 : x2 ≤ 15) (ne_x3_0 : ¬ x3 = 0) : vx_Met l yX8_node (uW yX8_node cX8_node 5 (some .int)) ({ frames := 7, cells := 1, slots := 6, locals := 102 }) (va_Pc [.ref o, .int 11, .int x2, .int x3, .int x4] (aS ra ga D (tyL cI cZ cJ) (xW o u cI cZ cJ) sz)) (nQi (va_A (xW o u cI cZ cJ) sz)) (wX "java/lang/IllegalArgumentException" D (xW o u cI cZ cJ) (va_A (xW o u cI cZ cJ) sz)) 1 6 (va_A (xW o u cI cZ cJ) sz) := by
  refine xStart (lv := [(0, .ref o), (1, .int 11), (2, .int x2), (3, .int x3), (4, .int x4)]) (Qc := fun A => nQi A) (XC := fun A => wX "java/lang/IllegalArgumentException" D (xW o u cI cZ cJ) A) (by decide) (Nat.le_of_ble_eq_true rfl) rfl ?_
  intro p e s m args below meth c ls A H S hr hlocks hnm hl hK hP hD hS hA hB hnt
  have hx := S.1
  have hb := S.2.1
  refine lv_aload_n hx hb dX8_node_0 rfl (lv_at hl 0 rfl) ?_
  refine xg (ci := 8) S inX8 rfl hK hP xW_0 1 (by decide) rfl kw_3_21 rfl dX8_node_1 ?_
  refine lv_iload_n hx hb dX8_node_4 rfl (lv_at hl 1 rfl) ?_
  refine lv_iload_n hx hb dX8_node_5 rfl (lv_at hl 2 rfl) ?_
  refine lv_iload_n hx hb dX8_node_6 rfl (lv_at hl 3 rfl) ?_
  refine lv_iload hx hb dX8_node_7 (lv_at hl 4 rfl) ?_
  refine aVi (As := [.int 11, .int x2, .int x3, .int x4]) (ci := 5) S (c_X5_suits_31 l D cI cZ cJ o u ra ga H.size x2 x3 x4 lo_x2 hi_x2 ne_x3_0) mi_X5_suits kw_6_27 rfl rfl ⟨Nat.le_of_ble_eq_true rfl, Nat.le_of_ble_eq_true rfl⟩ hP hD hK hS hA hB xW_13 rfl rfl hl.1 (Nat.le_of_ble_eq_true rfl) ⟨Nat.le_of_ble_eq_true rfl, Nat.le_of_ble_eq_true rfl⟩ dX8_node_9 (fun H locs hz hP hD hS => ?_)
  exact tSv (As := [.int 0]) S (c_X8_needArgument_0 l D cI cZ cJ o u hst ra ga H.size) ms_X8_needArgument kw_4_4 rfl rfl ⟨Nat.le_of_ble_eq_true rfl, Nat.le_of_ble_eq_true rfl⟩ hP hD hK hS hA hB hl.1 (Nat.le_of_ble_eq_true rfl) ⟨Nat.le_of_ble_eq_true rfl, Nat.le_of_ble_eq_true rfl⟩ dX8_node_12 hnt hlocks (Nat.le_of_ble_eq_true rfl) (Nat.le_of_ble_eq_true rfl)

set_option maxHeartbeats 8000000 in
set_option maxRecDepth 100000 in
theorem c_X5_isPartFor_3 (l : Launch) (D : va_G) (cI cZ cJ : ClassId) (o : Nat) (u : Nat → Nat) (x3 : Int32) : Met l yX5_isPartFor (uW yX5_isPartFor cX5_isPartFor 3 (some .boolean)) ({ frames := 1, cells := 0, slots := 0, locals := 21 }) (va_Pc [.ref (u 12), .int 5, .int x3] (pS D (tyL cI cZ cJ) (xW o u cI cZ cJ))) (QcRead (0)) 0 0 (fun _ => False) := by
  refine rdStart (lv := [(0, .ref (u 12)), (1, .int 5), (2, .int x3)]) (by decide) (Nat.le_of_ble_eq_true rfl) rfl ?_
  intro p e s m args below meth c ls S hr hlocks hl hP hK
  have hx := S.1
  have hb := S.2.1
  refine lv_aload_n hx hb dX5_isPartFor_0 rfl (lv_at hl 0 rfl) ?_
  refine lv_iload_n hx hb dX5_isPartFor_1 rfl (lv_at hl 2 rfl) ?_
  refine rdV (As := [.int x3]) (ci := 5) S (c_X5_has_0 l D cI cZ cJ o u x3) mi_X5_has kw_6_40 ⟨rfl, rfl⟩ ⟨Nat.le_of_ble_eq_true rfl, Nat.le_of_ble_eq_true rfl⟩ hP hK xW_13 rfl rfl hl.1 (Nat.le_of_ble_eq_true rfl) ⟨Nat.le_of_ble_eq_true rfl, Nat.le_of_ble_eq_true rfl⟩ dX5_isPartFor_2 ?_
  refine lv_if_eq (tgt := 16) hx hb dX5_isPartFor_5 (by decide) (fun _ => ?_) (fun c => absurd c (by decide))
  refine lv_iconst (v := 0) hx hb dX5_isPartFor_16 (by decide) ?_
  exact rdEndZ S hr hlocks dX5_isPartFor_17 rfl rfl

set_option maxHeartbeats 8000000 in
set_option maxRecDepth 100000 in
theorem c_X5_fills_14 (l : Launch) (D : va_G) (cI cZ cJ : ClassId) (o : Nat) (u : Nat → Nat) (x3 : Int32) : Met l yX5_fills (uW yX5_fills cX5_fills 3 (some .boolean)) ({ frames := 2, cells := 0, slots := 0, locals := 43 }) (va_Pc [.ref (u 12), .int 5, .int x3] (pS D (tyL cI cZ cJ) (xW o u cI cZ cJ))) (QcRead (0)) 0 0 (fun _ => False) := by
  refine rdStart (lv := [(0, .ref (u 12)), (1, .int 5), (2, .int x3)]) (by decide) (Nat.le_of_ble_eq_true rfl) rfl ?_
  intro p e s m args below meth c ls S hr hlocks hl hP hK
  have hx := S.1
  have hb := S.2.1
  refine lv_iload_n hx hb dX5_fills_0 rfl (lv_at hl 1 rfl) ?_
  refine lv_tableIn (off := 118) (tgt := 119) hx hb dX5_fills_1 (by decide) (by decide) (by decide) (by decide) ?_
  refine lv_aload_n hx hb dX5_fills_119 rfl (lv_at hl 0 rfl) ?_
  refine lv_iload_n hx hb dX5_fills_120 rfl (lv_at hl 1 rfl) ?_
  refine lv_iload_n hx hb dX5_fills_121 rfl (lv_at hl 2 rfl) ?_
  refine rdV (As := [.int 5, .int x3]) (ci := 5) S (c_X5_isPartFor_3 l D cI cZ cJ o u x3) mi_X5_isPartFor kw_6_36 ⟨rfl, rfl⟩ ⟨Nat.le_of_ble_eq_true rfl, Nat.le_of_ble_eq_true rfl⟩ hP hK xW_13 rfl rfl hl.1 (Nat.le_of_ble_eq_true rfl) ⟨Nat.le_of_ble_eq_true rfl, Nat.le_of_ble_eq_true rfl⟩ dX5_fills_122 ?_
  exact rdEndZ S hr hlocks dX5_fills_125 rfl rfl

set_option maxHeartbeats 8000000 in
set_option maxRecDepth 100000 in
theorem c_X5_suits_32 (l : Launch) (D : va_G) (cI cZ cJ : ClassId) (o : Nat) (u : Nat → Nat) (ra ga : Nat → Nat) (sz : Nat) (x2 : Int32) (x3 : Int32) (x4 : Int32) : Met l yX5_suits (uW yX5_suits cX5_suits 5 (some .boolean)) ({ frames := 3, cells := 0, slots := 0, locals := 65 }) (va_Pc [.ref (u 12), .int 12, .int x2, .int x3, .int x4] (aS ra ga D (tyL cI cZ cJ) (xW o u cI cZ cJ) sz)) (wQi (0) D (xW o u cI cZ cJ) (va_A (xW o u cI cZ cJ) sz)) 0 0 (va_A (xW o u cI cZ cJ) sz) := by
  refine aStart (lv := [(0, .ref (u 12)), (1, .int 12), (2, .int x2), (3, .int x3), (4, .int x4)]) (Qc := fun A => wQi (0) D (xW o u cI cZ cJ) A) (by decide) (Nat.le_of_ble_eq_true rfl) rfl ?_
  intro p e s m args below meth c ls A H S hr hlocks hnm hl hK hP hD hS hA hB
  have hx := S.1
  have hb := S.2.1
  refine lv_iload_n hx hb dX5_suits_0 rfl (lv_at hl 1 rfl) ?_
  refine lv_if_lt (tgt := 10) hx hb dX5_suits_1 (by decide) (fun c => absurd c (by decide)) (fun _ => ?_)
  refine lv_iload_n hx hb dX5_suits_4 rfl (lv_at hl 1 rfl) ?_
  refine lv_bipush (v := 21) hx hb dX5_suits_5 (by decide) ?_
  refine lv_icmp_le (tgt := 12) hx hb dX5_suits_7 (by decide) (fun _ => ?_) (fun c => absurd c (by decide))
  refine lv_aload_n hx hb dX5_suits_12 rfl (lv_at hl 0 rfl) ?_
  refine xgs S hB.z0 hS kw_3_91 rfl dX5_suits_13 ?_
  refine lv_iload_n hx hb dX5_suits_16 rfl (lv_at hl 1 rfl) ?_
  refine xti (v := 0) S hB.t0 hS (vin rfl) rfl dX5_suits_17 ?_
  refine lv_iload_n hx hb dX5_suits_18 rfl (lv_at hl 2 rfl) ?_
  by_cases d_19 : x2 = 0
  · have e_x2 : x2 = 0 := d_19
    subst e_x2
    refine rdV (As := [.int 0, .int 0]) (ci := 5) S (c_X5_fills_3 l D cI cZ cJ o u) mi_X5_fills kw_6_31 ⟨rfl, rfl⟩ ⟨Nat.le_of_ble_eq_true rfl, Nat.le_of_ble_eq_true rfl⟩ hP hK xW_13 rfl rfl hl.1 (Nat.le_of_ble_eq_true rfl) ⟨Nat.le_of_ble_eq_true rfl, Nat.le_of_ble_eq_true rfl⟩ dX5_suits_19 ?_
    refine lv_if_eq (tgt := 112) hx hb dX5_suits_22 (by decide) (fun c => absurd c (by decide)) (fun _ => ?_)
    refine lv_aload_n hx hb dX5_suits_25 rfl (lv_at hl 0 rfl) ?_
    refine xgs S hB.z1 hS kw_3_228 rfl dX5_suits_26 ?_
    refine lv_iload_n hx hb dX5_suits_29 rfl (lv_at hl 1 rfl) ?_
    refine xti (v := 5) S hB.t1 hS (vin rfl) rfl dX5_suits_30 ?_
    refine lv_iload_n hx hb dX5_suits_31 rfl (lv_at hl 3 rfl) ?_
    refine rdV (As := [.int 5, .int x3]) (ci := 5) S (c_X5_fills_14 l D cI cZ cJ o u x3) mi_X5_fills kw_6_31 ⟨rfl, rfl⟩ ⟨Nat.le_of_ble_eq_true rfl, Nat.le_of_ble_eq_true rfl⟩ hP hK xW_13 rfl rfl hl.1 (Nat.le_of_ble_eq_true rfl) ⟨Nat.le_of_ble_eq_true rfl, Nat.le_of_ble_eq_true rfl⟩ dX5_suits_32 ?_
    refine lv_if_eq (tgt := 112) hx hb dX5_suits_35 (by decide) (fun _ => ?_) (fun c => absurd c (by decide))
    refine lv_iconst (v := 0) hx hb dX5_suits_112 (by decide) ?_
    exact wEndZ S hr hlocks hP hD hS (Nat.le_of_ble_eq_true rfl) (Nat.le_of_ble_eq_true rfl) dX5_suits_113 rfl rfl
  · have ne_x2_0 : ¬ x2 = 0 := d_19
    refine rdV (As := [.int 0, .int x2]) (ci := 5) S (c_X5_fills_10 l D cI cZ cJ o u x2 ne_x2_0) mi_X5_fills kw_6_31 ⟨rfl, rfl⟩ ⟨Nat.le_of_ble_eq_true rfl, Nat.le_of_ble_eq_true rfl⟩ hP hK xW_13 rfl rfl hl.1 (Nat.le_of_ble_eq_true rfl) ⟨Nat.le_of_ble_eq_true rfl, Nat.le_of_ble_eq_true rfl⟩ dX5_suits_19 ?_
    refine lv_if_eq (tgt := 112) hx hb dX5_suits_22 (by decide) (fun _ => ?_) (fun c => absurd c (by decide))
    refine lv_iconst (v := 0) hx hb dX5_suits_112 (by decide) ?_
    exact wEndZ S hr hlocks hP hD hS (Nat.le_of_ble_eq_true rfl) (Nat.le_of_ble_eq_true rfl) dX5_suits_113 rfl rfl

set_option maxHeartbeats 8000000 in
set_option maxRecDepth 100000 in
theorem c_X5_suits_33 (l : Launch) (D : va_G) (cI cZ cJ : ClassId) (o : Nat) (u : Nat → Nat) (ra ga : Nat → Nat) (sz : Nat) (x2 : Int32) (x3 : Int32) (x4 : Int32) : Met l yX5_suits (uW yX5_suits cX5_suits 5 (some .boolean)) ({ frames := 3, cells := 0, slots := 0, locals := 65 }) (va_Pc [.ref (u 12), .int 13, .int x2, .int x3, .int x4] (aS ra ga D (tyL cI cZ cJ) (xW o u cI cZ cJ) sz)) (wQi (0) D (xW o u cI cZ cJ) (va_A (xW o u cI cZ cJ) sz)) 0 0 (va_A (xW o u cI cZ cJ) sz) := by
  refine aStart (lv := [(0, .ref (u 12)), (1, .int 13), (2, .int x2), (3, .int x3), (4, .int x4)]) (Qc := fun A => wQi (0) D (xW o u cI cZ cJ) A) (by decide) (Nat.le_of_ble_eq_true rfl) rfl ?_
  intro p e s m args below meth c ls A H S hr hlocks hnm hl hK hP hD hS hA hB
  have hx := S.1
  have hb := S.2.1
  refine lv_iload_n hx hb dX5_suits_0 rfl (lv_at hl 1 rfl) ?_
  refine lv_if_lt (tgt := 10) hx hb dX5_suits_1 (by decide) (fun c => absurd c (by decide)) (fun _ => ?_)
  refine lv_iload_n hx hb dX5_suits_4 rfl (lv_at hl 1 rfl) ?_
  refine lv_bipush (v := 21) hx hb dX5_suits_5 (by decide) ?_
  refine lv_icmp_le (tgt := 12) hx hb dX5_suits_7 (by decide) (fun _ => ?_) (fun c => absurd c (by decide))
  refine lv_aload_n hx hb dX5_suits_12 rfl (lv_at hl 0 rfl) ?_
  refine xgs S hB.z0 hS kw_3_91 rfl dX5_suits_13 ?_
  refine lv_iload_n hx hb dX5_suits_16 rfl (lv_at hl 1 rfl) ?_
  refine xti (v := 2) S hB.t0 hS (vin rfl) rfl dX5_suits_17 ?_
  refine lv_iload_n hx hb dX5_suits_18 rfl (lv_at hl 2 rfl) ?_
  by_cases d_19 : x2 < 0
  · have hi_x2 : x2 ≤ (-1) := u_lt d_19 (by decide)
    refine aVi (As := [.int 2, .int x2]) (ci := 5) S (c_X5_fills_6 l D cI cZ cJ o u ra ga H.size x2 hi_x2) mi_X5_fills kw_6_31 rfl rfl ⟨Nat.le_of_ble_eq_true rfl, Nat.le_of_ble_eq_true rfl⟩ hP hD hK hS hA hB xW_13 rfl rfl hl.1 (Nat.le_of_ble_eq_true rfl) ⟨Nat.le_of_ble_eq_true rfl, Nat.le_of_ble_eq_true rfl⟩ dX5_suits_19 (fun H locs hz hP hD hS => ?_)
    refine lv_if_eq (tgt := 112) hx hb dX5_suits_22 (by decide) (fun _ => ?_) (fun c => absurd c (by decide))
    refine lv_iconst (v := 0) hx hb dX5_suits_112 (by decide) ?_
    exact wEndZ S hr hlocks hP hD hS (Nat.le_of_ble_eq_true rfl) (Nat.le_of_ble_eq_true rfl) dX5_suits_113 rfl rfl
  · have lo_x2 : 0 ≤ x2 := l_nlt d_19
    by_cases d_19 : 16 ≤ x2
    · have lo_x2 : 16 ≤ x2 := d_19
      refine aVi (As := [.int 2, .int x2]) (ci := 5) S (c_X5_fills_7 l D cI cZ cJ o u ra ga H.size x2 lo_x2) mi_X5_fills kw_6_31 rfl rfl ⟨Nat.le_of_ble_eq_true rfl, Nat.le_of_ble_eq_true rfl⟩ hP hD hK hS hA hB xW_13 rfl rfl hl.1 (Nat.le_of_ble_eq_true rfl) ⟨Nat.le_of_ble_eq_true rfl, Nat.le_of_ble_eq_true rfl⟩ dX5_suits_19 (fun H locs hz hP hD hS => ?_)
      refine lv_if_eq (tgt := 112) hx hb dX5_suits_22 (by decide) (fun _ => ?_) (fun c => absurd c (by decide))
      refine lv_iconst (v := 0) hx hb dX5_suits_112 (by decide) ?_
      exact wEndZ S hr hlocks hP hD hS (Nat.le_of_ble_eq_true rfl) (Nat.le_of_ble_eq_true rfl) dX5_suits_113 rfl rfl
    · have hi_x2 : x2 ≤ 15 := u_nge d_19 (by decide)
      refine aVi (As := [.int 2, .int x2]) (ci := 5) S (c_X5_fills_8 l D cI cZ cJ o u ra ga H.size x2 lo_x2 hi_x2) mi_X5_fills kw_6_31 rfl rfl ⟨Nat.le_of_ble_eq_true rfl, Nat.le_of_ble_eq_true rfl⟩ hP hD hK hS hA hB xW_13 rfl rfl hl.1 (Nat.le_of_ble_eq_true rfl) ⟨Nat.le_of_ble_eq_true rfl, Nat.le_of_ble_eq_true rfl⟩ dX5_suits_19 (fun H locs hz hP hD hS => ?_)
      refine lv_if_eq (tgt := 112) hx hb dX5_suits_22 (by decide) (fun c => absurd c (by decide)) (fun _ => ?_)
      refine lv_aload_n hx hb dX5_suits_25 rfl (lv_at hl 0 rfl) ?_
      refine xgs S hB.z1 hS kw_3_228 rfl dX5_suits_26 ?_
      refine lv_iload_n hx hb dX5_suits_29 rfl (lv_at hl 1 rfl) ?_
      refine xti (v := 4) S hB.t1 hS (vin rfl) rfl dX5_suits_30 ?_
      refine lv_iload_n hx hb dX5_suits_31 rfl (lv_at hl 3 rfl) ?_
      refine rdV (As := [.int 4, .int x3]) (ci := 5) S (c_X5_fills_9 l D cI cZ cJ o u x3) mi_X5_fills kw_6_31 ⟨rfl, rfl⟩ ⟨Nat.le_of_ble_eq_true rfl, Nat.le_of_ble_eq_true rfl⟩ hP hK xW_13 rfl rfl hl.1 (Nat.le_of_ble_eq_true rfl) ⟨Nat.le_of_ble_eq_true rfl, Nat.le_of_ble_eq_true rfl⟩ dX5_suits_32 ?_
      refine lv_if_eq (tgt := 112) hx hb dX5_suits_35 (by decide) (fun _ => ?_) (fun c => absurd c (by decide))
      refine lv_iconst (v := 0) hx hb dX5_suits_112 (by decide) ?_
      exact wEndZ S hr hlocks hP hD hS (Nat.le_of_ble_eq_true rfl) (Nat.le_of_ble_eq_true rfl) dX5_suits_113 rfl rfl

set_option maxHeartbeats 8000000 in
set_option maxRecDepth 100000 in
theorem c_X5_suits_34 (l : Launch) (D : va_G) (cI cZ cJ : ClassId) (o : Nat) (u : Nat → Nat) (ra ga : Nat → Nat) (sz : Nat) (x2 : Int32) (x3 : Int32) (x4 : Int32) : Met l yX5_suits (uW yX5_suits cX5_suits 5 (some .boolean)) ({ frames := 3, cells := 0, slots := 0, locals := 65 }) (va_Pc [.ref (u 12), .int 14, .int x2, .int x3, .int x4] (aS ra ga D (tyL cI cZ cJ) (xW o u cI cZ cJ) sz)) (wQi (0) D (xW o u cI cZ cJ) (va_A (xW o u cI cZ cJ) sz)) 0 0 (va_A (xW o u cI cZ cJ) sz) := by
  refine aStart (lv := [(0, .ref (u 12)), (1, .int 14), (2, .int x2), (3, .int x3), (4, .int x4)]) (Qc := fun A => wQi (0) D (xW o u cI cZ cJ) A) (by decide) (Nat.le_of_ble_eq_true rfl) rfl ?_
  intro p e s m args below meth c ls A H S hr hlocks hnm hl hK hP hD hS hA hB
  have hx := S.1
  have hb := S.2.1
  refine lv_iload_n hx hb dX5_suits_0 rfl (lv_at hl 1 rfl) ?_
  refine lv_if_lt (tgt := 10) hx hb dX5_suits_1 (by decide) (fun c => absurd c (by decide)) (fun _ => ?_)
  refine lv_iload_n hx hb dX5_suits_4 rfl (lv_at hl 1 rfl) ?_
  refine lv_bipush (v := 21) hx hb dX5_suits_5 (by decide) ?_
  refine lv_icmp_le (tgt := 12) hx hb dX5_suits_7 (by decide) (fun _ => ?_) (fun c => absurd c (by decide))
  refine lv_aload_n hx hb dX5_suits_12 rfl (lv_at hl 0 rfl) ?_
  refine xgs S hB.z0 hS kw_3_91 rfl dX5_suits_13 ?_
  refine lv_iload_n hx hb dX5_suits_16 rfl (lv_at hl 1 rfl) ?_
  refine xti (v := 2) S hB.t0 hS (vin rfl) rfl dX5_suits_17 ?_
  refine lv_iload_n hx hb dX5_suits_18 rfl (lv_at hl 2 rfl) ?_
  by_cases d_19 : x2 < 0
  · have hi_x2 : x2 ≤ (-1) := u_lt d_19 (by decide)
    refine aVi (As := [.int 2, .int x2]) (ci := 5) S (c_X5_fills_6 l D cI cZ cJ o u ra ga H.size x2 hi_x2) mi_X5_fills kw_6_31 rfl rfl ⟨Nat.le_of_ble_eq_true rfl, Nat.le_of_ble_eq_true rfl⟩ hP hD hK hS hA hB xW_13 rfl rfl hl.1 (Nat.le_of_ble_eq_true rfl) ⟨Nat.le_of_ble_eq_true rfl, Nat.le_of_ble_eq_true rfl⟩ dX5_suits_19 (fun H locs hz hP hD hS => ?_)
    refine lv_if_eq (tgt := 112) hx hb dX5_suits_22 (by decide) (fun _ => ?_) (fun c => absurd c (by decide))
    refine lv_iconst (v := 0) hx hb dX5_suits_112 (by decide) ?_
    exact wEndZ S hr hlocks hP hD hS (Nat.le_of_ble_eq_true rfl) (Nat.le_of_ble_eq_true rfl) dX5_suits_113 rfl rfl
  · have lo_x2 : 0 ≤ x2 := l_nlt d_19
    by_cases d_19 : 16 ≤ x2
    · have lo_x2 : 16 ≤ x2 := d_19
      refine aVi (As := [.int 2, .int x2]) (ci := 5) S (c_X5_fills_7 l D cI cZ cJ o u ra ga H.size x2 lo_x2) mi_X5_fills kw_6_31 rfl rfl ⟨Nat.le_of_ble_eq_true rfl, Nat.le_of_ble_eq_true rfl⟩ hP hD hK hS hA hB xW_13 rfl rfl hl.1 (Nat.le_of_ble_eq_true rfl) ⟨Nat.le_of_ble_eq_true rfl, Nat.le_of_ble_eq_true rfl⟩ dX5_suits_19 (fun H locs hz hP hD hS => ?_)
      refine lv_if_eq (tgt := 112) hx hb dX5_suits_22 (by decide) (fun _ => ?_) (fun c => absurd c (by decide))
      refine lv_iconst (v := 0) hx hb dX5_suits_112 (by decide) ?_
      exact wEndZ S hr hlocks hP hD hS (Nat.le_of_ble_eq_true rfl) (Nat.le_of_ble_eq_true rfl) dX5_suits_113 rfl rfl
    · have hi_x2 : x2 ≤ 15 := u_nge d_19 (by decide)
      refine aVi (As := [.int 2, .int x2]) (ci := 5) S (c_X5_fills_8 l D cI cZ cJ o u ra ga H.size x2 lo_x2 hi_x2) mi_X5_fills kw_6_31 rfl rfl ⟨Nat.le_of_ble_eq_true rfl, Nat.le_of_ble_eq_true rfl⟩ hP hD hK hS hA hB xW_13 rfl rfl hl.1 (Nat.le_of_ble_eq_true rfl) ⟨Nat.le_of_ble_eq_true rfl, Nat.le_of_ble_eq_true rfl⟩ dX5_suits_19 (fun H locs hz hP hD hS => ?_)
      refine lv_if_eq (tgt := 112) hx hb dX5_suits_22 (by decide) (fun c => absurd c (by decide)) (fun _ => ?_)
      refine lv_aload_n hx hb dX5_suits_25 rfl (lv_at hl 0 rfl) ?_
      refine xgs S hB.z1 hS kw_3_228 rfl dX5_suits_26 ?_
      refine lv_iload_n hx hb dX5_suits_29 rfl (lv_at hl 1 rfl) ?_
      refine xti (v := 4) S hB.t1 hS (vin rfl) rfl dX5_suits_30 ?_
      refine lv_iload_n hx hb dX5_suits_31 rfl (lv_at hl 3 rfl) ?_
      refine rdV (As := [.int 4, .int x3]) (ci := 5) S (c_X5_fills_9 l D cI cZ cJ o u x3) mi_X5_fills kw_6_31 ⟨rfl, rfl⟩ ⟨Nat.le_of_ble_eq_true rfl, Nat.le_of_ble_eq_true rfl⟩ hP hK xW_13 rfl rfl hl.1 (Nat.le_of_ble_eq_true rfl) ⟨Nat.le_of_ble_eq_true rfl, Nat.le_of_ble_eq_true rfl⟩ dX5_suits_32 ?_
      refine lv_if_eq (tgt := 112) hx hb dX5_suits_35 (by decide) (fun _ => ?_) (fun c => absurd c (by decide))
      refine lv_iconst (v := 0) hx hb dX5_suits_112 (by decide) ?_
      exact wEndZ S hr hlocks hP hD hS (Nat.le_of_ble_eq_true rfl) (Nat.le_of_ble_eq_true rfl) dX5_suits_113 rfl rfl

set_option maxHeartbeats 8000000 in
set_option maxRecDepth 100000 in
theorem c_X5_has_2 (l : Launch) (D : va_G) (cI cZ cJ : ClassId) (o : Nat) (u : Nat → Nat) (x2 : Int32) (ne_x2_m1 : ¬ x2 = (-1)) : Met l yX5_has (uW yX5_has cX5_has 2 (some .boolean)) ({ frames := 0, cells := 0, slots := 0, locals := 0 }) (va_Pc [.ref (u 12), .int x2] (pS D (tyL cI cZ cJ) (xW o u cI cZ cJ))) (QcRead (0)) 0 0 (fun _ => False) := by
  refine rdStart (lv := [(0, .ref (u 12)), (1, .int x2)]) (by decide) (Nat.le_of_ble_eq_true rfl) rfl ?_
  intro p e s m args below meth c ls S hr hlocks hl hP hK
  have hx := S.1
  have hb := S.2.1
  refine lv_iload_n hx hb dX5_has_0 rfl (lv_at hl 1 rfl) ?_
  refine lv_if_lt (tgt := 16) hx hb dX5_has_1 (by decide) (fun c_1 => ?_) (fun c_1 => ?_)
  · have hi_x2 : x2 ≤ (-1) := u_lt c_1 (by decide)
    have hi_x2 : x2 ≤ (-2) := u_ne ne_x2_m1 hi_x2 (by decide)
    refine lv_iconst (v := 0) hx hb dX5_has_16 (by decide) ?_
    exact rdEndZ S hr hlocks dX5_has_17 rfl rfl
  · have lo_x2 : 0 ≤ x2 := l_nlt c_1
    refine lv_iload_n hx hb dX5_has_4 rfl (lv_at hl 1 rfl) ?_
    refine lv_aload_n hx hb dX5_has_5 rfl (lv_at hl 0 rfl) ?_
    refine xg (ci := 5) S inX5 rfl hK hP xW_13 0 (by decide) rfl kw_1_107 rfl dX5_has_6 ?_
    refine lv_icmp_ge (tgt := 16) hx hb dX5_has_9 (by decide) (fun _ => ?_) (fun c => absurd (b_ge lo_x2 (by decide)) c)
    refine lv_iconst (v := 0) hx hb dX5_has_16 (by decide) ?_
    exact rdEndZ S hr hlocks dX5_has_17 rfl rfl

set_option maxHeartbeats 8000000 in
set_option maxRecDepth 100000 in
theorem c_X5_isPartFor_4 (l : Launch) (D : va_G) (cI cZ cJ : ClassId) (o : Nat) (u : Nat → Nat) (x2 : Int32) (ne_x2_m1 : ¬ x2 = (-1)) : Met l yX5_isPartFor (uW yX5_isPartFor cX5_isPartFor 3 (some .boolean)) ({ frames := 1, cells := 0, slots := 0, locals := 21 }) (va_Pc [.ref (u 12), .int 6, .int x2] (pS D (tyL cI cZ cJ) (xW o u cI cZ cJ))) (QcRead (0)) 0 0 (fun _ => False) := by
  refine rdStart (lv := [(0, .ref (u 12)), (1, .int 6), (2, .int x2)]) (by decide) (Nat.le_of_ble_eq_true rfl) rfl ?_
  intro p e s m args below meth c ls S hr hlocks hl hP hK
  have hx := S.1
  have hb := S.2.1
  refine lv_aload_n hx hb dX5_isPartFor_0 rfl (lv_at hl 0 rfl) ?_
  refine lv_iload_n hx hb dX5_isPartFor_1 rfl (lv_at hl 2 rfl) ?_
  refine rdV (As := [.int x2]) (ci := 5) S (c_X5_has_2 l D cI cZ cJ o u x2 ne_x2_m1) mi_X5_has kw_6_40 ⟨rfl, rfl⟩ ⟨Nat.le_of_ble_eq_true rfl, Nat.le_of_ble_eq_true rfl⟩ hP hK xW_13 rfl rfl hl.1 (Nat.le_of_ble_eq_true rfl) ⟨Nat.le_of_ble_eq_true rfl, Nat.le_of_ble_eq_true rfl⟩ dX5_isPartFor_2 ?_
  refine lv_if_eq (tgt := 16) hx hb dX5_isPartFor_5 (by decide) (fun _ => ?_) (fun c => absurd c (by decide))
  refine lv_iconst (v := 0) hx hb dX5_isPartFor_16 (by decide) ?_
  exact rdEndZ S hr hlocks dX5_isPartFor_17 rfl rfl

set_option maxHeartbeats 8000000 in
set_option maxRecDepth 100000 in
theorem c_X5_fills_15 (l : Launch) (D : va_G) (cI cZ cJ : ClassId) (o : Nat) (u : Nat → Nat) : Met l yX5_fills (uW yX5_fills cX5_fills 3 (some .boolean)) ({ frames := 0, cells := 0, slots := 0, locals := 0 }) (va_Pc [.ref (u 12), .int 6, .int (-1)] (pS D (tyL cI cZ cJ) (xW o u cI cZ cJ))) (QcRead (1)) 0 0 (fun _ => False) := by
  refine rdStart (lv := [(0, .ref (u 12)), (1, .int 6), (2, .int (-1))]) (by decide) (Nat.le_of_ble_eq_true rfl) rfl ?_
  intro p e s m args below meth c ls S hr hlocks hl hP hK
  have hx := S.1
  have hb := S.2.1
  refine lv_iload_n hx hb dX5_fills_0 rfl (lv_at hl 1 rfl) ?_
  refine lv_tableIn (off := 98) (tgt := 99) hx hb dX5_fills_1 (by decide) (by decide) (by decide) (by decide) ?_
  refine lv_iload_n hx hb dX5_fills_99 rfl (lv_at hl 2 rfl) ?_
  refine lv_iconst (v := (-1)) hx hb dX5_fills_100 (by decide) ?_
  refine lv_icmp_eq (tgt := 113) hx hb dX5_fills_101 (by decide) (fun _ => ?_) (fun c => absurd c (by decide))
  refine lv_iconst (v := 1) hx hb dX5_fills_113 (by decide) ?_
  refine lv_goto (tgt := 118) hx hb dX5_fills_114 (by decide) ?_
  exact rdEndZ S hr hlocks dX5_fills_118 rfl rfl

set_option maxHeartbeats 8000000 in
set_option maxRecDepth 100000 in
theorem c_X5_fills_16 (l : Launch) (D : va_G) (cI cZ cJ : ClassId) (o : Nat) (u : Nat → Nat) (x2 : Int32) (ne_x2_m1 : ¬ x2 = (-1)) : Met l yX5_fills (uW yX5_fills cX5_fills 3 (some .boolean)) ({ frames := 2, cells := 0, slots := 0, locals := 43 }) (va_Pc [.ref (u 12), .int 6, .int x2] (pS D (tyL cI cZ cJ) (xW o u cI cZ cJ))) (QcRead (0)) 0 0 (fun _ => False) := by
  refine rdStart (lv := [(0, .ref (u 12)), (1, .int 6), (2, .int x2)]) (by decide) (Nat.le_of_ble_eq_true rfl) rfl ?_
  intro p e s m args below meth c ls S hr hlocks hl hP hK
  have hx := S.1
  have hb := S.2.1
  refine lv_iload_n hx hb dX5_fills_0 rfl (lv_at hl 1 rfl) ?_
  refine lv_tableIn (off := 98) (tgt := 99) hx hb dX5_fills_1 (by decide) (by decide) (by decide) (by decide) ?_
  refine lv_iload_n hx hb dX5_fills_99 rfl (lv_at hl 2 rfl) ?_
  refine lv_iconst (v := (-1)) hx hb dX5_fills_100 (by decide) ?_
  refine lv_icmp_eq (tgt := 113) hx hb dX5_fills_101 (by decide) (fun c => absurd c ne_x2_m1) (fun _ => ?_)
  refine lv_aload_n hx hb dX5_fills_104 rfl (lv_at hl 0 rfl) ?_
  refine lv_iload_n hx hb dX5_fills_105 rfl (lv_at hl 1 rfl) ?_
  refine lv_iload_n hx hb dX5_fills_106 rfl (lv_at hl 2 rfl) ?_
  refine rdV (As := [.int 6, .int x2]) (ci := 5) S (c_X5_isPartFor_4 l D cI cZ cJ o u x2 ne_x2_m1) mi_X5_isPartFor kw_6_36 ⟨rfl, rfl⟩ ⟨Nat.le_of_ble_eq_true rfl, Nat.le_of_ble_eq_true rfl⟩ hP hK xW_13 rfl rfl hl.1 (Nat.le_of_ble_eq_true rfl) ⟨Nat.le_of_ble_eq_true rfl, Nat.le_of_ble_eq_true rfl⟩ dX5_fills_107 ?_
  refine lv_if_eq (tgt := 117) hx hb dX5_fills_110 (by decide) (fun _ => ?_) (fun c => absurd c (by decide))
  refine lv_iconst (v := 0) hx hb dX5_fills_117 (by decide) ?_
  exact rdEndZ S hr hlocks dX5_fills_118 rfl rfl

set_option maxHeartbeats 8000000 in
set_option maxRecDepth 100000 in
theorem c_X5_suits_35 (l : Launch) (D : va_G) (cI cZ cJ : ClassId) (o : Nat) (u : Nat → Nat) (ra ga : Nat → Nat) (sz : Nat) (x2 : Int32) (x3 : Int32) (x4 : Int32) : Met l yX5_suits (uW yX5_suits cX5_suits 5 (some .boolean)) ({ frames := 3, cells := 0, slots := 0, locals := 65 }) (va_Pc [.ref (u 12), .int 15, .int x2, .int x3, .int x4] (aS ra ga D (tyL cI cZ cJ) (xW o u cI cZ cJ) sz)) (wQi (0) D (xW o u cI cZ cJ) (va_A (xW o u cI cZ cJ) sz)) 0 0 (va_A (xW o u cI cZ cJ) sz) := by
  refine aStart (lv := [(0, .ref (u 12)), (1, .int 15), (2, .int x2), (3, .int x3), (4, .int x4)]) (Qc := fun A => wQi (0) D (xW o u cI cZ cJ) A) (by decide) (Nat.le_of_ble_eq_true rfl) rfl ?_
  intro p e s m args below meth c ls A H S hr hlocks hnm hl hK hP hD hS hA hB
  have hx := S.1
  have hb := S.2.1
  refine lv_iload_n hx hb dX5_suits_0 rfl (lv_at hl 1 rfl) ?_
  refine lv_if_lt (tgt := 10) hx hb dX5_suits_1 (by decide) (fun c => absurd c (by decide)) (fun _ => ?_)
  refine lv_iload_n hx hb dX5_suits_4 rfl (lv_at hl 1 rfl) ?_
  refine lv_bipush (v := 21) hx hb dX5_suits_5 (by decide) ?_
  refine lv_icmp_le (tgt := 12) hx hb dX5_suits_7 (by decide) (fun _ => ?_) (fun c => absurd c (by decide))
  refine lv_aload_n hx hb dX5_suits_12 rfl (lv_at hl 0 rfl) ?_
  refine xgs S hB.z0 hS kw_3_91 rfl dX5_suits_13 ?_
  refine lv_iload_n hx hb dX5_suits_16 rfl (lv_at hl 1 rfl) ?_
  refine xti (v := 6) S hB.t0 hS (vin rfl) rfl dX5_suits_17 ?_
  refine lv_iload_n hx hb dX5_suits_18 rfl (lv_at hl 2 rfl) ?_
  by_cases d_19 : x2 = (-1)
  · have e_x2 : x2 = (-1) := d_19
    subst e_x2
    refine rdV (As := [.int 6, .int (-1)]) (ci := 5) S (c_X5_fills_15 l D cI cZ cJ o u) mi_X5_fills kw_6_31 ⟨rfl, rfl⟩ ⟨Nat.le_of_ble_eq_true rfl, Nat.le_of_ble_eq_true rfl⟩ hP hK xW_13 rfl rfl hl.1 (Nat.le_of_ble_eq_true rfl) ⟨Nat.le_of_ble_eq_true rfl, Nat.le_of_ble_eq_true rfl⟩ dX5_suits_19 ?_
    refine lv_if_eq (tgt := 112) hx hb dX5_suits_22 (by decide) (fun c => absurd c (by decide)) (fun _ => ?_)
    refine lv_aload_n hx hb dX5_suits_25 rfl (lv_at hl 0 rfl) ?_
    refine xgs S hB.z1 hS kw_3_228 rfl dX5_suits_26 ?_
    refine lv_iload_n hx hb dX5_suits_29 rfl (lv_at hl 1 rfl) ?_
    refine xti (v := 4) S hB.t1 hS (vin rfl) rfl dX5_suits_30 ?_
    refine lv_iload_n hx hb dX5_suits_31 rfl (lv_at hl 3 rfl) ?_
    refine rdV (As := [.int 4, .int x3]) (ci := 5) S (c_X5_fills_9 l D cI cZ cJ o u x3) mi_X5_fills kw_6_31 ⟨rfl, rfl⟩ ⟨Nat.le_of_ble_eq_true rfl, Nat.le_of_ble_eq_true rfl⟩ hP hK xW_13 rfl rfl hl.1 (Nat.le_of_ble_eq_true rfl) ⟨Nat.le_of_ble_eq_true rfl, Nat.le_of_ble_eq_true rfl⟩ dX5_suits_32 ?_
    refine lv_if_eq (tgt := 112) hx hb dX5_suits_35 (by decide) (fun _ => ?_) (fun c => absurd c (by decide))
    refine lv_iconst (v := 0) hx hb dX5_suits_112 (by decide) ?_
    exact wEndZ S hr hlocks hP hD hS (Nat.le_of_ble_eq_true rfl) (Nat.le_of_ble_eq_true rfl) dX5_suits_113 rfl rfl
  · have ne_x2_m1 : ¬ x2 = (-1) := d_19
    refine rdV (As := [.int 6, .int x2]) (ci := 5) S (c_X5_fills_16 l D cI cZ cJ o u x2 ne_x2_m1) mi_X5_fills kw_6_31 ⟨rfl, rfl⟩ ⟨Nat.le_of_ble_eq_true rfl, Nat.le_of_ble_eq_true rfl⟩ hP hK xW_13 rfl rfl hl.1 (Nat.le_of_ble_eq_true rfl) ⟨Nat.le_of_ble_eq_true rfl, Nat.le_of_ble_eq_true rfl⟩ dX5_suits_19 ?_
    refine lv_if_eq (tgt := 112) hx hb dX5_suits_22 (by decide) (fun _ => ?_) (fun c => absurd c (by decide))
    refine lv_iconst (v := 0) hx hb dX5_suits_112 (by decide) ?_
    exact wEndZ S hr hlocks hP hD hS (Nat.le_of_ble_eq_true rfl) (Nat.le_of_ble_eq_true rfl) dX5_suits_113 rfl rfl

set_option maxHeartbeats 8000000 in
set_option maxRecDepth 100000 in
theorem c_X5_fills_17 (l : Launch) (D : va_G) (cI cZ cJ : ClassId) (o : Nat) (u : Nat → Nat) (x2 : Int32) (hi_x2 : x2 ≤ (-1)) : Met l yX5_fills (uW yX5_fills cX5_fills 3 (some .boolean)) ({ frames := 0, cells := 0, slots := 0, locals := 0 }) (va_Pc [.ref (u 12), .int 3, .int x2] (pS D (tyL cI cZ cJ) (xW o u cI cZ cJ))) (QcRead (0)) 0 0 (fun _ => False) := by
  refine rdStart (lv := [(0, .ref (u 12)), (1, .int 3), (2, .int x2)]) (by decide) (Nat.le_of_ble_eq_true rfl) rfl ?_
  intro p e s m args below meth c ls S hr hlocks hl hP hK
  have hx := S.1
  have hb := S.2.1
  refine lv_iload_n hx hb dX5_fills_0 rfl (lv_at hl 1 rfl) ?_
  refine lv_tableIn (off := 82) (tgt := 83) hx hb dX5_fills_1 (by decide) (by decide) (by decide) (by decide) ?_
  refine lv_iload_n hx hb dX5_fills_83 rfl (lv_at hl 2 rfl) ?_
  refine lv_if_lt (tgt := 97) hx hb dX5_fills_84 (by decide) (fun _ => ?_) (fun c => absurd (b_lt hi_x2 (by decide)) c)
  refine lv_iconst (v := 0) hx hb dX5_fills_97 (by decide) ?_
  exact rdEndZ S hr hlocks dX5_fills_98 rfl rfl

set_option maxHeartbeats 8000000 in
set_option maxRecDepth 100000 in
theorem c_X5_fills_18 (l : Launch) (D : va_G) (cI cZ cJ : ClassId) (o : Nat) (u : Nat → Nat) (x2 : Int32) (lo_x2 : 10 ≤ x2) : Met l yX5_fills (uW yX5_fills cX5_fills 3 (some .boolean)) ({ frames := 0, cells := 0, slots := 0, locals := 0 }) (va_Pc [.ref (u 12), .int 3, .int x2] (pS D (tyL cI cZ cJ) (xW o u cI cZ cJ))) (QcRead (0)) 0 0 (fun _ => False) := by
  refine rdStart (lv := [(0, .ref (u 12)), (1, .int 3), (2, .int x2)]) (by decide) (Nat.le_of_ble_eq_true rfl) rfl ?_
  intro p e s m args below meth c ls S hr hlocks hl hP hK
  have hx := S.1
  have hb := S.2.1
  refine lv_iload_n hx hb dX5_fills_0 rfl (lv_at hl 1 rfl) ?_
  refine lv_tableIn (off := 82) (tgt := 83) hx hb dX5_fills_1 (by decide) (by decide) (by decide) (by decide) ?_
  refine lv_iload_n hx hb dX5_fills_83 rfl (lv_at hl 2 rfl) ?_
  refine lv_if_lt (tgt := 97) hx hb dX5_fills_84 (by decide) (fun c => absurd c (b_nlt lo_x2 (by decide))) (fun _ => ?_)
  refine lv_iload_n hx hb dX5_fills_87 rfl (lv_at hl 2 rfl) ?_
  refine lv_bipush (v := 10) hx hb dX5_fills_88 (by decide) ?_
  refine lv_icmp_ge (tgt := 97) hx hb dX5_fills_90 (by decide) (fun _ => ?_) (fun c => absurd (b_ge lo_x2 (by decide)) c)
  refine lv_iconst (v := 0) hx hb dX5_fills_97 (by decide) ?_
  exact rdEndZ S hr hlocks dX5_fills_98 rfl rfl

set_option maxHeartbeats 8000000 in
set_option maxRecDepth 100000 in
theorem c_X5_fills_19 (l : Launch) (D : va_G) (cI cZ cJ : ClassId) (o : Nat) (u : Nat → Nat) (x2 : Int32) (lo_x2 : 0 ≤ x2) (hi_x2 : x2 ≤ 9) : Met l yX5_fills (uW yX5_fills cX5_fills 3 (some .boolean)) ({ frames := 0, cells := 0, slots := 0, locals := 0 }) (va_Pc [.ref (u 12), .int 3, .int x2] (pS D (tyL cI cZ cJ) (xW o u cI cZ cJ))) (QcRead (1)) 0 0 (fun _ => False) := by
  refine rdStart (lv := [(0, .ref (u 12)), (1, .int 3), (2, .int x2)]) (by decide) (Nat.le_of_ble_eq_true rfl) rfl ?_
  intro p e s m args below meth c ls S hr hlocks hl hP hK
  have hx := S.1
  have hb := S.2.1
  refine lv_iload_n hx hb dX5_fills_0 rfl (lv_at hl 1 rfl) ?_
  refine lv_tableIn (off := 82) (tgt := 83) hx hb dX5_fills_1 (by decide) (by decide) (by decide) (by decide) ?_
  refine lv_iload_n hx hb dX5_fills_83 rfl (lv_at hl 2 rfl) ?_
  refine lv_if_lt (tgt := 97) hx hb dX5_fills_84 (by decide) (fun c => absurd c (b_nlt lo_x2 (by decide))) (fun _ => ?_)
  refine lv_iload_n hx hb dX5_fills_87 rfl (lv_at hl 2 rfl) ?_
  refine lv_bipush (v := 10) hx hb dX5_fills_88 (by decide) ?_
  refine lv_icmp_ge (tgt := 97) hx hb dX5_fills_90 (by decide) (fun c => absurd c (b_nge hi_x2 (by decide))) (fun _ => ?_)
  refine lv_iconst (v := 1) hx hb dX5_fills_93 (by decide) ?_
  refine lv_goto (tgt := 98) hx hb dX5_fills_94 (by decide) ?_
  exact rdEndZ S hr hlocks dX5_fills_98 rfl rfl

set_option maxHeartbeats 8000000 in
set_option maxRecDepth 100000 in
theorem c_X5_suits_36 (l : Launch) (D : va_G) (cI cZ cJ : ClassId) (o : Nat) (u : Nat → Nat) (ra ga : Nat → Nat) (sz : Nat) (x2 : Int32) (x3 : Int32) (x4 : Int32) : Met l yX5_suits (uW yX5_suits cX5_suits 5 (some .boolean)) ({ frames := 3, cells := 0, slots := 0, locals := 65 }) (va_Pc [.ref (u 12), .int 16, .int x2, .int x3, .int x4] (aS ra ga D (tyL cI cZ cJ) (xW o u cI cZ cJ) sz)) (wQi (0) D (xW o u cI cZ cJ) (va_A (xW o u cI cZ cJ) sz)) 0 0 (va_A (xW o u cI cZ cJ) sz) := by
  refine aStart (lv := [(0, .ref (u 12)), (1, .int 16), (2, .int x2), (3, .int x3), (4, .int x4)]) (Qc := fun A => wQi (0) D (xW o u cI cZ cJ) A) (by decide) (Nat.le_of_ble_eq_true rfl) rfl ?_
  intro p e s m args below meth c ls A H S hr hlocks hnm hl hK hP hD hS hA hB
  have hx := S.1
  have hb := S.2.1
  refine lv_iload_n hx hb dX5_suits_0 rfl (lv_at hl 1 rfl) ?_
  refine lv_if_lt (tgt := 10) hx hb dX5_suits_1 (by decide) (fun c => absurd c (by decide)) (fun _ => ?_)
  refine lv_iload_n hx hb dX5_suits_4 rfl (lv_at hl 1 rfl) ?_
  refine lv_bipush (v := 21) hx hb dX5_suits_5 (by decide) ?_
  refine lv_icmp_le (tgt := 12) hx hb dX5_suits_7 (by decide) (fun _ => ?_) (fun c => absurd c (by decide))
  refine lv_aload_n hx hb dX5_suits_12 rfl (lv_at hl 0 rfl) ?_
  refine xgs S hB.z0 hS kw_3_91 rfl dX5_suits_13 ?_
  refine lv_iload_n hx hb dX5_suits_16 rfl (lv_at hl 1 rfl) ?_
  refine xti (v := 3) S hB.t0 hS (vin rfl) rfl dX5_suits_17 ?_
  refine lv_iload_n hx hb dX5_suits_18 rfl (lv_at hl 2 rfl) ?_
  by_cases d_19 : x2 < 0
  · have hi_x2 : x2 ≤ (-1) := u_lt d_19 (by decide)
    refine rdV (As := [.int 3, .int x2]) (ci := 5) S (c_X5_fills_17 l D cI cZ cJ o u x2 hi_x2) mi_X5_fills kw_6_31 ⟨rfl, rfl⟩ ⟨Nat.le_of_ble_eq_true rfl, Nat.le_of_ble_eq_true rfl⟩ hP hK xW_13 rfl rfl hl.1 (Nat.le_of_ble_eq_true rfl) ⟨Nat.le_of_ble_eq_true rfl, Nat.le_of_ble_eq_true rfl⟩ dX5_suits_19 ?_
    refine lv_if_eq (tgt := 112) hx hb dX5_suits_22 (by decide) (fun _ => ?_) (fun c => absurd c (by decide))
    refine lv_iconst (v := 0) hx hb dX5_suits_112 (by decide) ?_
    exact wEndZ S hr hlocks hP hD hS (Nat.le_of_ble_eq_true rfl) (Nat.le_of_ble_eq_true rfl) dX5_suits_113 rfl rfl
  · have lo_x2 : 0 ≤ x2 := l_nlt d_19
    by_cases d_19 : 10 ≤ x2
    · have lo_x2 : 10 ≤ x2 := d_19
      refine rdV (As := [.int 3, .int x2]) (ci := 5) S (c_X5_fills_18 l D cI cZ cJ o u x2 lo_x2) mi_X5_fills kw_6_31 ⟨rfl, rfl⟩ ⟨Nat.le_of_ble_eq_true rfl, Nat.le_of_ble_eq_true rfl⟩ hP hK xW_13 rfl rfl hl.1 (Nat.le_of_ble_eq_true rfl) ⟨Nat.le_of_ble_eq_true rfl, Nat.le_of_ble_eq_true rfl⟩ dX5_suits_19 ?_
      refine lv_if_eq (tgt := 112) hx hb dX5_suits_22 (by decide) (fun _ => ?_) (fun c => absurd c (by decide))
      refine lv_iconst (v := 0) hx hb dX5_suits_112 (by decide) ?_
      exact wEndZ S hr hlocks hP hD hS (Nat.le_of_ble_eq_true rfl) (Nat.le_of_ble_eq_true rfl) dX5_suits_113 rfl rfl
    · have hi_x2 : x2 ≤ 9 := u_nge d_19 (by decide)
      refine rdV (As := [.int 3, .int x2]) (ci := 5) S (c_X5_fills_19 l D cI cZ cJ o u x2 lo_x2 hi_x2) mi_X5_fills kw_6_31 ⟨rfl, rfl⟩ ⟨Nat.le_of_ble_eq_true rfl, Nat.le_of_ble_eq_true rfl⟩ hP hK xW_13 rfl rfl hl.1 (Nat.le_of_ble_eq_true rfl) ⟨Nat.le_of_ble_eq_true rfl, Nat.le_of_ble_eq_true rfl⟩ dX5_suits_19 ?_
      refine lv_if_eq (tgt := 112) hx hb dX5_suits_22 (by decide) (fun c => absurd c (by decide)) (fun _ => ?_)
      refine lv_aload_n hx hb dX5_suits_25 rfl (lv_at hl 0 rfl) ?_
      refine xgs S hB.z1 hS kw_3_228 rfl dX5_suits_26 ?_
      refine lv_iload_n hx hb dX5_suits_29 rfl (lv_at hl 1 rfl) ?_
      refine xti (v := 4) S hB.t1 hS (vin rfl) rfl dX5_suits_30 ?_
      refine lv_iload_n hx hb dX5_suits_31 rfl (lv_at hl 3 rfl) ?_
      refine rdV (As := [.int 4, .int x3]) (ci := 5) S (c_X5_fills_9 l D cI cZ cJ o u x3) mi_X5_fills kw_6_31 ⟨rfl, rfl⟩ ⟨Nat.le_of_ble_eq_true rfl, Nat.le_of_ble_eq_true rfl⟩ hP hK xW_13 rfl rfl hl.1 (Nat.le_of_ble_eq_true rfl) ⟨Nat.le_of_ble_eq_true rfl, Nat.le_of_ble_eq_true rfl⟩ dX5_suits_32 ?_
      refine lv_if_eq (tgt := 112) hx hb dX5_suits_35 (by decide) (fun _ => ?_) (fun c => absurd c (by decide))
      refine lv_iconst (v := 0) hx hb dX5_suits_112 (by decide) ?_
      exact wEndZ S hr hlocks hP hD hS (Nat.le_of_ble_eq_true rfl) (Nat.le_of_ble_eq_true rfl) dX5_suits_113 rfl rfl

set_option maxHeartbeats 8000000 in
set_option maxRecDepth 100000 in
theorem c_X5_isSamePart_5 (l : Launch) (D : va_G) (cI cZ cJ : ClassId) (o : Nat) (u : Nat → Nat) (x2 : Int32) (lo_x2 : 0 ≤ x2) (hi_x2 : x2 ≤ 9) : Met l yX5_isSamePart (uW yX5_isSamePart cX5_isSamePart 4 (some .boolean)) ({ frames := 0, cells := 0, slots := 0, locals := 0 }) (va_Pc [.int 3, .int x2, .int 0, .int 0] (pS D (tyL cI cZ cJ) (xW o u cI cZ cJ))) (QcRead (0)) 0 0 (fun _ => False) := by
  refine rdStart (lv := [(0, .int 3), (1, .int x2), (2, .int 0), (3, .int 0)]) (by decide) (Nat.le_of_ble_eq_true rfl) rfl ?_
  intro p e s m args below meth c ls S hr hlocks hl hP hK
  have hx := S.1
  have hb := S.2.1
  refine lv_iload_n hx hb dX5_isSamePart_0 rfl (lv_at hl 0 rfl) ?_
  refine lv_iconst (v := 4) hx hb dX5_isSamePart_1 (by decide) ?_
  refine lv_icmp_lt (tgt := 24) hx hb dX5_isSamePart_2 (by decide) (fun _ => ?_) (fun c => absurd c (by decide))
  refine lv_iconst (v := 0) hx hb dX5_isSamePart_24 (by decide) ?_
  exact rdEndZ S hr hlocks dX5_isSamePart_25 rfl rfl

set_option maxHeartbeats 8000000 in
set_option maxRecDepth 100000 in
theorem c_X5_suits_37 (l : Launch) (D : va_G) (cI cZ cJ : ClassId) (o : Nat) (u : Nat → Nat) (ra ga : Nat → Nat) (sz : Nat) (x2 : Int32) (x3 : Int32) (x4 : Int32) (hi_x2 : x2 ≤ (-1)) : Met l yX5_suits (uW yX5_suits cX5_suits 5 (some .boolean)) ({ frames := 1, cells := 0, slots := 0, locals := 22 }) (va_Pc [.ref (u 12), .int 17, .int x2, .int x3, .int x4] (aS ra ga D (tyL cI cZ cJ) (xW o u cI cZ cJ) sz)) (wQi (0) D (xW o u cI cZ cJ) (va_A (xW o u cI cZ cJ) sz)) 0 0 (va_A (xW o u cI cZ cJ) sz) := by
  refine aStart (lv := [(0, .ref (u 12)), (1, .int 17), (2, .int x2), (3, .int x3), (4, .int x4)]) (Qc := fun A => wQi (0) D (xW o u cI cZ cJ) A) (by decide) (Nat.le_of_ble_eq_true rfl) rfl ?_
  intro p e s m args below meth c ls A H S hr hlocks hnm hl hK hP hD hS hA hB
  have hx := S.1
  have hb := S.2.1
  refine lv_iload_n hx hb dX5_suits_0 rfl (lv_at hl 1 rfl) ?_
  refine lv_if_lt (tgt := 10) hx hb dX5_suits_1 (by decide) (fun c => absurd c (by decide)) (fun _ => ?_)
  refine lv_iload_n hx hb dX5_suits_4 rfl (lv_at hl 1 rfl) ?_
  refine lv_bipush (v := 21) hx hb dX5_suits_5 (by decide) ?_
  refine lv_icmp_le (tgt := 12) hx hb dX5_suits_7 (by decide) (fun _ => ?_) (fun c => absurd c (by decide))
  refine lv_aload_n hx hb dX5_suits_12 rfl (lv_at hl 0 rfl) ?_
  refine xgs S hB.z0 hS kw_3_91 rfl dX5_suits_13 ?_
  refine lv_iload_n hx hb dX5_suits_16 rfl (lv_at hl 1 rfl) ?_
  refine xti (v := 3) S hB.t0 hS (vin rfl) rfl dX5_suits_17 ?_
  refine lv_iload_n hx hb dX5_suits_18 rfl (lv_at hl 2 rfl) ?_
  refine rdV (As := [.int 3, .int x2]) (ci := 5) S (c_X5_fills_17 l D cI cZ cJ o u x2 hi_x2) mi_X5_fills kw_6_31 ⟨rfl, rfl⟩ ⟨Nat.le_of_ble_eq_true rfl, Nat.le_of_ble_eq_true rfl⟩ hP hK xW_13 rfl rfl hl.1 (Nat.le_of_ble_eq_true rfl) ⟨Nat.le_of_ble_eq_true rfl, Nat.le_of_ble_eq_true rfl⟩ dX5_suits_19 ?_
  refine lv_if_eq (tgt := 112) hx hb dX5_suits_22 (by decide) (fun _ => ?_) (fun c => absurd c (by decide))
  refine lv_iconst (v := 0) hx hb dX5_suits_112 (by decide) ?_
  exact wEndZ S hr hlocks hP hD hS (Nat.le_of_ble_eq_true rfl) (Nat.le_of_ble_eq_true rfl) dX5_suits_113 rfl rfl

set_option maxHeartbeats 8000000 in
set_option maxRecDepth 100000 in
theorem c_X5_suits_38 (l : Launch) (D : va_G) (cI cZ cJ : ClassId) (o : Nat) (u : Nat → Nat) (ra ga : Nat → Nat) (sz : Nat) (x2 : Int32) (x3 : Int32) (x4 : Int32) (lo_x2 : 10 ≤ x2) : Met l yX5_suits (uW yX5_suits cX5_suits 5 (some .boolean)) ({ frames := 1, cells := 0, slots := 0, locals := 22 }) (va_Pc [.ref (u 12), .int 17, .int x2, .int x3, .int x4] (aS ra ga D (tyL cI cZ cJ) (xW o u cI cZ cJ) sz)) (wQi (0) D (xW o u cI cZ cJ) (va_A (xW o u cI cZ cJ) sz)) 0 0 (va_A (xW o u cI cZ cJ) sz) := by
  refine aStart (lv := [(0, .ref (u 12)), (1, .int 17), (2, .int x2), (3, .int x3), (4, .int x4)]) (Qc := fun A => wQi (0) D (xW o u cI cZ cJ) A) (by decide) (Nat.le_of_ble_eq_true rfl) rfl ?_
  intro p e s m args below meth c ls A H S hr hlocks hnm hl hK hP hD hS hA hB
  have hx := S.1
  have hb := S.2.1
  refine lv_iload_n hx hb dX5_suits_0 rfl (lv_at hl 1 rfl) ?_
  refine lv_if_lt (tgt := 10) hx hb dX5_suits_1 (by decide) (fun c => absurd c (by decide)) (fun _ => ?_)
  refine lv_iload_n hx hb dX5_suits_4 rfl (lv_at hl 1 rfl) ?_
  refine lv_bipush (v := 21) hx hb dX5_suits_5 (by decide) ?_
  refine lv_icmp_le (tgt := 12) hx hb dX5_suits_7 (by decide) (fun _ => ?_) (fun c => absurd c (by decide))
  refine lv_aload_n hx hb dX5_suits_12 rfl (lv_at hl 0 rfl) ?_
  refine xgs S hB.z0 hS kw_3_91 rfl dX5_suits_13 ?_
  refine lv_iload_n hx hb dX5_suits_16 rfl (lv_at hl 1 rfl) ?_
  refine xti (v := 3) S hB.t0 hS (vin rfl) rfl dX5_suits_17 ?_
  refine lv_iload_n hx hb dX5_suits_18 rfl (lv_at hl 2 rfl) ?_
  refine rdV (As := [.int 3, .int x2]) (ci := 5) S (c_X5_fills_18 l D cI cZ cJ o u x2 lo_x2) mi_X5_fills kw_6_31 ⟨rfl, rfl⟩ ⟨Nat.le_of_ble_eq_true rfl, Nat.le_of_ble_eq_true rfl⟩ hP hK xW_13 rfl rfl hl.1 (Nat.le_of_ble_eq_true rfl) ⟨Nat.le_of_ble_eq_true rfl, Nat.le_of_ble_eq_true rfl⟩ dX5_suits_19 ?_
  refine lv_if_eq (tgt := 112) hx hb dX5_suits_22 (by decide) (fun _ => ?_) (fun c => absurd c (by decide))
  refine lv_iconst (v := 0) hx hb dX5_suits_112 (by decide) ?_
  exact wEndZ S hr hlocks hP hD hS (Nat.le_of_ble_eq_true rfl) (Nat.le_of_ble_eq_true rfl) dX5_suits_113 rfl rfl

set_option maxHeartbeats 8000000 in
set_option maxRecDepth 100000 in
theorem c_X5_suits_39 (l : Launch) (D : va_G) (cI cZ cJ : ClassId) (o : Nat) (u : Nat → Nat) (ra ga : Nat → Nat) (sz : Nat) (x2 : Int32) (lo_x2 : 0 ≤ x2) (hi_x2 : x2 ≤ 9) : Met l yX5_suits (uW yX5_suits cX5_suits 5 (some .boolean)) ({ frames := 1, cells := 0, slots := 0, locals := 23 }) (va_Pc [.ref (u 12), .int 17, .int x2, .int 0, .int 0] (aS ra ga D (tyL cI cZ cJ) (xW o u cI cZ cJ) sz)) (wQi (1) D (xW o u cI cZ cJ) (va_A (xW o u cI cZ cJ) sz)) 0 0 (va_A (xW o u cI cZ cJ) sz) := by
  refine aStart (lv := [(0, .ref (u 12)), (1, .int 17), (2, .int x2), (3, .int 0), (4, .int 0)]) (Qc := fun A => wQi (1) D (xW o u cI cZ cJ) A) (by decide) (Nat.le_of_ble_eq_true rfl) rfl ?_
  intro p e s m args below meth c ls A H S hr hlocks hnm hl hK hP hD hS hA hB
  have hx := S.1
  have hb := S.2.1
  refine lv_iload_n hx hb dX5_suits_0 rfl (lv_at hl 1 rfl) ?_
  refine lv_if_lt (tgt := 10) hx hb dX5_suits_1 (by decide) (fun c => absurd c (by decide)) (fun _ => ?_)
  refine lv_iload_n hx hb dX5_suits_4 rfl (lv_at hl 1 rfl) ?_
  refine lv_bipush (v := 21) hx hb dX5_suits_5 (by decide) ?_
  refine lv_icmp_le (tgt := 12) hx hb dX5_suits_7 (by decide) (fun _ => ?_) (fun c => absurd c (by decide))
  refine lv_aload_n hx hb dX5_suits_12 rfl (lv_at hl 0 rfl) ?_
  refine xgs S hB.z0 hS kw_3_91 rfl dX5_suits_13 ?_
  refine lv_iload_n hx hb dX5_suits_16 rfl (lv_at hl 1 rfl) ?_
  refine xti (v := 3) S hB.t0 hS (vin rfl) rfl dX5_suits_17 ?_
  refine lv_iload_n hx hb dX5_suits_18 rfl (lv_at hl 2 rfl) ?_
  refine rdV (As := [.int 3, .int x2]) (ci := 5) S (c_X5_fills_19 l D cI cZ cJ o u x2 lo_x2 hi_x2) mi_X5_fills kw_6_31 ⟨rfl, rfl⟩ ⟨Nat.le_of_ble_eq_true rfl, Nat.le_of_ble_eq_true rfl⟩ hP hK xW_13 rfl rfl hl.1 (Nat.le_of_ble_eq_true rfl) ⟨Nat.le_of_ble_eq_true rfl, Nat.le_of_ble_eq_true rfl⟩ dX5_suits_19 ?_
  refine lv_if_eq (tgt := 112) hx hb dX5_suits_22 (by decide) (fun c => absurd c (by decide)) (fun _ => ?_)
  refine lv_aload_n hx hb dX5_suits_25 rfl (lv_at hl 0 rfl) ?_
  refine xgs S hB.z1 hS kw_3_228 rfl dX5_suits_26 ?_
  refine lv_iload_n hx hb dX5_suits_29 rfl (lv_at hl 1 rfl) ?_
  refine xti (v := 0) S hB.t1 hS (vin rfl) rfl dX5_suits_30 ?_
  refine lv_iload_n hx hb dX5_suits_31 rfl (lv_at hl 3 rfl) ?_
  refine rdV (As := [.int 0, .int 0]) (ci := 5) S (c_X5_fills_3 l D cI cZ cJ o u) mi_X5_fills kw_6_31 ⟨rfl, rfl⟩ ⟨Nat.le_of_ble_eq_true rfl, Nat.le_of_ble_eq_true rfl⟩ hP hK xW_13 rfl rfl hl.1 (Nat.le_of_ble_eq_true rfl) ⟨Nat.le_of_ble_eq_true rfl, Nat.le_of_ble_eq_true rfl⟩ dX5_suits_32 ?_
  refine lv_if_eq (tgt := 112) hx hb dX5_suits_35 (by decide) (fun c => absurd c (by decide)) (fun _ => ?_)
  refine lv_aload_n hx hb dX5_suits_38 rfl (lv_at hl 0 rfl) ?_
  refine xgs S hB.z2 hS kw_3_222 rfl dX5_suits_39 ?_
  refine lv_iload_n hx hb dX5_suits_42 rfl (lv_at hl 1 rfl) ?_
  refine xti (v := 0) S hB.t2 hS (vin rfl) rfl dX5_suits_43 ?_
  refine lv_iload hx hb dX5_suits_44 (lv_at hl 4 rfl) ?_
  refine rdV (As := [.int 0, .int 0]) (ci := 5) S (c_X5_fills_3 l D cI cZ cJ o u) mi_X5_fills kw_6_31 ⟨rfl, rfl⟩ ⟨Nat.le_of_ble_eq_true rfl, Nat.le_of_ble_eq_true rfl⟩ hP hK xW_13 rfl rfl hl.1 (Nat.le_of_ble_eq_true rfl) ⟨Nat.le_of_ble_eq_true rfl, Nat.le_of_ble_eq_true rfl⟩ dX5_suits_46 ?_
  refine lv_if_eq (tgt := 112) hx hb dX5_suits_49 (by decide) (fun c => absurd c (by decide)) (fun _ => ?_)
  refine xgs S hB.z0 hS kw_3_91 rfl dX5_suits_52 ?_
  refine lv_iload_n hx hb dX5_suits_55 rfl (lv_at hl 1 rfl) ?_
  refine xti (v := 3) S hB.t0 hS (vin rfl) rfl dX5_suits_56 ?_
  refine lv_iload_n hx hb dX5_suits_57 rfl (lv_at hl 2 rfl) ?_
  refine xgs S hB.z1 hS kw_3_228 rfl dX5_suits_58 ?_
  refine lv_iload_n hx hb dX5_suits_61 rfl (lv_at hl 1 rfl) ?_
  refine xti (v := 0) S hB.t1 hS (vin rfl) rfl dX5_suits_62 ?_
  refine lv_iload_n hx hb dX5_suits_63 rfl (lv_at hl 3 rfl) ?_
  refine rdS (As := [.int 3, .int x2, .int 0, .int 0]) S (c_X5_isSamePart_5 l D cI cZ cJ o u x2 lo_x2 hi_x2) ms_X5_isSamePart kw_6_50 ⟨rfl, rfl⟩ ⟨Nat.le_of_ble_eq_true rfl, Nat.le_of_ble_eq_true rfl⟩ hP hK hl.1 (Nat.le_of_ble_eq_true rfl) ⟨Nat.le_of_ble_eq_true rfl, Nat.le_of_ble_eq_true rfl⟩ dX5_suits_64 ?_
  refine lv_if_ne (tgt := 112) hx hb dX5_suits_67 (by decide) (fun c => absurd c (by decide)) (fun _ => ?_)
  refine xgs S hB.z0 hS kw_3_91 rfl dX5_suits_70 ?_
  refine lv_iload_n hx hb dX5_suits_73 rfl (lv_at hl 1 rfl) ?_
  refine xti (v := 3) S hB.t0 hS (vin rfl) rfl dX5_suits_74 ?_
  refine lv_iload_n hx hb dX5_suits_75 rfl (lv_at hl 2 rfl) ?_
  refine xgs S hB.z2 hS kw_3_222 rfl dX5_suits_76 ?_
  refine lv_iload_n hx hb dX5_suits_79 rfl (lv_at hl 1 rfl) ?_
  refine xti (v := 0) S hB.t2 hS (vin rfl) rfl dX5_suits_80 ?_
  refine lv_iload hx hb dX5_suits_81 (lv_at hl 4 rfl) ?_
  refine rdS (As := [.int 3, .int x2, .int 0, .int 0]) S (c_X5_isSamePart_5 l D cI cZ cJ o u x2 lo_x2 hi_x2) ms_X5_isSamePart kw_6_50 ⟨rfl, rfl⟩ ⟨Nat.le_of_ble_eq_true rfl, Nat.le_of_ble_eq_true rfl⟩ hP hK hl.1 (Nat.le_of_ble_eq_true rfl) ⟨Nat.le_of_ble_eq_true rfl, Nat.le_of_ble_eq_true rfl⟩ dX5_suits_83 ?_
  refine lv_if_ne (tgt := 112) hx hb dX5_suits_86 (by decide) (fun c => absurd c (by decide)) (fun _ => ?_)
  refine xgs S hB.z1 hS kw_3_228 rfl dX5_suits_89 ?_
  refine lv_iload_n hx hb dX5_suits_92 rfl (lv_at hl 1 rfl) ?_
  refine xti (v := 0) S hB.t1 hS (vin rfl) rfl dX5_suits_93 ?_
  refine lv_iload_n hx hb dX5_suits_94 rfl (lv_at hl 3 rfl) ?_
  refine xgs S hB.z2 hS kw_3_222 rfl dX5_suits_95 ?_
  refine lv_iload_n hx hb dX5_suits_98 rfl (lv_at hl 1 rfl) ?_
  refine xti (v := 0) S hB.t2 hS (vin rfl) rfl dX5_suits_99 ?_
  refine lv_iload hx hb dX5_suits_100 (lv_at hl 4 rfl) ?_
  refine rdS (As := [.int 0, .int 0, .int 0, .int 0]) S (c_X5_isSamePart_1 l D cI cZ cJ o u) ms_X5_isSamePart kw_6_50 ⟨rfl, rfl⟩ ⟨Nat.le_of_ble_eq_true rfl, Nat.le_of_ble_eq_true rfl⟩ hP hK hl.1 (Nat.le_of_ble_eq_true rfl) ⟨Nat.le_of_ble_eq_true rfl, Nat.le_of_ble_eq_true rfl⟩ dX5_suits_102 ?_
  refine lv_if_ne (tgt := 112) hx hb dX5_suits_105 (by decide) (fun c => absurd c (by decide)) (fun _ => ?_)
  refine lv_iconst (v := 1) hx hb dX5_suits_108 (by decide) ?_
  refine lv_goto (tgt := 113) hx hb dX5_suits_109 (by decide) ?_
  exact wEndZ S hr hlocks hP hD hS (Nat.le_of_ble_eq_true rfl) (Nat.le_of_ble_eq_true rfl) dX5_suits_113 rfl rfl

set_option maxHeartbeats 8000000 in
set_option maxRecDepth 100000 in
theorem c_X5_partA_5 (l : Launch) (D : va_G) (cI cZ cJ : ClassId) (o : Nat) (u : Nat → Nat) (ra ga : Nat → Nat) (sz : Nat) (x2 : Int32) (lo_x2 : 0 ≤ x2) (hi_x2 : x2 ≤ 9) : Met l yX5_partA (uW yX5_partA cX5_partA 2 (some .int)) ({ frames := 0, cells := 0, slots := 0, locals := 0 }) (va_Pc [.ref (u 12), .int 0] (aS ra ga D (tyL cI cZ cJ) ((((((((xW o u cI cZ cJ).set 13 ((u 12), .inr (5, ([.int 0, .ref (u 13), .ref (u 14), .ref (u 15), .ref (u 16), .ref (u 17), .ref (u 18)].set 0 (.int 1))))).set 14 ((u 13), .inl (cI, 110, .inl (upd (fun _ => 0) (0 : Int32).toNatClampNeg 17)))).set 15 ((u 14), .inl (cI, 110, .inl (upd (fun _ => 0) (0 : Int32).toNatClampNeg x2)))).set 16 ((u 15), .inl (cI, 110, .inl (upd (fun _ => 0) (0 : Int32).toNatClampNeg 0)))).set 17 ((u 16), .inl (cI, 110, .inl (upd (fun _ => 0) (0 : Int32).toNatClampNeg 0)))).set 18 ((u 17), .inl (cI, 110, .inl (upd (fun _ => 0) (0 : Int32).toNatClampNeg (-1))))).set 19 ((u 18), .inl (cI, 110, .inl (upd (fun _ => 0) (0 : Int32).toNatClampNeg (-1))))) sz)) (wQi ((-1)) D ((((((((xW o u cI cZ cJ).set 13 ((u 12), .inr (5, ([.int 0, .ref (u 13), .ref (u 14), .ref (u 15), .ref (u 16), .ref (u 17), .ref (u 18)].set 0 (.int 1))))).set 14 ((u 13), .inl (cI, 110, .inl (upd (fun _ => 0) (0 : Int32).toNatClampNeg 17)))).set 15 ((u 14), .inl (cI, 110, .inl (upd (fun _ => 0) (0 : Int32).toNatClampNeg x2)))).set 16 ((u 15), .inl (cI, 110, .inl (upd (fun _ => 0) (0 : Int32).toNatClampNeg 0)))).set 17 ((u 16), .inl (cI, 110, .inl (upd (fun _ => 0) (0 : Int32).toNatClampNeg 0)))).set 18 ((u 17), .inl (cI, 110, .inl (upd (fun _ => 0) (0 : Int32).toNatClampNeg (-1))))).set 19 ((u 18), .inl (cI, 110, .inl (upd (fun _ => 0) (0 : Int32).toNatClampNeg (-1))))) (va_A ((((((((xW o u cI cZ cJ).set 13 ((u 12), .inr (5, ([.int 0, .ref (u 13), .ref (u 14), .ref (u 15), .ref (u 16), .ref (u 17), .ref (u 18)].set 0 (.int 1))))).set 14 ((u 13), .inl (cI, 110, .inl (upd (fun _ => 0) (0 : Int32).toNatClampNeg 17)))).set 15 ((u 14), .inl (cI, 110, .inl (upd (fun _ => 0) (0 : Int32).toNatClampNeg x2)))).set 16 ((u 15), .inl (cI, 110, .inl (upd (fun _ => 0) (0 : Int32).toNatClampNeg 0)))).set 17 ((u 16), .inl (cI, 110, .inl (upd (fun _ => 0) (0 : Int32).toNatClampNeg 0)))).set 18 ((u 17), .inl (cI, 110, .inl (upd (fun _ => 0) (0 : Int32).toNatClampNeg (-1))))).set 19 ((u 18), .inl (cI, 110, .inl (upd (fun _ => 0) (0 : Int32).toNatClampNeg (-1))))) sz)) 0 0 (va_A ((((((((xW o u cI cZ cJ).set 13 ((u 12), .inr (5, ([.int 0, .ref (u 13), .ref (u 14), .ref (u 15), .ref (u 16), .ref (u 17), .ref (u 18)].set 0 (.int 1))))).set 14 ((u 13), .inl (cI, 110, .inl (upd (fun _ => 0) (0 : Int32).toNatClampNeg 17)))).set 15 ((u 14), .inl (cI, 110, .inl (upd (fun _ => 0) (0 : Int32).toNatClampNeg x2)))).set 16 ((u 15), .inl (cI, 110, .inl (upd (fun _ => 0) (0 : Int32).toNatClampNeg 0)))).set 17 ((u 16), .inl (cI, 110, .inl (upd (fun _ => 0) (0 : Int32).toNatClampNeg 0)))).set 18 ((u 17), .inl (cI, 110, .inl (upd (fun _ => 0) (0 : Int32).toNatClampNeg (-1))))).set 19 ((u 18), .inl (cI, 110, .inl (upd (fun _ => 0) (0 : Int32).toNatClampNeg (-1))))) sz) := by
  refine aStart (lv := [(0, .ref (u 12)), (1, .int 0)]) (Qc := fun A => wQi ((-1)) D ((((((((xW o u cI cZ cJ).set 13 ((u 12), .inr (5, ([.int 0, .ref (u 13), .ref (u 14), .ref (u 15), .ref (u 16), .ref (u 17), .ref (u 18)].set 0 (.int 1))))).set 14 ((u 13), .inl (cI, 110, .inl (upd (fun _ => 0) (0 : Int32).toNatClampNeg 17)))).set 15 ((u 14), .inl (cI, 110, .inl (upd (fun _ => 0) (0 : Int32).toNatClampNeg x2)))).set 16 ((u 15), .inl (cI, 110, .inl (upd (fun _ => 0) (0 : Int32).toNatClampNeg 0)))).set 17 ((u 16), .inl (cI, 110, .inl (upd (fun _ => 0) (0 : Int32).toNatClampNeg 0)))).set 18 ((u 17), .inl (cI, 110, .inl (upd (fun _ => 0) (0 : Int32).toNatClampNeg (-1))))).set 19 ((u 18), .inl (cI, 110, .inl (upd (fun _ => 0) (0 : Int32).toNatClampNeg (-1))))) A) (by decide) (Nat.le_of_ble_eq_true rfl) rfl ?_
  intro p e s m args below meth c ls A H S hr hlocks hnm hl hK hP hD hS hA hB
  have hx := S.1
  have hb := S.2.1
  refine xgs S hB.z0 hS kw_3_91 rfl dX5_partA_0 ?_
  refine lv_aload_n hx hb dX5_partA_3 rfl (lv_at hl 0 rfl) ?_
  refine xg (ci := 5) S inX5 rfl hK hP (q0 := 13) rfl 1 (by decide) rfl kw_1_111 rfl dX5_partA_4 ?_
  refine lv_iload_n hx hb dX5_partA_7 rfl (lv_at hl 1 rfl) ?_
  refine xiald (t0 := 0) (v := 17) S hK hP (q0 := 14) rfl rfl (vin rfl) rfl dX5_partA_8 ?_
  refine xti (v := 3) S hB.t0 hS (vin rfl) rfl dX5_partA_9 ?_
  refine lv_iconst (v := 4) hx hb dX5_partA_10 (by decide) ?_
  refine lv_icmp_lt (tgt := 23) hx hb dX5_partA_11 (by decide) (fun _ => ?_) (fun c => absurd c (by decide))
  refine lv_iconst (v := (-1)) hx hb dX5_partA_23 (by decide) ?_
  exact wEnd S hr hlocks hP hD hS (Nat.le_of_ble_eq_true rfl) (Nat.le_of_ble_eq_true rfl) dX5_partA_24 rfl

set_option maxHeartbeats 8000000 in
set_option maxRecDepth 100000 in
theorem c_X5_claim_5 (l : Launch) (D : va_G) (cI cZ cJ : ClassId) (o : Nat) (u : Nat → Nat) (ra ga : Nat → Nat) (sz : Nat) (x2 : Int32) (lo_x2 : 0 ≤ x2) (hi_x2 : x2 ≤ 9) : Met l yX5_claim (uW yX5_claim cX5_claim 3 none) ({ frames := 0, cells := 0, slots := 0, locals := 0 }) (va_Pc [.ref (u 12), .int (-1), .int 0] (aS ra ga D (tyL cI cZ cJ) ((((((((xW o u cI cZ cJ).set 13 ((u 12), .inr (5, ([.int 0, .ref (u 13), .ref (u 14), .ref (u 15), .ref (u 16), .ref (u 17), .ref (u 18)].set 0 (.int 1))))).set 14 ((u 13), .inl (cI, 110, .inl (upd (fun _ => 0) (0 : Int32).toNatClampNeg 17)))).set 15 ((u 14), .inl (cI, 110, .inl (upd (fun _ => 0) (0 : Int32).toNatClampNeg x2)))).set 16 ((u 15), .inl (cI, 110, .inl (upd (fun _ => 0) (0 : Int32).toNatClampNeg 0)))).set 17 ((u 16), .inl (cI, 110, .inl (upd (fun _ => 0) (0 : Int32).toNatClampNeg 0)))).set 18 ((u 17), .inl (cI, 110, .inl (upd (fun _ => 0) (0 : Int32).toNatClampNeg (-1))))).set 19 ((u 18), .inl (cI, 110, .inl (upd (fun _ => 0) (0 : Int32).toNatClampNeg (-1))))) sz)) (wQv D ((((((((xW o u cI cZ cJ).set 13 ((u 12), .inr (5, ([.int 0, .ref (u 13), .ref (u 14), .ref (u 15), .ref (u 16), .ref (u 17), .ref (u 18)].set 0 (.int 1))))).set 14 ((u 13), .inl (cI, 110, .inl (upd (fun _ => 0) (0 : Int32).toNatClampNeg 17)))).set 15 ((u 14), .inl (cI, 110, .inl (upd (fun _ => 0) (0 : Int32).toNatClampNeg x2)))).set 16 ((u 15), .inl (cI, 110, .inl (upd (fun _ => 0) (0 : Int32).toNatClampNeg 0)))).set 17 ((u 16), .inl (cI, 110, .inl (upd (fun _ => 0) (0 : Int32).toNatClampNeg 0)))).set 18 ((u 17), .inl (cI, 110, .inl (upd (fun _ => 0) (0 : Int32).toNatClampNeg (-1))))).set 19 ((u 18), .inl (cI, 110, .inl (upd (fun _ => 0) (0 : Int32).toNatClampNeg (-1))))) (va_A ((((((((xW o u cI cZ cJ).set 13 ((u 12), .inr (5, ([.int 0, .ref (u 13), .ref (u 14), .ref (u 15), .ref (u 16), .ref (u 17), .ref (u 18)].set 0 (.int 1))))).set 14 ((u 13), .inl (cI, 110, .inl (upd (fun _ => 0) (0 : Int32).toNatClampNeg 17)))).set 15 ((u 14), .inl (cI, 110, .inl (upd (fun _ => 0) (0 : Int32).toNatClampNeg x2)))).set 16 ((u 15), .inl (cI, 110, .inl (upd (fun _ => 0) (0 : Int32).toNatClampNeg 0)))).set 17 ((u 16), .inl (cI, 110, .inl (upd (fun _ => 0) (0 : Int32).toNatClampNeg 0)))).set 18 ((u 17), .inl (cI, 110, .inl (upd (fun _ => 0) (0 : Int32).toNatClampNeg (-1))))).set 19 ((u 18), .inl (cI, 110, .inl (upd (fun _ => 0) (0 : Int32).toNatClampNeg (-1))))) sz)) 0 0 (va_A ((((((((xW o u cI cZ cJ).set 13 ((u 12), .inr (5, ([.int 0, .ref (u 13), .ref (u 14), .ref (u 15), .ref (u 16), .ref (u 17), .ref (u 18)].set 0 (.int 1))))).set 14 ((u 13), .inl (cI, 110, .inl (upd (fun _ => 0) (0 : Int32).toNatClampNeg 17)))).set 15 ((u 14), .inl (cI, 110, .inl (upd (fun _ => 0) (0 : Int32).toNatClampNeg x2)))).set 16 ((u 15), .inl (cI, 110, .inl (upd (fun _ => 0) (0 : Int32).toNatClampNeg 0)))).set 17 ((u 16), .inl (cI, 110, .inl (upd (fun _ => 0) (0 : Int32).toNatClampNeg 0)))).set 18 ((u 17), .inl (cI, 110, .inl (upd (fun _ => 0) (0 : Int32).toNatClampNeg (-1))))).set 19 ((u 18), .inl (cI, 110, .inl (upd (fun _ => 0) (0 : Int32).toNatClampNeg (-1))))) sz) := by
  refine aStart (lv := [(0, .ref (u 12)), (1, .int (-1)), (2, .int 0)]) (Qc := fun A => wQv D ((((((((xW o u cI cZ cJ).set 13 ((u 12), .inr (5, ([.int 0, .ref (u 13), .ref (u 14), .ref (u 15), .ref (u 16), .ref (u 17), .ref (u 18)].set 0 (.int 1))))).set 14 ((u 13), .inl (cI, 110, .inl (upd (fun _ => 0) (0 : Int32).toNatClampNeg 17)))).set 15 ((u 14), .inl (cI, 110, .inl (upd (fun _ => 0) (0 : Int32).toNatClampNeg x2)))).set 16 ((u 15), .inl (cI, 110, .inl (upd (fun _ => 0) (0 : Int32).toNatClampNeg 0)))).set 17 ((u 16), .inl (cI, 110, .inl (upd (fun _ => 0) (0 : Int32).toNatClampNeg 0)))).set 18 ((u 17), .inl (cI, 110, .inl (upd (fun _ => 0) (0 : Int32).toNatClampNeg (-1))))).set 19 ((u 18), .inl (cI, 110, .inl (upd (fun _ => 0) (0 : Int32).toNatClampNeg (-1))))) A) (by decide) (Nat.le_of_ble_eq_true rfl) rfl ?_
  intro p e s m args below meth c ls A H S hr hlocks hnm hl hK hP hD hS hA hB
  have hx := S.1
  have hb := S.2.1
  refine lv_iload_n hx hb dX5_claim_0 rfl (lv_at hl 1 rfl) ?_
  refine lv_iconst (v := (-1)) hx hb dX5_claim_1 (by decide) ?_
  refine lv_icmp_eq (tgt := 12) hx hb dX5_claim_2 (by decide) (fun _ => ?_) (fun c => absurd c (by decide))
  exact wEndv S hr hlocks hP hD hS (Nat.le_of_ble_eq_true rfl) (Nat.le_of_ble_eq_true rfl) dX5_claim_12

set_option maxHeartbeats 8000000 in
set_option maxRecDepth 100000 in
theorem c_X5_partB_5 (l : Launch) (D : va_G) (cI cZ cJ : ClassId) (o : Nat) (u : Nat → Nat) (ra ga : Nat → Nat) (sz : Nat) (x2 : Int32) (lo_x2 : 0 ≤ x2) (hi_x2 : x2 ≤ 9) : Met l yX5_partB (uW yX5_partB cX5_partB 2 (some .int)) ({ frames := 0, cells := 0, slots := 0, locals := 0 }) (va_Pc [.ref (u 12), .int 0] (aS ra ga D (tyL cI cZ cJ) ((((((((xW o u cI cZ cJ).set 13 ((u 12), .inr (5, ([.int 0, .ref (u 13), .ref (u 14), .ref (u 15), .ref (u 16), .ref (u 17), .ref (u 18)].set 0 (.int 1))))).set 14 ((u 13), .inl (cI, 110, .inl (upd (fun _ => 0) (0 : Int32).toNatClampNeg 17)))).set 15 ((u 14), .inl (cI, 110, .inl (upd (fun _ => 0) (0 : Int32).toNatClampNeg x2)))).set 16 ((u 15), .inl (cI, 110, .inl (upd (fun _ => 0) (0 : Int32).toNatClampNeg 0)))).set 17 ((u 16), .inl (cI, 110, .inl (upd (fun _ => 0) (0 : Int32).toNatClampNeg 0)))).set 18 ((u 17), .inl (cI, 110, .inl (upd (fun _ => 0) (0 : Int32).toNatClampNeg (-1))))).set 19 ((u 18), .inl (cI, 110, .inl (upd (fun _ => 0) (0 : Int32).toNatClampNeg (-1))))) sz)) (wQi ((-1)) D ((((((((xW o u cI cZ cJ).set 13 ((u 12), .inr (5, ([.int 0, .ref (u 13), .ref (u 14), .ref (u 15), .ref (u 16), .ref (u 17), .ref (u 18)].set 0 (.int 1))))).set 14 ((u 13), .inl (cI, 110, .inl (upd (fun _ => 0) (0 : Int32).toNatClampNeg 17)))).set 15 ((u 14), .inl (cI, 110, .inl (upd (fun _ => 0) (0 : Int32).toNatClampNeg x2)))).set 16 ((u 15), .inl (cI, 110, .inl (upd (fun _ => 0) (0 : Int32).toNatClampNeg 0)))).set 17 ((u 16), .inl (cI, 110, .inl (upd (fun _ => 0) (0 : Int32).toNatClampNeg 0)))).set 18 ((u 17), .inl (cI, 110, .inl (upd (fun _ => 0) (0 : Int32).toNatClampNeg (-1))))).set 19 ((u 18), .inl (cI, 110, .inl (upd (fun _ => 0) (0 : Int32).toNatClampNeg (-1))))) (va_A ((((((((xW o u cI cZ cJ).set 13 ((u 12), .inr (5, ([.int 0, .ref (u 13), .ref (u 14), .ref (u 15), .ref (u 16), .ref (u 17), .ref (u 18)].set 0 (.int 1))))).set 14 ((u 13), .inl (cI, 110, .inl (upd (fun _ => 0) (0 : Int32).toNatClampNeg 17)))).set 15 ((u 14), .inl (cI, 110, .inl (upd (fun _ => 0) (0 : Int32).toNatClampNeg x2)))).set 16 ((u 15), .inl (cI, 110, .inl (upd (fun _ => 0) (0 : Int32).toNatClampNeg 0)))).set 17 ((u 16), .inl (cI, 110, .inl (upd (fun _ => 0) (0 : Int32).toNatClampNeg 0)))).set 18 ((u 17), .inl (cI, 110, .inl (upd (fun _ => 0) (0 : Int32).toNatClampNeg (-1))))).set 19 ((u 18), .inl (cI, 110, .inl (upd (fun _ => 0) (0 : Int32).toNatClampNeg (-1))))) sz)) 0 0 (va_A ((((((((xW o u cI cZ cJ).set 13 ((u 12), .inr (5, ([.int 0, .ref (u 13), .ref (u 14), .ref (u 15), .ref (u 16), .ref (u 17), .ref (u 18)].set 0 (.int 1))))).set 14 ((u 13), .inl (cI, 110, .inl (upd (fun _ => 0) (0 : Int32).toNatClampNeg 17)))).set 15 ((u 14), .inl (cI, 110, .inl (upd (fun _ => 0) (0 : Int32).toNatClampNeg x2)))).set 16 ((u 15), .inl (cI, 110, .inl (upd (fun _ => 0) (0 : Int32).toNatClampNeg 0)))).set 17 ((u 16), .inl (cI, 110, .inl (upd (fun _ => 0) (0 : Int32).toNatClampNeg 0)))).set 18 ((u 17), .inl (cI, 110, .inl (upd (fun _ => 0) (0 : Int32).toNatClampNeg (-1))))).set 19 ((u 18), .inl (cI, 110, .inl (upd (fun _ => 0) (0 : Int32).toNatClampNeg (-1))))) sz) := by
  refine aStart (lv := [(0, .ref (u 12)), (1, .int 0)]) (Qc := fun A => wQi ((-1)) D ((((((((xW o u cI cZ cJ).set 13 ((u 12), .inr (5, ([.int 0, .ref (u 13), .ref (u 14), .ref (u 15), .ref (u 16), .ref (u 17), .ref (u 18)].set 0 (.int 1))))).set 14 ((u 13), .inl (cI, 110, .inl (upd (fun _ => 0) (0 : Int32).toNatClampNeg 17)))).set 15 ((u 14), .inl (cI, 110, .inl (upd (fun _ => 0) (0 : Int32).toNatClampNeg x2)))).set 16 ((u 15), .inl (cI, 110, .inl (upd (fun _ => 0) (0 : Int32).toNatClampNeg 0)))).set 17 ((u 16), .inl (cI, 110, .inl (upd (fun _ => 0) (0 : Int32).toNatClampNeg 0)))).set 18 ((u 17), .inl (cI, 110, .inl (upd (fun _ => 0) (0 : Int32).toNatClampNeg (-1))))).set 19 ((u 18), .inl (cI, 110, .inl (upd (fun _ => 0) (0 : Int32).toNatClampNeg (-1))))) A) (by decide) (Nat.le_of_ble_eq_true rfl) rfl ?_
  intro p e s m args below meth c ls A H S hr hlocks hnm hl hK hP hD hS hA hB
  have hx := S.1
  have hb := S.2.1
  refine xgs S hB.z1 hS kw_3_228 rfl dX5_partB_0 ?_
  refine lv_aload_n hx hb dX5_partB_3 rfl (lv_at hl 0 rfl) ?_
  refine xg (ci := 5) S inX5 rfl hK hP (q0 := 13) rfl 1 (by decide) rfl kw_1_111 rfl dX5_partB_4 ?_
  refine lv_iload_n hx hb dX5_partB_7 rfl (lv_at hl 1 rfl) ?_
  refine xiald (t0 := 0) (v := 17) S hK hP (q0 := 14) rfl rfl (vin rfl) rfl dX5_partB_8 ?_
  refine xti (v := 0) S hB.t1 hS (vin rfl) rfl dX5_partB_9 ?_
  refine lv_iconst (v := 4) hx hb dX5_partB_10 (by decide) ?_
  refine lv_icmp_lt (tgt := 23) hx hb dX5_partB_11 (by decide) (fun _ => ?_) (fun c => absurd c (by decide))
  refine lv_iconst (v := (-1)) hx hb dX5_partB_23 (by decide) ?_
  exact wEnd S hr hlocks hP hD hS (Nat.le_of_ble_eq_true rfl) (Nat.le_of_ble_eq_true rfl) dX5_partB_24 rfl

set_option maxHeartbeats 8000000 in
set_option maxRecDepth 100000 in
theorem c_X5_partC_5 (l : Launch) (D : va_G) (cI cZ cJ : ClassId) (o : Nat) (u : Nat → Nat) (ra ga : Nat → Nat) (sz : Nat) (x2 : Int32) (lo_x2 : 0 ≤ x2) (hi_x2 : x2 ≤ 9) : Met l yX5_partC (uW yX5_partC cX5_partC 2 (some .int)) ({ frames := 0, cells := 0, slots := 0, locals := 0 }) (va_Pc [.ref (u 12), .int 0] (aS ra ga D (tyL cI cZ cJ) ((((((((xW o u cI cZ cJ).set 13 ((u 12), .inr (5, ([.int 0, .ref (u 13), .ref (u 14), .ref (u 15), .ref (u 16), .ref (u 17), .ref (u 18)].set 0 (.int 1))))).set 14 ((u 13), .inl (cI, 110, .inl (upd (fun _ => 0) (0 : Int32).toNatClampNeg 17)))).set 15 ((u 14), .inl (cI, 110, .inl (upd (fun _ => 0) (0 : Int32).toNatClampNeg x2)))).set 16 ((u 15), .inl (cI, 110, .inl (upd (fun _ => 0) (0 : Int32).toNatClampNeg 0)))).set 17 ((u 16), .inl (cI, 110, .inl (upd (fun _ => 0) (0 : Int32).toNatClampNeg 0)))).set 18 ((u 17), .inl (cI, 110, .inl (upd (fun _ => 0) (0 : Int32).toNatClampNeg (-1))))).set 19 ((u 18), .inl (cI, 110, .inl (upd (fun _ => 0) (0 : Int32).toNatClampNeg (-1))))) sz)) (wQi ((-1)) D ((((((((xW o u cI cZ cJ).set 13 ((u 12), .inr (5, ([.int 0, .ref (u 13), .ref (u 14), .ref (u 15), .ref (u 16), .ref (u 17), .ref (u 18)].set 0 (.int 1))))).set 14 ((u 13), .inl (cI, 110, .inl (upd (fun _ => 0) (0 : Int32).toNatClampNeg 17)))).set 15 ((u 14), .inl (cI, 110, .inl (upd (fun _ => 0) (0 : Int32).toNatClampNeg x2)))).set 16 ((u 15), .inl (cI, 110, .inl (upd (fun _ => 0) (0 : Int32).toNatClampNeg 0)))).set 17 ((u 16), .inl (cI, 110, .inl (upd (fun _ => 0) (0 : Int32).toNatClampNeg 0)))).set 18 ((u 17), .inl (cI, 110, .inl (upd (fun _ => 0) (0 : Int32).toNatClampNeg (-1))))).set 19 ((u 18), .inl (cI, 110, .inl (upd (fun _ => 0) (0 : Int32).toNatClampNeg (-1))))) (va_A ((((((((xW o u cI cZ cJ).set 13 ((u 12), .inr (5, ([.int 0, .ref (u 13), .ref (u 14), .ref (u 15), .ref (u 16), .ref (u 17), .ref (u 18)].set 0 (.int 1))))).set 14 ((u 13), .inl (cI, 110, .inl (upd (fun _ => 0) (0 : Int32).toNatClampNeg 17)))).set 15 ((u 14), .inl (cI, 110, .inl (upd (fun _ => 0) (0 : Int32).toNatClampNeg x2)))).set 16 ((u 15), .inl (cI, 110, .inl (upd (fun _ => 0) (0 : Int32).toNatClampNeg 0)))).set 17 ((u 16), .inl (cI, 110, .inl (upd (fun _ => 0) (0 : Int32).toNatClampNeg 0)))).set 18 ((u 17), .inl (cI, 110, .inl (upd (fun _ => 0) (0 : Int32).toNatClampNeg (-1))))).set 19 ((u 18), .inl (cI, 110, .inl (upd (fun _ => 0) (0 : Int32).toNatClampNeg (-1))))) sz)) 0 0 (va_A ((((((((xW o u cI cZ cJ).set 13 ((u 12), .inr (5, ([.int 0, .ref (u 13), .ref (u 14), .ref (u 15), .ref (u 16), .ref (u 17), .ref (u 18)].set 0 (.int 1))))).set 14 ((u 13), .inl (cI, 110, .inl (upd (fun _ => 0) (0 : Int32).toNatClampNeg 17)))).set 15 ((u 14), .inl (cI, 110, .inl (upd (fun _ => 0) (0 : Int32).toNatClampNeg x2)))).set 16 ((u 15), .inl (cI, 110, .inl (upd (fun _ => 0) (0 : Int32).toNatClampNeg 0)))).set 17 ((u 16), .inl (cI, 110, .inl (upd (fun _ => 0) (0 : Int32).toNatClampNeg 0)))).set 18 ((u 17), .inl (cI, 110, .inl (upd (fun _ => 0) (0 : Int32).toNatClampNeg (-1))))).set 19 ((u 18), .inl (cI, 110, .inl (upd (fun _ => 0) (0 : Int32).toNatClampNeg (-1))))) sz) := by
  refine aStart (lv := [(0, .ref (u 12)), (1, .int 0)]) (Qc := fun A => wQi ((-1)) D ((((((((xW o u cI cZ cJ).set 13 ((u 12), .inr (5, ([.int 0, .ref (u 13), .ref (u 14), .ref (u 15), .ref (u 16), .ref (u 17), .ref (u 18)].set 0 (.int 1))))).set 14 ((u 13), .inl (cI, 110, .inl (upd (fun _ => 0) (0 : Int32).toNatClampNeg 17)))).set 15 ((u 14), .inl (cI, 110, .inl (upd (fun _ => 0) (0 : Int32).toNatClampNeg x2)))).set 16 ((u 15), .inl (cI, 110, .inl (upd (fun _ => 0) (0 : Int32).toNatClampNeg 0)))).set 17 ((u 16), .inl (cI, 110, .inl (upd (fun _ => 0) (0 : Int32).toNatClampNeg 0)))).set 18 ((u 17), .inl (cI, 110, .inl (upd (fun _ => 0) (0 : Int32).toNatClampNeg (-1))))).set 19 ((u 18), .inl (cI, 110, .inl (upd (fun _ => 0) (0 : Int32).toNatClampNeg (-1))))) A) (by decide) (Nat.le_of_ble_eq_true rfl) rfl ?_
  intro p e s m args below meth c ls A H S hr hlocks hnm hl hK hP hD hS hA hB
  have hx := S.1
  have hb := S.2.1
  refine xgs S hB.z2 hS kw_3_222 rfl dX5_partC_0 ?_
  refine lv_aload_n hx hb dX5_partC_3 rfl (lv_at hl 0 rfl) ?_
  refine xg (ci := 5) S inX5 rfl hK hP (q0 := 13) rfl 1 (by decide) rfl kw_1_111 rfl dX5_partC_4 ?_
  refine lv_iload_n hx hb dX5_partC_7 rfl (lv_at hl 1 rfl) ?_
  refine xiald (t0 := 0) (v := 17) S hK hP (q0 := 14) rfl rfl (vin rfl) rfl dX5_partC_8 ?_
  refine xti (v := 0) S hB.t2 hS (vin rfl) rfl dX5_partC_9 ?_
  refine lv_iconst (v := 4) hx hb dX5_partC_10 (by decide) ?_
  refine lv_icmp_lt (tgt := 23) hx hb dX5_partC_11 (by decide) (fun _ => ?_) (fun c => absurd c (by decide))
  refine lv_iconst (v := (-1)) hx hb dX5_partC_23 (by decide) ?_
  exact wEnd S hr hlocks hP hD hS (Nat.le_of_ble_eq_true rfl) (Nat.le_of_ble_eq_true rfl) dX5_partC_24 rfl

set_option maxHeartbeats 8000000 in
set_option maxRecDepth 100000 in
theorem c_X5_add_5 (l : Launch) (D : va_G) (cI cZ cJ : ClassId) (o : Nat) (u : Nat → Nat) (ra ga : Nat → Nat) (sz : Nat) (x2 : Int32) (lo_x2 : 0 ≤ x2) (hi_x2 : x2 ≤ 9) : Met l yX5_add (uW yX5_add cX5_add 6 (some .int)) ({ frames := 1, cells := 0, slots := 0, locals := 22 }) (va_Pc [.ref (u 12), .int 17, .int x2, .int 0, .int 0] (aS ra ga D (tyL cI cZ cJ) (xW o u cI cZ cJ) sz)) (wQi (0) D ((((((((xW o u cI cZ cJ).set 13 ((u 12), .inr (5, ([.int 0, .ref (u 13), .ref (u 14), .ref (u 15), .ref (u 16), .ref (u 17), .ref (u 18)].set 0 (.int 1))))).set 14 ((u 13), .inl (cI, 110, .inl (upd (fun _ => 0) (0 : Int32).toNatClampNeg 17)))).set 15 ((u 14), .inl (cI, 110, .inl (upd (fun _ => 0) (0 : Int32).toNatClampNeg x2)))).set 16 ((u 15), .inl (cI, 110, .inl (upd (fun _ => 0) (0 : Int32).toNatClampNeg 0)))).set 17 ((u 16), .inl (cI, 110, .inl (upd (fun _ => 0) (0 : Int32).toNatClampNeg 0)))).set 18 ((u 17), .inl (cI, 110, .inl (upd (fun _ => 0) (0 : Int32).toNatClampNeg (-1))))).set 19 ((u 18), .inl (cI, 110, .inl (upd (fun _ => 0) (0 : Int32).toNatClampNeg (-1))))) (va_A (xW o u cI cZ cJ) sz)) 0 0 (va_A (xW o u cI cZ cJ) sz) := by
  refine aStart (lv := [(0, .ref (u 12)), (1, .int 17), (2, .int x2), (3, .int 0), (4, .int 0)]) (Qc := fun A => wQi (0) D ((((((((xW o u cI cZ cJ).set 13 ((u 12), .inr (5, ([.int 0, .ref (u 13), .ref (u 14), .ref (u 15), .ref (u 16), .ref (u 17), .ref (u 18)].set 0 (.int 1))))).set 14 ((u 13), .inl (cI, 110, .inl (upd (fun _ => 0) (0 : Int32).toNatClampNeg 17)))).set 15 ((u 14), .inl (cI, 110, .inl (upd (fun _ => 0) (0 : Int32).toNatClampNeg x2)))).set 16 ((u 15), .inl (cI, 110, .inl (upd (fun _ => 0) (0 : Int32).toNatClampNeg 0)))).set 17 ((u 16), .inl (cI, 110, .inl (upd (fun _ => 0) (0 : Int32).toNatClampNeg 0)))).set 18 ((u 17), .inl (cI, 110, .inl (upd (fun _ => 0) (0 : Int32).toNatClampNeg (-1))))).set 19 ((u 18), .inl (cI, 110, .inl (upd (fun _ => 0) (0 : Int32).toNatClampNeg (-1))))) A) (by decide) (Nat.le_of_ble_eq_true rfl) rfl ?_
  intro p e s m args below meth c ls A H S hr hlocks hnm hl hK hP hD hS hA hB
  have hx := S.1
  have hb := S.2.1
  refine lv_aload_n hx hb dX5_add_0 rfl (lv_at hl 0 rfl) ?_
  refine xg (ci := 5) S inX5 rfl hK hP xW_13 0 (by decide) rfl kw_1_107 rfl dX5_add_1 ?_
  refine lv_istore (lv' := [(5, .int 0), (0, .ref (u 12)), (1, .int 17), (2, .int x2), (3, .int 0), (4, .int 0)]) hx hb dX5_add_4 hl (by decide) rfl (fun ls hl => ?_)
  refine lv_aload_n hx hb dX5_add_6 rfl (lv_at hl 1 rfl) ?_
  refine lv_dup hx hb dX5_add_7 rfl ?_
  refine xg (ci := 5) S inX5 rfl hK hP xW_13 0 (by decide) rfl kw_1_107 rfl dX5_add_8 ?_
  refine lv_iconst (v := 1) hx hb dX5_add_11 (by decide) ?_
  refine xiadd (v := 1) S dX5_add_12 (by decide) ?_
  refine xp (ci := 5) (v := .int 1) S inX5 tyX5 tyX5_ok nmX5 rfl hK hP hD hS xW_13 0 (by decide) kw_1_107 rfl rfl rfl rfl (Nat.le_of_ble_eq_true rfl) dX5_add_13 (fun H locs hP hD hS => ?_)
  have hP : va_P D vwCl ((xW o u cI cZ cJ).set 13 ((u 12), .inr (5, ([.int 0, .ref (u 13), .ref (u 14), .ref (u 15), .ref (u 16), .ref (u 17), .ref (u 18)].set 0 (.int 1))))) H := hP
  have hD : va_D A ((xW o u cI cZ cJ).set 13 ((u 12), .inr (5, ([.int 0, .ref (u 13), .ref (u 14), .ref (u 15), .ref (u 16), .ref (u 17), .ref (u 18)].set 0 (.int 1))))) := hD
  refine lv_aload_n hx hb dX5_add_16 rfl (lv_at hl 1 rfl) ?_
  refine xg (ci := 5) S inX5 rfl hK hP (q0 := 13) rfl 1 (by decide) rfl kw_1_111 rfl dX5_add_17 ?_
  refine lv_iload hx hb dX5_add_20 (lv_at hl 0 rfl) ?_
  refine lv_iload_n hx hb dX5_add_22 rfl (lv_at hl 2 rfl) ?_
  refine xiast (t0 := 0) S hK hP hD hS (q0 := 14) rfl rfl (vin rfl) dX5_add_23 (fun H locs hP hD hS => ?_)
  have hP : va_P D vwCl (((xW o u cI cZ cJ).set 13 ((u 12), .inr (5, ([.int 0, .ref (u 13), .ref (u 14), .ref (u 15), .ref (u 16), .ref (u 17), .ref (u 18)].set 0 (.int 1))))).set 14 ((u 13), .inl (cI, 110, .inl (upd (fun _ => 0) (0 : Int32).toNatClampNeg 17)))) H := hP
  have hD : va_D A (((xW o u cI cZ cJ).set 13 ((u 12), .inr (5, ([.int 0, .ref (u 13), .ref (u 14), .ref (u 15), .ref (u 16), .ref (u 17), .ref (u 18)].set 0 (.int 1))))).set 14 ((u 13), .inl (cI, 110, .inl (upd (fun _ => 0) (0 : Int32).toNatClampNeg 17)))) := hD
  refine lv_aload_n hx hb dX5_add_24 rfl (lv_at hl 1 rfl) ?_
  refine xg (ci := 5) S inX5 rfl hK hP (q0 := 13) rfl 2 (by decide) rfl kw_1_116 rfl dX5_add_25 ?_
  refine lv_iload hx hb dX5_add_28 (lv_at hl 0 rfl) ?_
  refine lv_iload_n hx hb dX5_add_30 rfl (lv_at hl 3 rfl) ?_
  refine xiast (t0 := 0) S hK hP hD hS (q0 := 15) rfl rfl (vin rfl) dX5_add_31 (fun H locs hP hD hS => ?_)
  have hP : va_P D vwCl ((((xW o u cI cZ cJ).set 13 ((u 12), .inr (5, ([.int 0, .ref (u 13), .ref (u 14), .ref (u 15), .ref (u 16), .ref (u 17), .ref (u 18)].set 0 (.int 1))))).set 14 ((u 13), .inl (cI, 110, .inl (upd (fun _ => 0) (0 : Int32).toNatClampNeg 17)))).set 15 ((u 14), .inl (cI, 110, .inl (upd (fun _ => 0) (0 : Int32).toNatClampNeg x2)))) H := hP
  have hD : va_D A ((((xW o u cI cZ cJ).set 13 ((u 12), .inr (5, ([.int 0, .ref (u 13), .ref (u 14), .ref (u 15), .ref (u 16), .ref (u 17), .ref (u 18)].set 0 (.int 1))))).set 14 ((u 13), .inl (cI, 110, .inl (upd (fun _ => 0) (0 : Int32).toNatClampNeg 17)))).set 15 ((u 14), .inl (cI, 110, .inl (upd (fun _ => 0) (0 : Int32).toNatClampNeg x2)))) := hD
  refine lv_aload_n hx hb dX5_add_32 rfl (lv_at hl 1 rfl) ?_
  refine xg (ci := 5) S inX5 rfl hK hP (q0 := 13) rfl 3 (by decide) rfl kw_1_120 rfl dX5_add_33 ?_
  refine lv_iload hx hb dX5_add_36 (lv_at hl 0 rfl) ?_
  refine lv_iload_n hx hb dX5_add_38 rfl (lv_at hl 4 rfl) ?_
  refine xiast (t0 := 0) S hK hP hD hS (q0 := 16) rfl rfl (vin rfl) dX5_add_39 (fun H locs hP hD hS => ?_)
  have hP : va_P D vwCl (((((xW o u cI cZ cJ).set 13 ((u 12), .inr (5, ([.int 0, .ref (u 13), .ref (u 14), .ref (u 15), .ref (u 16), .ref (u 17), .ref (u 18)].set 0 (.int 1))))).set 14 ((u 13), .inl (cI, 110, .inl (upd (fun _ => 0) (0 : Int32).toNatClampNeg 17)))).set 15 ((u 14), .inl (cI, 110, .inl (upd (fun _ => 0) (0 : Int32).toNatClampNeg x2)))).set 16 ((u 15), .inl (cI, 110, .inl (upd (fun _ => 0) (0 : Int32).toNatClampNeg 0)))) H := hP
  have hD : va_D A (((((xW o u cI cZ cJ).set 13 ((u 12), .inr (5, ([.int 0, .ref (u 13), .ref (u 14), .ref (u 15), .ref (u 16), .ref (u 17), .ref (u 18)].set 0 (.int 1))))).set 14 ((u 13), .inl (cI, 110, .inl (upd (fun _ => 0) (0 : Int32).toNatClampNeg 17)))).set 15 ((u 14), .inl (cI, 110, .inl (upd (fun _ => 0) (0 : Int32).toNatClampNeg x2)))).set 16 ((u 15), .inl (cI, 110, .inl (upd (fun _ => 0) (0 : Int32).toNatClampNeg 0)))) := hD
  refine lv_aload_n hx hb dX5_add_40 rfl (lv_at hl 1 rfl) ?_
  refine xg (ci := 5) S inX5 rfl hK hP (q0 := 13) rfl 4 (by decide) rfl kw_1_125 rfl dX5_add_41 ?_
  refine lv_iload hx hb dX5_add_44 (lv_at hl 0 rfl) ?_
  refine lv_iload hx hb dX5_add_46 (lv_at hl 5 rfl) ?_
  refine xiast (t0 := 0) S hK hP hD hS (q0 := 17) rfl rfl (vin rfl) dX5_add_48 (fun H locs hP hD hS => ?_)
  have hP : va_P D vwCl ((((((xW o u cI cZ cJ).set 13 ((u 12), .inr (5, ([.int 0, .ref (u 13), .ref (u 14), .ref (u 15), .ref (u 16), .ref (u 17), .ref (u 18)].set 0 (.int 1))))).set 14 ((u 13), .inl (cI, 110, .inl (upd (fun _ => 0) (0 : Int32).toNatClampNeg 17)))).set 15 ((u 14), .inl (cI, 110, .inl (upd (fun _ => 0) (0 : Int32).toNatClampNeg x2)))).set 16 ((u 15), .inl (cI, 110, .inl (upd (fun _ => 0) (0 : Int32).toNatClampNeg 0)))).set 17 ((u 16), .inl (cI, 110, .inl (upd (fun _ => 0) (0 : Int32).toNatClampNeg 0)))) H := hP
  have hD : va_D A ((((((xW o u cI cZ cJ).set 13 ((u 12), .inr (5, ([.int 0, .ref (u 13), .ref (u 14), .ref (u 15), .ref (u 16), .ref (u 17), .ref (u 18)].set 0 (.int 1))))).set 14 ((u 13), .inl (cI, 110, .inl (upd (fun _ => 0) (0 : Int32).toNatClampNeg 17)))).set 15 ((u 14), .inl (cI, 110, .inl (upd (fun _ => 0) (0 : Int32).toNatClampNeg x2)))).set 16 ((u 15), .inl (cI, 110, .inl (upd (fun _ => 0) (0 : Int32).toNatClampNeg 0)))).set 17 ((u 16), .inl (cI, 110, .inl (upd (fun _ => 0) (0 : Int32).toNatClampNeg 0)))) := hD
  refine lv_aload_n hx hb dX5_add_49 rfl (lv_at hl 1 rfl) ?_
  refine xg (ci := 5) S inX5 rfl hK hP (q0 := 13) rfl 5 (by decide) rfl kw_1_130 rfl dX5_add_50 ?_
  refine lv_iload hx hb dX5_add_53 (lv_at hl 0 rfl) ?_
  refine lv_iconst (v := (-1)) hx hb dX5_add_55 (by decide) ?_
  refine xiast (t0 := 0) S hK hP hD hS (q0 := 18) rfl rfl (vin rfl) dX5_add_56 (fun H locs hP hD hS => ?_)
  have hP : va_P D vwCl (((((((xW o u cI cZ cJ).set 13 ((u 12), .inr (5, ([.int 0, .ref (u 13), .ref (u 14), .ref (u 15), .ref (u 16), .ref (u 17), .ref (u 18)].set 0 (.int 1))))).set 14 ((u 13), .inl (cI, 110, .inl (upd (fun _ => 0) (0 : Int32).toNatClampNeg 17)))).set 15 ((u 14), .inl (cI, 110, .inl (upd (fun _ => 0) (0 : Int32).toNatClampNeg x2)))).set 16 ((u 15), .inl (cI, 110, .inl (upd (fun _ => 0) (0 : Int32).toNatClampNeg 0)))).set 17 ((u 16), .inl (cI, 110, .inl (upd (fun _ => 0) (0 : Int32).toNatClampNeg 0)))).set 18 ((u 17), .inl (cI, 110, .inl (upd (fun _ => 0) (0 : Int32).toNatClampNeg (-1))))) H := hP
  have hD : va_D A (((((((xW o u cI cZ cJ).set 13 ((u 12), .inr (5, ([.int 0, .ref (u 13), .ref (u 14), .ref (u 15), .ref (u 16), .ref (u 17), .ref (u 18)].set 0 (.int 1))))).set 14 ((u 13), .inl (cI, 110, .inl (upd (fun _ => 0) (0 : Int32).toNatClampNeg 17)))).set 15 ((u 14), .inl (cI, 110, .inl (upd (fun _ => 0) (0 : Int32).toNatClampNeg x2)))).set 16 ((u 15), .inl (cI, 110, .inl (upd (fun _ => 0) (0 : Int32).toNatClampNeg 0)))).set 17 ((u 16), .inl (cI, 110, .inl (upd (fun _ => 0) (0 : Int32).toNatClampNeg 0)))).set 18 ((u 17), .inl (cI, 110, .inl (upd (fun _ => 0) (0 : Int32).toNatClampNeg (-1))))) := hD
  refine lv_aload_n hx hb dX5_add_57 rfl (lv_at hl 1 rfl) ?_
  refine xg (ci := 5) S inX5 rfl hK hP (q0 := 13) rfl 6 (by decide) rfl kw_1_134 rfl dX5_add_58 ?_
  refine lv_iload hx hb dX5_add_61 (lv_at hl 0 rfl) ?_
  refine lv_iconst (v := (-1)) hx hb dX5_add_63 (by decide) ?_
  refine xiast (t0 := 0) S hK hP hD hS (q0 := 19) rfl rfl (vin rfl) dX5_add_64 (fun H locs hP hD hS => ?_)
  have hP : va_P D vwCl ((((((((xW o u cI cZ cJ).set 13 ((u 12), .inr (5, ([.int 0, .ref (u 13), .ref (u 14), .ref (u 15), .ref (u 16), .ref (u 17), .ref (u 18)].set 0 (.int 1))))).set 14 ((u 13), .inl (cI, 110, .inl (upd (fun _ => 0) (0 : Int32).toNatClampNeg 17)))).set 15 ((u 14), .inl (cI, 110, .inl (upd (fun _ => 0) (0 : Int32).toNatClampNeg x2)))).set 16 ((u 15), .inl (cI, 110, .inl (upd (fun _ => 0) (0 : Int32).toNatClampNeg 0)))).set 17 ((u 16), .inl (cI, 110, .inl (upd (fun _ => 0) (0 : Int32).toNatClampNeg 0)))).set 18 ((u 17), .inl (cI, 110, .inl (upd (fun _ => 0) (0 : Int32).toNatClampNeg (-1))))).set 19 ((u 18), .inl (cI, 110, .inl (upd (fun _ => 0) (0 : Int32).toNatClampNeg (-1))))) H := hP
  have hD : va_D A ((((((((xW o u cI cZ cJ).set 13 ((u 12), .inr (5, ([.int 0, .ref (u 13), .ref (u 14), .ref (u 15), .ref (u 16), .ref (u 17), .ref (u 18)].set 0 (.int 1))))).set 14 ((u 13), .inl (cI, 110, .inl (upd (fun _ => 0) (0 : Int32).toNatClampNeg 17)))).set 15 ((u 14), .inl (cI, 110, .inl (upd (fun _ => 0) (0 : Int32).toNatClampNeg x2)))).set 16 ((u 15), .inl (cI, 110, .inl (upd (fun _ => 0) (0 : Int32).toNatClampNeg 0)))).set 17 ((u 16), .inl (cI, 110, .inl (upd (fun _ => 0) (0 : Int32).toNatClampNeg 0)))).set 18 ((u 17), .inl (cI, 110, .inl (upd (fun _ => 0) (0 : Int32).toNatClampNeg (-1))))).set 19 ((u 18), .inl (cI, 110, .inl (upd (fun _ => 0) (0 : Int32).toNatClampNeg (-1))))) := hD
  refine lv_aload_n hx hb dX5_add_65 rfl (lv_at hl 1 rfl) ?_
  refine lv_aload_n hx hb dX5_add_66 rfl (lv_at hl 1 rfl) ?_
  refine lv_iload hx hb dX5_add_67 (lv_at hl 0 rfl) ?_
  refine aVi (As := [.int 0]) (ci := 5) S (c_X5_partA_5 l D cI cZ cJ o u ra ga H.size x2 lo_x2 hi_x2) mi_X5_partA kw_6_57 rfl rfl ⟨Nat.le_of_ble_eq_true rfl, Nat.le_of_ble_eq_true rfl⟩ hP hD hK hS hA hB (k := 13) rfl rfl rfl hl.1 (Nat.le_of_ble_eq_true rfl) ⟨Nat.le_of_ble_eq_true rfl, Nat.le_of_ble_eq_true rfl⟩ dX5_add_69 (fun H locs hz hP hD hS => ?_)
  refine lv_iload hx hb dX5_add_72 (lv_at hl 0 rfl) ?_
  refine aVv (As := [.int (-1), .int 0]) (ci := 5) S (c_X5_claim_5 l D cI cZ cJ o u ra ga H.size x2 lo_x2 hi_x2) mi_X5_claim kw_6_58 rfl rfl ⟨Nat.le_of_ble_eq_true rfl, Nat.le_of_ble_eq_true rfl⟩ hP hD hK hS hA hB (k := 13) rfl rfl rfl hl.1 (Nat.le_of_ble_eq_true rfl) ⟨Nat.le_of_ble_eq_true rfl, Nat.le_of_ble_eq_true rfl⟩ dX5_add_74 (fun H locs hz hP hD hS => ?_)
  refine lv_aload_n hx hb dX5_add_77 rfl (lv_at hl 1 rfl) ?_
  refine lv_aload_n hx hb dX5_add_78 rfl (lv_at hl 1 rfl) ?_
  refine lv_iload hx hb dX5_add_79 (lv_at hl 0 rfl) ?_
  refine aVi (As := [.int 0]) (ci := 5) S (c_X5_partB_5 l D cI cZ cJ o u ra ga H.size x2 lo_x2 hi_x2) mi_X5_partB kw_6_62 rfl rfl ⟨Nat.le_of_ble_eq_true rfl, Nat.le_of_ble_eq_true rfl⟩ hP hD hK hS hA hB (k := 13) rfl rfl rfl hl.1 (Nat.le_of_ble_eq_true rfl) ⟨Nat.le_of_ble_eq_true rfl, Nat.le_of_ble_eq_true rfl⟩ dX5_add_81 (fun H locs hz hP hD hS => ?_)
  refine lv_iload hx hb dX5_add_84 (lv_at hl 0 rfl) ?_
  refine aVv (As := [.int (-1), .int 0]) (ci := 5) S (c_X5_claim_5 l D cI cZ cJ o u ra ga H.size x2 lo_x2 hi_x2) mi_X5_claim kw_6_58 rfl rfl ⟨Nat.le_of_ble_eq_true rfl, Nat.le_of_ble_eq_true rfl⟩ hP hD hK hS hA hB (k := 13) rfl rfl rfl hl.1 (Nat.le_of_ble_eq_true rfl) ⟨Nat.le_of_ble_eq_true rfl, Nat.le_of_ble_eq_true rfl⟩ dX5_add_86 (fun H locs hz hP hD hS => ?_)
  refine lv_aload_n hx hb dX5_add_89 rfl (lv_at hl 1 rfl) ?_
  refine lv_aload_n hx hb dX5_add_90 rfl (lv_at hl 1 rfl) ?_
  refine lv_iload hx hb dX5_add_91 (lv_at hl 0 rfl) ?_
  refine aVi (As := [.int 0]) (ci := 5) S (c_X5_partC_5 l D cI cZ cJ o u ra ga H.size x2 lo_x2 hi_x2) mi_X5_partC kw_6_63 rfl rfl ⟨Nat.le_of_ble_eq_true rfl, Nat.le_of_ble_eq_true rfl⟩ hP hD hK hS hA hB (k := 13) rfl rfl rfl hl.1 (Nat.le_of_ble_eq_true rfl) ⟨Nat.le_of_ble_eq_true rfl, Nat.le_of_ble_eq_true rfl⟩ dX5_add_93 (fun H locs hz hP hD hS => ?_)
  refine lv_iload hx hb dX5_add_96 (lv_at hl 0 rfl) ?_
  refine aVv (As := [.int (-1), .int 0]) (ci := 5) S (c_X5_claim_5 l D cI cZ cJ o u ra ga H.size x2 lo_x2 hi_x2) mi_X5_claim kw_6_58 rfl rfl ⟨Nat.le_of_ble_eq_true rfl, Nat.le_of_ble_eq_true rfl⟩ hP hD hK hS hA hB (k := 13) rfl rfl rfl hl.1 (Nat.le_of_ble_eq_true rfl) ⟨Nat.le_of_ble_eq_true rfl, Nat.le_of_ble_eq_true rfl⟩ dX5_add_98 (fun H locs hz hP hD hS => ?_)
  refine lv_iload hx hb dX5_add_101 (lv_at hl 0 rfl) ?_
  exact wEnd S hr hlocks hP hD hS (Nat.le_of_ble_eq_true rfl) (Nat.le_of_ble_eq_true rfl) dX5_add_103 rfl

set_option maxHeartbeats 8000000 in
set_option maxRecDepth 100000 in
theorem c_X8_node_32 (l : Launch) (D : va_G) (cI cZ cJ : ClassId) (o : Nat) (u : Nat → Nat) (hst : l.stackTraces = false) (ra ga : Nat → Nat) (sz : Nat) (x2 : Int32) (x3 : Int32) (x4 : Int32) : vx_Met l yX8_node (uW yX8_node cX8_node 5 (some .int)) ({ frames := 7, cells := 1, slots := 6, locals := 102 }) (va_Pc [.ref o, .int 12, .int x2, .int x3, .int x4] (aS ra ga D (tyL cI cZ cJ) (xW o u cI cZ cJ) sz)) (nQi (va_A (xW o u cI cZ cJ) sz)) (wX "java/lang/IllegalArgumentException" D (xW o u cI cZ cJ) (va_A (xW o u cI cZ cJ) sz)) 1 6 (va_A (xW o u cI cZ cJ) sz) := by
  refine xStart (lv := [(0, .ref o), (1, .int 12), (2, .int x2), (3, .int x3), (4, .int x4)]) (Qc := fun A => nQi A) (XC := fun A => wX "java/lang/IllegalArgumentException" D (xW o u cI cZ cJ) A) (by decide) (Nat.le_of_ble_eq_true rfl) rfl ?_
  intro p e s m args below meth c ls A H S hr hlocks hnm hl hK hP hD hS hA hB hnt
  have hx := S.1
  have hb := S.2.1
  refine lv_aload_n hx hb dX8_node_0 rfl (lv_at hl 0 rfl) ?_
  refine xg (ci := 8) S inX8 rfl hK hP xW_0 1 (by decide) rfl kw_3_21 rfl dX8_node_1 ?_
  refine lv_iload_n hx hb dX8_node_4 rfl (lv_at hl 1 rfl) ?_
  refine lv_iload_n hx hb dX8_node_5 rfl (lv_at hl 2 rfl) ?_
  refine lv_iload_n hx hb dX8_node_6 rfl (lv_at hl 3 rfl) ?_
  refine lv_iload hx hb dX8_node_7 (lv_at hl 4 rfl) ?_
  refine aVi (As := [.int 12, .int x2, .int x3, .int x4]) (ci := 5) S (c_X5_suits_32 l D cI cZ cJ o u ra ga H.size x2 x3 x4) mi_X5_suits kw_6_27 rfl rfl ⟨Nat.le_of_ble_eq_true rfl, Nat.le_of_ble_eq_true rfl⟩ hP hD hK hS hA hB xW_13 rfl rfl hl.1 (Nat.le_of_ble_eq_true rfl) ⟨Nat.le_of_ble_eq_true rfl, Nat.le_of_ble_eq_true rfl⟩ dX8_node_9 (fun H locs hz hP hD hS => ?_)
  exact tSv (As := [.int 0]) S (c_X8_needArgument_0 l D cI cZ cJ o u hst ra ga H.size) ms_X8_needArgument kw_4_4 rfl rfl ⟨Nat.le_of_ble_eq_true rfl, Nat.le_of_ble_eq_true rfl⟩ hP hD hK hS hA hB hl.1 (Nat.le_of_ble_eq_true rfl) ⟨Nat.le_of_ble_eq_true rfl, Nat.le_of_ble_eq_true rfl⟩ dX8_node_12 hnt hlocks (Nat.le_of_ble_eq_true rfl) (Nat.le_of_ble_eq_true rfl)

set_option maxHeartbeats 8000000 in
set_option maxRecDepth 100000 in
theorem c_X8_node_33 (l : Launch) (D : va_G) (cI cZ cJ : ClassId) (o : Nat) (u : Nat → Nat) (hst : l.stackTraces = false) (ra ga : Nat → Nat) (sz : Nat) (x2 : Int32) (x3 : Int32) (x4 : Int32) : vx_Met l yX8_node (uW yX8_node cX8_node 5 (some .int)) ({ frames := 7, cells := 1, slots := 6, locals := 102 }) (va_Pc [.ref o, .int 13, .int x2, .int x3, .int x4] (aS ra ga D (tyL cI cZ cJ) (xW o u cI cZ cJ) sz)) (nQi (va_A (xW o u cI cZ cJ) sz)) (wX "java/lang/IllegalArgumentException" D (xW o u cI cZ cJ) (va_A (xW o u cI cZ cJ) sz)) 1 6 (va_A (xW o u cI cZ cJ) sz) := by
  refine xStart (lv := [(0, .ref o), (1, .int 13), (2, .int x2), (3, .int x3), (4, .int x4)]) (Qc := fun A => nQi A) (XC := fun A => wX "java/lang/IllegalArgumentException" D (xW o u cI cZ cJ) A) (by decide) (Nat.le_of_ble_eq_true rfl) rfl ?_
  intro p e s m args below meth c ls A H S hr hlocks hnm hl hK hP hD hS hA hB hnt
  have hx := S.1
  have hb := S.2.1
  refine lv_aload_n hx hb dX8_node_0 rfl (lv_at hl 0 rfl) ?_
  refine xg (ci := 8) S inX8 rfl hK hP xW_0 1 (by decide) rfl kw_3_21 rfl dX8_node_1 ?_
  refine lv_iload_n hx hb dX8_node_4 rfl (lv_at hl 1 rfl) ?_
  refine lv_iload_n hx hb dX8_node_5 rfl (lv_at hl 2 rfl) ?_
  refine lv_iload_n hx hb dX8_node_6 rfl (lv_at hl 3 rfl) ?_
  refine lv_iload hx hb dX8_node_7 (lv_at hl 4 rfl) ?_
  refine aVi (As := [.int 13, .int x2, .int x3, .int x4]) (ci := 5) S (c_X5_suits_33 l D cI cZ cJ o u ra ga H.size x2 x3 x4) mi_X5_suits kw_6_27 rfl rfl ⟨Nat.le_of_ble_eq_true rfl, Nat.le_of_ble_eq_true rfl⟩ hP hD hK hS hA hB xW_13 rfl rfl hl.1 (Nat.le_of_ble_eq_true rfl) ⟨Nat.le_of_ble_eq_true rfl, Nat.le_of_ble_eq_true rfl⟩ dX8_node_9 (fun H locs hz hP hD hS => ?_)
  exact tSv (As := [.int 0]) S (c_X8_needArgument_0 l D cI cZ cJ o u hst ra ga H.size) ms_X8_needArgument kw_4_4 rfl rfl ⟨Nat.le_of_ble_eq_true rfl, Nat.le_of_ble_eq_true rfl⟩ hP hD hK hS hA hB hl.1 (Nat.le_of_ble_eq_true rfl) ⟨Nat.le_of_ble_eq_true rfl, Nat.le_of_ble_eq_true rfl⟩ dX8_node_12 hnt hlocks (Nat.le_of_ble_eq_true rfl) (Nat.le_of_ble_eq_true rfl)

set_option maxHeartbeats 8000000 in
set_option maxRecDepth 100000 in
theorem c_X8_node_34 (l : Launch) (D : va_G) (cI cZ cJ : ClassId) (o : Nat) (u : Nat → Nat) (hst : l.stackTraces = false) (ra ga : Nat → Nat) (sz : Nat) (x2 : Int32) (x3 : Int32) (x4 : Int32) : vx_Met l yX8_node (uW yX8_node cX8_node 5 (some .int)) ({ frames := 7, cells := 1, slots := 6, locals := 102 }) (va_Pc [.ref o, .int 14, .int x2, .int x3, .int x4] (aS ra ga D (tyL cI cZ cJ) (xW o u cI cZ cJ) sz)) (nQi (va_A (xW o u cI cZ cJ) sz)) (wX "java/lang/IllegalArgumentException" D (xW o u cI cZ cJ) (va_A (xW o u cI cZ cJ) sz)) 1 6 (va_A (xW o u cI cZ cJ) sz) := by
  refine xStart (lv := [(0, .ref o), (1, .int 14), (2, .int x2), (3, .int x3), (4, .int x4)]) (Qc := fun A => nQi A) (XC := fun A => wX "java/lang/IllegalArgumentException" D (xW o u cI cZ cJ) A) (by decide) (Nat.le_of_ble_eq_true rfl) rfl ?_
  intro p e s m args below meth c ls A H S hr hlocks hnm hl hK hP hD hS hA hB hnt
  have hx := S.1
  have hb := S.2.1
  refine lv_aload_n hx hb dX8_node_0 rfl (lv_at hl 0 rfl) ?_
  refine xg (ci := 8) S inX8 rfl hK hP xW_0 1 (by decide) rfl kw_3_21 rfl dX8_node_1 ?_
  refine lv_iload_n hx hb dX8_node_4 rfl (lv_at hl 1 rfl) ?_
  refine lv_iload_n hx hb dX8_node_5 rfl (lv_at hl 2 rfl) ?_
  refine lv_iload_n hx hb dX8_node_6 rfl (lv_at hl 3 rfl) ?_
  refine lv_iload hx hb dX8_node_7 (lv_at hl 4 rfl) ?_
  refine aVi (As := [.int 14, .int x2, .int x3, .int x4]) (ci := 5) S (c_X5_suits_34 l D cI cZ cJ o u ra ga H.size x2 x3 x4) mi_X5_suits kw_6_27 rfl rfl ⟨Nat.le_of_ble_eq_true rfl, Nat.le_of_ble_eq_true rfl⟩ hP hD hK hS hA hB xW_13 rfl rfl hl.1 (Nat.le_of_ble_eq_true rfl) ⟨Nat.le_of_ble_eq_true rfl, Nat.le_of_ble_eq_true rfl⟩ dX8_node_9 (fun H locs hz hP hD hS => ?_)
  exact tSv (As := [.int 0]) S (c_X8_needArgument_0 l D cI cZ cJ o u hst ra ga H.size) ms_X8_needArgument kw_4_4 rfl rfl ⟨Nat.le_of_ble_eq_true rfl, Nat.le_of_ble_eq_true rfl⟩ hP hD hK hS hA hB hl.1 (Nat.le_of_ble_eq_true rfl) ⟨Nat.le_of_ble_eq_true rfl, Nat.le_of_ble_eq_true rfl⟩ dX8_node_12 hnt hlocks (Nat.le_of_ble_eq_true rfl) (Nat.le_of_ble_eq_true rfl)

set_option maxHeartbeats 8000000 in
set_option maxRecDepth 100000 in
theorem c_X8_node_35 (l : Launch) (D : va_G) (cI cZ cJ : ClassId) (o : Nat) (u : Nat → Nat) (hst : l.stackTraces = false) (ra ga : Nat → Nat) (sz : Nat) (x2 : Int32) (x3 : Int32) (x4 : Int32) : vx_Met l yX8_node (uW yX8_node cX8_node 5 (some .int)) ({ frames := 7, cells := 1, slots := 6, locals := 102 }) (va_Pc [.ref o, .int 15, .int x2, .int x3, .int x4] (aS ra ga D (tyL cI cZ cJ) (xW o u cI cZ cJ) sz)) (nQi (va_A (xW o u cI cZ cJ) sz)) (wX "java/lang/IllegalArgumentException" D (xW o u cI cZ cJ) (va_A (xW o u cI cZ cJ) sz)) 1 6 (va_A (xW o u cI cZ cJ) sz) := by
  refine xStart (lv := [(0, .ref o), (1, .int 15), (2, .int x2), (3, .int x3), (4, .int x4)]) (Qc := fun A => nQi A) (XC := fun A => wX "java/lang/IllegalArgumentException" D (xW o u cI cZ cJ) A) (by decide) (Nat.le_of_ble_eq_true rfl) rfl ?_
  intro p e s m args below meth c ls A H S hr hlocks hnm hl hK hP hD hS hA hB hnt
  have hx := S.1
  have hb := S.2.1
  refine lv_aload_n hx hb dX8_node_0 rfl (lv_at hl 0 rfl) ?_
  refine xg (ci := 8) S inX8 rfl hK hP xW_0 1 (by decide) rfl kw_3_21 rfl dX8_node_1 ?_
  refine lv_iload_n hx hb dX8_node_4 rfl (lv_at hl 1 rfl) ?_
  refine lv_iload_n hx hb dX8_node_5 rfl (lv_at hl 2 rfl) ?_
  refine lv_iload_n hx hb dX8_node_6 rfl (lv_at hl 3 rfl) ?_
  refine lv_iload hx hb dX8_node_7 (lv_at hl 4 rfl) ?_
  refine aVi (As := [.int 15, .int x2, .int x3, .int x4]) (ci := 5) S (c_X5_suits_35 l D cI cZ cJ o u ra ga H.size x2 x3 x4) mi_X5_suits kw_6_27 rfl rfl ⟨Nat.le_of_ble_eq_true rfl, Nat.le_of_ble_eq_true rfl⟩ hP hD hK hS hA hB xW_13 rfl rfl hl.1 (Nat.le_of_ble_eq_true rfl) ⟨Nat.le_of_ble_eq_true rfl, Nat.le_of_ble_eq_true rfl⟩ dX8_node_9 (fun H locs hz hP hD hS => ?_)
  exact tSv (As := [.int 0]) S (c_X8_needArgument_0 l D cI cZ cJ o u hst ra ga H.size) ms_X8_needArgument kw_4_4 rfl rfl ⟨Nat.le_of_ble_eq_true rfl, Nat.le_of_ble_eq_true rfl⟩ hP hD hK hS hA hB hl.1 (Nat.le_of_ble_eq_true rfl) ⟨Nat.le_of_ble_eq_true rfl, Nat.le_of_ble_eq_true rfl⟩ dX8_node_12 hnt hlocks (Nat.le_of_ble_eq_true rfl) (Nat.le_of_ble_eq_true rfl)

set_option maxHeartbeats 8000000 in
set_option maxRecDepth 100000 in
theorem c_X8_node_36 (l : Launch) (D : va_G) (cI cZ cJ : ClassId) (o : Nat) (u : Nat → Nat) (hst : l.stackTraces = false) (ra ga : Nat → Nat) (sz : Nat) (x2 : Int32) (x3 : Int32) (x4 : Int32) : vx_Met l yX8_node (uW yX8_node cX8_node 5 (some .int)) ({ frames := 7, cells := 1, slots := 6, locals := 102 }) (va_Pc [.ref o, .int 16, .int x2, .int x3, .int x4] (aS ra ga D (tyL cI cZ cJ) (xW o u cI cZ cJ) sz)) (nQi (va_A (xW o u cI cZ cJ) sz)) (wX "java/lang/IllegalArgumentException" D (xW o u cI cZ cJ) (va_A (xW o u cI cZ cJ) sz)) 1 6 (va_A (xW o u cI cZ cJ) sz) := by
  refine xStart (lv := [(0, .ref o), (1, .int 16), (2, .int x2), (3, .int x3), (4, .int x4)]) (Qc := fun A => nQi A) (XC := fun A => wX "java/lang/IllegalArgumentException" D (xW o u cI cZ cJ) A) (by decide) (Nat.le_of_ble_eq_true rfl) rfl ?_
  intro p e s m args below meth c ls A H S hr hlocks hnm hl hK hP hD hS hA hB hnt
  have hx := S.1
  have hb := S.2.1
  refine lv_aload_n hx hb dX8_node_0 rfl (lv_at hl 0 rfl) ?_
  refine xg (ci := 8) S inX8 rfl hK hP xW_0 1 (by decide) rfl kw_3_21 rfl dX8_node_1 ?_
  refine lv_iload_n hx hb dX8_node_4 rfl (lv_at hl 1 rfl) ?_
  refine lv_iload_n hx hb dX8_node_5 rfl (lv_at hl 2 rfl) ?_
  refine lv_iload_n hx hb dX8_node_6 rfl (lv_at hl 3 rfl) ?_
  refine lv_iload hx hb dX8_node_7 (lv_at hl 4 rfl) ?_
  refine aVi (As := [.int 16, .int x2, .int x3, .int x4]) (ci := 5) S (c_X5_suits_36 l D cI cZ cJ o u ra ga H.size x2 x3 x4) mi_X5_suits kw_6_27 rfl rfl ⟨Nat.le_of_ble_eq_true rfl, Nat.le_of_ble_eq_true rfl⟩ hP hD hK hS hA hB xW_13 rfl rfl hl.1 (Nat.le_of_ble_eq_true rfl) ⟨Nat.le_of_ble_eq_true rfl, Nat.le_of_ble_eq_true rfl⟩ dX8_node_9 (fun H locs hz hP hD hS => ?_)
  exact tSv (As := [.int 0]) S (c_X8_needArgument_0 l D cI cZ cJ o u hst ra ga H.size) ms_X8_needArgument kw_4_4 rfl rfl ⟨Nat.le_of_ble_eq_true rfl, Nat.le_of_ble_eq_true rfl⟩ hP hD hK hS hA hB hl.1 (Nat.le_of_ble_eq_true rfl) ⟨Nat.le_of_ble_eq_true rfl, Nat.le_of_ble_eq_true rfl⟩ dX8_node_12 hnt hlocks (Nat.le_of_ble_eq_true rfl) (Nat.le_of_ble_eq_true rfl)

set_option maxHeartbeats 8000000 in
set_option maxRecDepth 100000 in
theorem c_X8_node_37 (l : Launch) (D : va_G) (cI cZ cJ : ClassId) (o : Nat) (u : Nat → Nat) (hst : l.stackTraces = false) (ra ga : Nat → Nat) (sz : Nat) (x2 : Int32) (x3 : Int32) (x4 : Int32) (hi_x2 : x2 ≤ (-1)) : vx_Met l yX8_node (uW yX8_node cX8_node 5 (some .int)) ({ frames := 7, cells := 1, slots := 6, locals := 102 }) (va_Pc [.ref o, .int 17, .int x2, .int x3, .int x4] (aS ra ga D (tyL cI cZ cJ) (xW o u cI cZ cJ) sz)) (nQi (va_A (xW o u cI cZ cJ) sz)) (wX "java/lang/IllegalArgumentException" D (xW o u cI cZ cJ) (va_A (xW o u cI cZ cJ) sz)) 1 6 (va_A (xW o u cI cZ cJ) sz) := by
  refine xStart (lv := [(0, .ref o), (1, .int 17), (2, .int x2), (3, .int x3), (4, .int x4)]) (Qc := fun A => nQi A) (XC := fun A => wX "java/lang/IllegalArgumentException" D (xW o u cI cZ cJ) A) (by decide) (Nat.le_of_ble_eq_true rfl) rfl ?_
  intro p e s m args below meth c ls A H S hr hlocks hnm hl hK hP hD hS hA hB hnt
  have hx := S.1
  have hb := S.2.1
  refine lv_aload_n hx hb dX8_node_0 rfl (lv_at hl 0 rfl) ?_
  refine xg (ci := 8) S inX8 rfl hK hP xW_0 1 (by decide) rfl kw_3_21 rfl dX8_node_1 ?_
  refine lv_iload_n hx hb dX8_node_4 rfl (lv_at hl 1 rfl) ?_
  refine lv_iload_n hx hb dX8_node_5 rfl (lv_at hl 2 rfl) ?_
  refine lv_iload_n hx hb dX8_node_6 rfl (lv_at hl 3 rfl) ?_
  refine lv_iload hx hb dX8_node_7 (lv_at hl 4 rfl) ?_
  refine aVi (As := [.int 17, .int x2, .int x3, .int x4]) (ci := 5) S (c_X5_suits_37 l D cI cZ cJ o u ra ga H.size x2 x3 x4 hi_x2) mi_X5_suits kw_6_27 rfl rfl ⟨Nat.le_of_ble_eq_true rfl, Nat.le_of_ble_eq_true rfl⟩ hP hD hK hS hA hB xW_13 rfl rfl hl.1 (Nat.le_of_ble_eq_true rfl) ⟨Nat.le_of_ble_eq_true rfl, Nat.le_of_ble_eq_true rfl⟩ dX8_node_9 (fun H locs hz hP hD hS => ?_)
  exact tSv (As := [.int 0]) S (c_X8_needArgument_0 l D cI cZ cJ o u hst ra ga H.size) ms_X8_needArgument kw_4_4 rfl rfl ⟨Nat.le_of_ble_eq_true rfl, Nat.le_of_ble_eq_true rfl⟩ hP hD hK hS hA hB hl.1 (Nat.le_of_ble_eq_true rfl) ⟨Nat.le_of_ble_eq_true rfl, Nat.le_of_ble_eq_true rfl⟩ dX8_node_12 hnt hlocks (Nat.le_of_ble_eq_true rfl) (Nat.le_of_ble_eq_true rfl)

set_option maxHeartbeats 8000000 in
set_option maxRecDepth 100000 in
theorem c_X8_node_38 (l : Launch) (D : va_G) (cI cZ cJ : ClassId) (o : Nat) (u : Nat → Nat) (hst : l.stackTraces = false) (ra ga : Nat → Nat) (sz : Nat) (x2 : Int32) (x3 : Int32) (x4 : Int32) (lo_x2 : 10 ≤ x2) : vx_Met l yX8_node (uW yX8_node cX8_node 5 (some .int)) ({ frames := 7, cells := 1, slots := 6, locals := 102 }) (va_Pc [.ref o, .int 17, .int x2, .int x3, .int x4] (aS ra ga D (tyL cI cZ cJ) (xW o u cI cZ cJ) sz)) (nQi (va_A (xW o u cI cZ cJ) sz)) (wX "java/lang/IllegalArgumentException" D (xW o u cI cZ cJ) (va_A (xW o u cI cZ cJ) sz)) 1 6 (va_A (xW o u cI cZ cJ) sz) := by
  refine xStart (lv := [(0, .ref o), (1, .int 17), (2, .int x2), (3, .int x3), (4, .int x4)]) (Qc := fun A => nQi A) (XC := fun A => wX "java/lang/IllegalArgumentException" D (xW o u cI cZ cJ) A) (by decide) (Nat.le_of_ble_eq_true rfl) rfl ?_
  intro p e s m args below meth c ls A H S hr hlocks hnm hl hK hP hD hS hA hB hnt
  have hx := S.1
  have hb := S.2.1
  refine lv_aload_n hx hb dX8_node_0 rfl (lv_at hl 0 rfl) ?_
  refine xg (ci := 8) S inX8 rfl hK hP xW_0 1 (by decide) rfl kw_3_21 rfl dX8_node_1 ?_
  refine lv_iload_n hx hb dX8_node_4 rfl (lv_at hl 1 rfl) ?_
  refine lv_iload_n hx hb dX8_node_5 rfl (lv_at hl 2 rfl) ?_
  refine lv_iload_n hx hb dX8_node_6 rfl (lv_at hl 3 rfl) ?_
  refine lv_iload hx hb dX8_node_7 (lv_at hl 4 rfl) ?_
  refine aVi (As := [.int 17, .int x2, .int x3, .int x4]) (ci := 5) S (c_X5_suits_38 l D cI cZ cJ o u ra ga H.size x2 x3 x4 lo_x2) mi_X5_suits kw_6_27 rfl rfl ⟨Nat.le_of_ble_eq_true rfl, Nat.le_of_ble_eq_true rfl⟩ hP hD hK hS hA hB xW_13 rfl rfl hl.1 (Nat.le_of_ble_eq_true rfl) ⟨Nat.le_of_ble_eq_true rfl, Nat.le_of_ble_eq_true rfl⟩ dX8_node_9 (fun H locs hz hP hD hS => ?_)
  exact tSv (As := [.int 0]) S (c_X8_needArgument_0 l D cI cZ cJ o u hst ra ga H.size) ms_X8_needArgument kw_4_4 rfl rfl ⟨Nat.le_of_ble_eq_true rfl, Nat.le_of_ble_eq_true rfl⟩ hP hD hK hS hA hB hl.1 (Nat.le_of_ble_eq_true rfl) ⟨Nat.le_of_ble_eq_true rfl, Nat.le_of_ble_eq_true rfl⟩ dX8_node_12 hnt hlocks (Nat.le_of_ble_eq_true rfl) (Nat.le_of_ble_eq_true rfl)

set_option maxHeartbeats 8000000 in
set_option maxRecDepth 100000 in
theorem c_X5_suits_40 (l : Launch) (D : va_G) (cI cZ cJ : ClassId) (o : Nat) (u : Nat → Nat) (ra ga : Nat → Nat) (sz : Nat) (x2 : Int32) (x4 : Int32) (lo_x2 : 0 ≤ x2) (hi_x2 : x2 ≤ 9) (ne_x4_0 : ¬ x4 = 0) : Met l yX5_suits (uW yX5_suits cX5_suits 5 (some .boolean)) ({ frames := 1, cells := 0, slots := 0, locals := 22 }) (va_Pc [.ref (u 12), .int 17, .int x2, .int 0, .int x4] (aS ra ga D (tyL cI cZ cJ) (xW o u cI cZ cJ) sz)) (wQi (0) D (xW o u cI cZ cJ) (va_A (xW o u cI cZ cJ) sz)) 0 0 (va_A (xW o u cI cZ cJ) sz) := by
  refine aStart (lv := [(0, .ref (u 12)), (1, .int 17), (2, .int x2), (3, .int 0), (4, .int x4)]) (Qc := fun A => wQi (0) D (xW o u cI cZ cJ) A) (by decide) (Nat.le_of_ble_eq_true rfl) rfl ?_
  intro p e s m args below meth c ls A H S hr hlocks hnm hl hK hP hD hS hA hB
  have hx := S.1
  have hb := S.2.1
  refine lv_iload_n hx hb dX5_suits_0 rfl (lv_at hl 1 rfl) ?_
  refine lv_if_lt (tgt := 10) hx hb dX5_suits_1 (by decide) (fun c => absurd c (by decide)) (fun _ => ?_)
  refine lv_iload_n hx hb dX5_suits_4 rfl (lv_at hl 1 rfl) ?_
  refine lv_bipush (v := 21) hx hb dX5_suits_5 (by decide) ?_
  refine lv_icmp_le (tgt := 12) hx hb dX5_suits_7 (by decide) (fun _ => ?_) (fun c => absurd c (by decide))
  refine lv_aload_n hx hb dX5_suits_12 rfl (lv_at hl 0 rfl) ?_
  refine xgs S hB.z0 hS kw_3_91 rfl dX5_suits_13 ?_
  refine lv_iload_n hx hb dX5_suits_16 rfl (lv_at hl 1 rfl) ?_
  refine xti (v := 3) S hB.t0 hS (vin rfl) rfl dX5_suits_17 ?_
  refine lv_iload_n hx hb dX5_suits_18 rfl (lv_at hl 2 rfl) ?_
  refine rdV (As := [.int 3, .int x2]) (ci := 5) S (c_X5_fills_19 l D cI cZ cJ o u x2 lo_x2 hi_x2) mi_X5_fills kw_6_31 ⟨rfl, rfl⟩ ⟨Nat.le_of_ble_eq_true rfl, Nat.le_of_ble_eq_true rfl⟩ hP hK xW_13 rfl rfl hl.1 (Nat.le_of_ble_eq_true rfl) ⟨Nat.le_of_ble_eq_true rfl, Nat.le_of_ble_eq_true rfl⟩ dX5_suits_19 ?_
  refine lv_if_eq (tgt := 112) hx hb dX5_suits_22 (by decide) (fun c => absurd c (by decide)) (fun _ => ?_)
  refine lv_aload_n hx hb dX5_suits_25 rfl (lv_at hl 0 rfl) ?_
  refine xgs S hB.z1 hS kw_3_228 rfl dX5_suits_26 ?_
  refine lv_iload_n hx hb dX5_suits_29 rfl (lv_at hl 1 rfl) ?_
  refine xti (v := 0) S hB.t1 hS (vin rfl) rfl dX5_suits_30 ?_
  refine lv_iload_n hx hb dX5_suits_31 rfl (lv_at hl 3 rfl) ?_
  refine rdV (As := [.int 0, .int 0]) (ci := 5) S (c_X5_fills_3 l D cI cZ cJ o u) mi_X5_fills kw_6_31 ⟨rfl, rfl⟩ ⟨Nat.le_of_ble_eq_true rfl, Nat.le_of_ble_eq_true rfl⟩ hP hK xW_13 rfl rfl hl.1 (Nat.le_of_ble_eq_true rfl) ⟨Nat.le_of_ble_eq_true rfl, Nat.le_of_ble_eq_true rfl⟩ dX5_suits_32 ?_
  refine lv_if_eq (tgt := 112) hx hb dX5_suits_35 (by decide) (fun c => absurd c (by decide)) (fun _ => ?_)
  refine lv_aload_n hx hb dX5_suits_38 rfl (lv_at hl 0 rfl) ?_
  refine xgs S hB.z2 hS kw_3_222 rfl dX5_suits_39 ?_
  refine lv_iload_n hx hb dX5_suits_42 rfl (lv_at hl 1 rfl) ?_
  refine xti (v := 0) S hB.t2 hS (vin rfl) rfl dX5_suits_43 ?_
  refine lv_iload hx hb dX5_suits_44 (lv_at hl 4 rfl) ?_
  refine rdV (As := [.int 0, .int x4]) (ci := 5) S (c_X5_fills_4 l D cI cZ cJ o u x4 ne_x4_0) mi_X5_fills kw_6_31 ⟨rfl, rfl⟩ ⟨Nat.le_of_ble_eq_true rfl, Nat.le_of_ble_eq_true rfl⟩ hP hK xW_13 rfl rfl hl.1 (Nat.le_of_ble_eq_true rfl) ⟨Nat.le_of_ble_eq_true rfl, Nat.le_of_ble_eq_true rfl⟩ dX5_suits_46 ?_
  refine lv_if_eq (tgt := 112) hx hb dX5_suits_49 (by decide) (fun _ => ?_) (fun c => absurd c (by decide))
  refine lv_iconst (v := 0) hx hb dX5_suits_112 (by decide) ?_
  exact wEndZ S hr hlocks hP hD hS (Nat.le_of_ble_eq_true rfl) (Nat.le_of_ble_eq_true rfl) dX5_suits_113 rfl rfl

set_option maxHeartbeats 8000000 in
set_option maxRecDepth 100000 in
theorem c_X8_node_39 (l : Launch) (D : va_G) (cI cZ cJ : ClassId) (o : Nat) (u : Nat → Nat) (ra ga : Nat → Nat) (sz : Nat) (x2 : Int32) (lo_x2 : 0 ≤ x2) (hi_x2 : x2 ≤ 9) : Met l yX8_node (uW yX8_node cX8_node 5 (some .int)) ({ frames := 2, cells := 0, slots := 0, locals := 47 }) (va_Pc [.ref o, .int 17, .int x2, .int 0, .int 0] (aS ra ga D (tyL cI cZ cJ) (xW o u cI cZ cJ) sz)) (wQi (0) D ((((((((xW o u cI cZ cJ).set 13 ((u 12), .inr (5, ([.int 0, .ref (u 13), .ref (u 14), .ref (u 15), .ref (u 16), .ref (u 17), .ref (u 18)].set 0 (.int 1))))).set 14 ((u 13), .inl (cI, 110, .inl (upd (fun _ => 0) (0 : Int32).toNatClampNeg 17)))).set 15 ((u 14), .inl (cI, 110, .inl (upd (fun _ => 0) (0 : Int32).toNatClampNeg x2)))).set 16 ((u 15), .inl (cI, 110, .inl (upd (fun _ => 0) (0 : Int32).toNatClampNeg 0)))).set 17 ((u 16), .inl (cI, 110, .inl (upd (fun _ => 0) (0 : Int32).toNatClampNeg 0)))).set 18 ((u 17), .inl (cI, 110, .inl (upd (fun _ => 0) (0 : Int32).toNatClampNeg (-1))))).set 19 ((u 18), .inl (cI, 110, .inl (upd (fun _ => 0) (0 : Int32).toNatClampNeg (-1))))) (va_A (xW o u cI cZ cJ) sz)) 0 0 (va_A (xW o u cI cZ cJ) sz) := by
  refine aStart (lv := [(0, .ref o), (1, .int 17), (2, .int x2), (3, .int 0), (4, .int 0)]) (Qc := fun A => wQi (0) D ((((((((xW o u cI cZ cJ).set 13 ((u 12), .inr (5, ([.int 0, .ref (u 13), .ref (u 14), .ref (u 15), .ref (u 16), .ref (u 17), .ref (u 18)].set 0 (.int 1))))).set 14 ((u 13), .inl (cI, 110, .inl (upd (fun _ => 0) (0 : Int32).toNatClampNeg 17)))).set 15 ((u 14), .inl (cI, 110, .inl (upd (fun _ => 0) (0 : Int32).toNatClampNeg x2)))).set 16 ((u 15), .inl (cI, 110, .inl (upd (fun _ => 0) (0 : Int32).toNatClampNeg 0)))).set 17 ((u 16), .inl (cI, 110, .inl (upd (fun _ => 0) (0 : Int32).toNatClampNeg 0)))).set 18 ((u 17), .inl (cI, 110, .inl (upd (fun _ => 0) (0 : Int32).toNatClampNeg (-1))))).set 19 ((u 18), .inl (cI, 110, .inl (upd (fun _ => 0) (0 : Int32).toNatClampNeg (-1))))) A) (by decide) (Nat.le_of_ble_eq_true rfl) rfl ?_
  intro p e s m args below meth c ls A H S hr hlocks hnm hl hK hP hD hS hA hB
  have hx := S.1
  have hb := S.2.1
  refine lv_aload_n hx hb dX8_node_0 rfl (lv_at hl 0 rfl) ?_
  refine xg (ci := 8) S inX8 rfl hK hP xW_0 1 (by decide) rfl kw_3_21 rfl dX8_node_1 ?_
  refine lv_iload_n hx hb dX8_node_4 rfl (lv_at hl 1 rfl) ?_
  refine lv_iload_n hx hb dX8_node_5 rfl (lv_at hl 2 rfl) ?_
  refine lv_iload_n hx hb dX8_node_6 rfl (lv_at hl 3 rfl) ?_
  refine lv_iload hx hb dX8_node_7 (lv_at hl 4 rfl) ?_
  refine aVi (As := [.int 17, .int x2, .int 0, .int 0]) (ci := 5) S (c_X5_suits_39 l D cI cZ cJ o u ra ga H.size x2 lo_x2 hi_x2) mi_X5_suits kw_6_27 rfl rfl ⟨Nat.le_of_ble_eq_true rfl, Nat.le_of_ble_eq_true rfl⟩ hP hD hK hS hA hB xW_13 rfl rfl hl.1 (Nat.le_of_ble_eq_true rfl) ⟨Nat.le_of_ble_eq_true rfl, Nat.le_of_ble_eq_true rfl⟩ dX8_node_9 (fun H locs hz hP hD hS => ?_)
  refine aSv (As := [.int 1]) S (c_X8_needArgument_1 l D cI cZ cJ o u ra ga H.size) ms_X8_needArgument kw_4_4 rfl rfl ⟨Nat.le_of_ble_eq_true rfl, Nat.le_of_ble_eq_true rfl⟩ hP hD hK hS hA hB hl.1 (Nat.le_of_ble_eq_true rfl) ⟨Nat.le_of_ble_eq_true rfl, Nat.le_of_ble_eq_true rfl⟩ dX8_node_12 (fun H locs hz hP hD hS => ?_)
  refine lv_aload_n hx hb dX8_node_15 rfl (lv_at hl 0 rfl) ?_
  refine xg (ci := 8) S inX8 rfl hK hP xW_0 1 (by decide) rfl kw_3_21 rfl dX8_node_16 ?_
  refine xg (ci := 5) S inX5 rfl hK hP xW_13 0 (by decide) rfl kw_1_110 rfl dX8_node_19 ?_
  refine lv_bipush (v := 110) hx hb dX8_node_22 (by decide) ?_
  refine lv_icmp_ge (tgt := 31) hx hb dX8_node_24 (by decide) (fun c => absurd c (by decide)) (fun _ => ?_)
  refine lv_iconst (v := 1) hx hb dX8_node_27 (by decide) ?_
  refine lv_goto (tgt := 32) hx hb dX8_node_28 (by decide) ?_
  refine aSv (As := [.int 1]) S (c_X8_needState_0 l D cI cZ cJ o u ra ga H.size) ms_X8_needState kw_5_183 rfl rfl ⟨Nat.le_of_ble_eq_true rfl, Nat.le_of_ble_eq_true rfl⟩ hP hD hK hS hA hB hl.1 (Nat.le_of_ble_eq_true rfl) ⟨Nat.le_of_ble_eq_true rfl, Nat.le_of_ble_eq_true rfl⟩ dX8_node_32 (fun H locs hz hP hD hS => ?_)
  refine lv_aload_n hx hb dX8_node_35 rfl (lv_at hl 0 rfl) ?_
  refine lv_iconst (v := 1) hx hb dX8_node_36 (by decide) ?_
  refine xp (ci := 8) (v := .int 1) S inX8 tyX8 tyX8_ok nmX8 rfl hK hP hD hS xW_0 9 (by decide) kw_3_29 rfl rfl rfl rfl (Nat.le_of_ble_eq_true rfl) dX8_node_37 (fun H locs hP hD hS => ?_)
  have hP : va_P D vwCl (xW o u cI cZ cJ) H := hP
  have hD : va_D A (xW o u cI cZ cJ) := hD
  refine lv_aload_n hx hb dX8_node_40 rfl (lv_at hl 0 rfl) ?_
  refine xg (ci := 8) S inX8 rfl hK hP xW_0 1 (by decide) rfl kw_3_21 rfl dX8_node_41 ?_
  refine lv_iload_n hx hb dX8_node_44 rfl (lv_at hl 1 rfl) ?_
  refine lv_iload_n hx hb dX8_node_45 rfl (lv_at hl 2 rfl) ?_
  refine lv_iload_n hx hb dX8_node_46 rfl (lv_at hl 3 rfl) ?_
  refine lv_iload hx hb dX8_node_47 (lv_at hl 4 rfl) ?_
  refine aVi (As := [.int 17, .int x2, .int 0, .int 0]) (ci := 5) S (c_X5_add_5 l D cI cZ cJ o u ra ga H.size x2 lo_x2 hi_x2) mi_X5_add kw_6_53 rfl rfl ⟨Nat.le_of_ble_eq_true rfl, Nat.le_of_ble_eq_true rfl⟩ hP hD hK hS hA hB xW_13 rfl rfl hl.1 (Nat.le_of_ble_eq_true rfl) ⟨Nat.le_of_ble_eq_true rfl, Nat.le_of_ble_eq_true rfl⟩ dX8_node_49 (fun H locs hz hP hD hS => ?_)
  exact wEnd S hr hlocks hP hD hS (Nat.le_of_ble_eq_true rfl) (Nat.le_of_ble_eq_true rfl) dX8_node_52 rfl

set_option maxHeartbeats 8000000 in
set_option maxRecDepth 100000 in
theorem c_X8_node_40 (l : Launch) (D : va_G) (cI cZ cJ : ClassId) (o : Nat) (u : Nat → Nat) (hst : l.stackTraces = false) (ra ga : Nat → Nat) (sz : Nat) (x2 : Int32) (x4 : Int32) (lo_x2 : 0 ≤ x2) (hi_x2 : x2 ≤ 9) (ne_x4_0 : ¬ x4 = 0) : vx_Met l yX8_node (uW yX8_node cX8_node 5 (some .int)) ({ frames := 7, cells := 1, slots := 6, locals := 102 }) (va_Pc [.ref o, .int 17, .int x2, .int 0, .int x4] (aS ra ga D (tyL cI cZ cJ) (xW o u cI cZ cJ) sz)) (nQi (va_A (xW o u cI cZ cJ) sz)) (wX "java/lang/IllegalArgumentException" D (xW o u cI cZ cJ) (va_A (xW o u cI cZ cJ) sz)) 1 6 (va_A (xW o u cI cZ cJ) sz) := by
  refine xStart (lv := [(0, .ref o), (1, .int 17), (2, .int x2), (3, .int 0), (4, .int x4)]) (Qc := fun A => nQi A) (XC := fun A => wX "java/lang/IllegalArgumentException" D (xW o u cI cZ cJ) A) (by decide) (Nat.le_of_ble_eq_true rfl) rfl ?_
  intro p e s m args below meth c ls A H S hr hlocks hnm hl hK hP hD hS hA hB hnt
  have hx := S.1
  have hb := S.2.1
  refine lv_aload_n hx hb dX8_node_0 rfl (lv_at hl 0 rfl) ?_
  refine xg (ci := 8) S inX8 rfl hK hP xW_0 1 (by decide) rfl kw_3_21 rfl dX8_node_1 ?_
  refine lv_iload_n hx hb dX8_node_4 rfl (lv_at hl 1 rfl) ?_
  refine lv_iload_n hx hb dX8_node_5 rfl (lv_at hl 2 rfl) ?_
  refine lv_iload_n hx hb dX8_node_6 rfl (lv_at hl 3 rfl) ?_
  refine lv_iload hx hb dX8_node_7 (lv_at hl 4 rfl) ?_
  refine aVi (As := [.int 17, .int x2, .int 0, .int x4]) (ci := 5) S (c_X5_suits_40 l D cI cZ cJ o u ra ga H.size x2 x4 lo_x2 hi_x2 ne_x4_0) mi_X5_suits kw_6_27 rfl rfl ⟨Nat.le_of_ble_eq_true rfl, Nat.le_of_ble_eq_true rfl⟩ hP hD hK hS hA hB xW_13 rfl rfl hl.1 (Nat.le_of_ble_eq_true rfl) ⟨Nat.le_of_ble_eq_true rfl, Nat.le_of_ble_eq_true rfl⟩ dX8_node_9 (fun H locs hz hP hD hS => ?_)
  exact tSv (As := [.int 0]) S (c_X8_needArgument_0 l D cI cZ cJ o u hst ra ga H.size) ms_X8_needArgument kw_4_4 rfl rfl ⟨Nat.le_of_ble_eq_true rfl, Nat.le_of_ble_eq_true rfl⟩ hP hD hK hS hA hB hl.1 (Nat.le_of_ble_eq_true rfl) ⟨Nat.le_of_ble_eq_true rfl, Nat.le_of_ble_eq_true rfl⟩ dX8_node_12 hnt hlocks (Nat.le_of_ble_eq_true rfl) (Nat.le_of_ble_eq_true rfl)

set_option maxHeartbeats 8000000 in
set_option maxRecDepth 100000 in
theorem c_X5_suits_41 (l : Launch) (D : va_G) (cI cZ cJ : ClassId) (o : Nat) (u : Nat → Nat) (ra ga : Nat → Nat) (sz : Nat) (x2 : Int32) (x3 : Int32) (x4 : Int32) (lo_x2 : 0 ≤ x2) (hi_x2 : x2 ≤ 9) (ne_x3_0 : ¬ x3 = 0) : Met l yX5_suits (uW yX5_suits cX5_suits 5 (some .boolean)) ({ frames := 1, cells := 0, slots := 0, locals := 22 }) (va_Pc [.ref (u 12), .int 17, .int x2, .int x3, .int x4] (aS ra ga D (tyL cI cZ cJ) (xW o u cI cZ cJ) sz)) (wQi (0) D (xW o u cI cZ cJ) (va_A (xW o u cI cZ cJ) sz)) 0 0 (va_A (xW o u cI cZ cJ) sz) := by
  refine aStart (lv := [(0, .ref (u 12)), (1, .int 17), (2, .int x2), (3, .int x3), (4, .int x4)]) (Qc := fun A => wQi (0) D (xW o u cI cZ cJ) A) (by decide) (Nat.le_of_ble_eq_true rfl) rfl ?_
  intro p e s m args below meth c ls A H S hr hlocks hnm hl hK hP hD hS hA hB
  have hx := S.1
  have hb := S.2.1
  refine lv_iload_n hx hb dX5_suits_0 rfl (lv_at hl 1 rfl) ?_
  refine lv_if_lt (tgt := 10) hx hb dX5_suits_1 (by decide) (fun c => absurd c (by decide)) (fun _ => ?_)
  refine lv_iload_n hx hb dX5_suits_4 rfl (lv_at hl 1 rfl) ?_
  refine lv_bipush (v := 21) hx hb dX5_suits_5 (by decide) ?_
  refine lv_icmp_le (tgt := 12) hx hb dX5_suits_7 (by decide) (fun _ => ?_) (fun c => absurd c (by decide))
  refine lv_aload_n hx hb dX5_suits_12 rfl (lv_at hl 0 rfl) ?_
  refine xgs S hB.z0 hS kw_3_91 rfl dX5_suits_13 ?_
  refine lv_iload_n hx hb dX5_suits_16 rfl (lv_at hl 1 rfl) ?_
  refine xti (v := 3) S hB.t0 hS (vin rfl) rfl dX5_suits_17 ?_
  refine lv_iload_n hx hb dX5_suits_18 rfl (lv_at hl 2 rfl) ?_
  refine rdV (As := [.int 3, .int x2]) (ci := 5) S (c_X5_fills_19 l D cI cZ cJ o u x2 lo_x2 hi_x2) mi_X5_fills kw_6_31 ⟨rfl, rfl⟩ ⟨Nat.le_of_ble_eq_true rfl, Nat.le_of_ble_eq_true rfl⟩ hP hK xW_13 rfl rfl hl.1 (Nat.le_of_ble_eq_true rfl) ⟨Nat.le_of_ble_eq_true rfl, Nat.le_of_ble_eq_true rfl⟩ dX5_suits_19 ?_
  refine lv_if_eq (tgt := 112) hx hb dX5_suits_22 (by decide) (fun c => absurd c (by decide)) (fun _ => ?_)
  refine lv_aload_n hx hb dX5_suits_25 rfl (lv_at hl 0 rfl) ?_
  refine xgs S hB.z1 hS kw_3_228 rfl dX5_suits_26 ?_
  refine lv_iload_n hx hb dX5_suits_29 rfl (lv_at hl 1 rfl) ?_
  refine xti (v := 0) S hB.t1 hS (vin rfl) rfl dX5_suits_30 ?_
  refine lv_iload_n hx hb dX5_suits_31 rfl (lv_at hl 3 rfl) ?_
  refine rdV (As := [.int 0, .int x3]) (ci := 5) S (c_X5_fills_5 l D cI cZ cJ o u x3 ne_x3_0) mi_X5_fills kw_6_31 ⟨rfl, rfl⟩ ⟨Nat.le_of_ble_eq_true rfl, Nat.le_of_ble_eq_true rfl⟩ hP hK xW_13 rfl rfl hl.1 (Nat.le_of_ble_eq_true rfl) ⟨Nat.le_of_ble_eq_true rfl, Nat.le_of_ble_eq_true rfl⟩ dX5_suits_32 ?_
  refine lv_if_eq (tgt := 112) hx hb dX5_suits_35 (by decide) (fun _ => ?_) (fun c => absurd c (by decide))
  refine lv_iconst (v := 0) hx hb dX5_suits_112 (by decide) ?_
  exact wEndZ S hr hlocks hP hD hS (Nat.le_of_ble_eq_true rfl) (Nat.le_of_ble_eq_true rfl) dX5_suits_113 rfl rfl

set_option maxHeartbeats 8000000 in
set_option maxRecDepth 100000 in
theorem c_X8_node_41 (l : Launch) (D : va_G) (cI cZ cJ : ClassId) (o : Nat) (u : Nat → Nat) (hst : l.stackTraces = false) (ra ga : Nat → Nat) (sz : Nat) (x2 : Int32) (x3 : Int32) (x4 : Int32) (lo_x2 : 0 ≤ x2) (hi_x2 : x2 ≤ 9) (ne_x3_0 : ¬ x3 = 0) : vx_Met l yX8_node (uW yX8_node cX8_node 5 (some .int)) ({ frames := 7, cells := 1, slots := 6, locals := 102 }) (va_Pc [.ref o, .int 17, .int x2, .int x3, .int x4] (aS ra ga D (tyL cI cZ cJ) (xW o u cI cZ cJ) sz)) (nQi (va_A (xW o u cI cZ cJ) sz)) (wX "java/lang/IllegalArgumentException" D (xW o u cI cZ cJ) (va_A (xW o u cI cZ cJ) sz)) 1 6 (va_A (xW o u cI cZ cJ) sz) := by
  refine xStart (lv := [(0, .ref o), (1, .int 17), (2, .int x2), (3, .int x3), (4, .int x4)]) (Qc := fun A => nQi A) (XC := fun A => wX "java/lang/IllegalArgumentException" D (xW o u cI cZ cJ) A) (by decide) (Nat.le_of_ble_eq_true rfl) rfl ?_
  intro p e s m args below meth c ls A H S hr hlocks hnm hl hK hP hD hS hA hB hnt
  have hx := S.1
  have hb := S.2.1
  refine lv_aload_n hx hb dX8_node_0 rfl (lv_at hl 0 rfl) ?_
  refine xg (ci := 8) S inX8 rfl hK hP xW_0 1 (by decide) rfl kw_3_21 rfl dX8_node_1 ?_
  refine lv_iload_n hx hb dX8_node_4 rfl (lv_at hl 1 rfl) ?_
  refine lv_iload_n hx hb dX8_node_5 rfl (lv_at hl 2 rfl) ?_
  refine lv_iload_n hx hb dX8_node_6 rfl (lv_at hl 3 rfl) ?_
  refine lv_iload hx hb dX8_node_7 (lv_at hl 4 rfl) ?_
  refine aVi (As := [.int 17, .int x2, .int x3, .int x4]) (ci := 5) S (c_X5_suits_41 l D cI cZ cJ o u ra ga H.size x2 x3 x4 lo_x2 hi_x2 ne_x3_0) mi_X5_suits kw_6_27 rfl rfl ⟨Nat.le_of_ble_eq_true rfl, Nat.le_of_ble_eq_true rfl⟩ hP hD hK hS hA hB xW_13 rfl rfl hl.1 (Nat.le_of_ble_eq_true rfl) ⟨Nat.le_of_ble_eq_true rfl, Nat.le_of_ble_eq_true rfl⟩ dX8_node_9 (fun H locs hz hP hD hS => ?_)
  exact tSv (As := [.int 0]) S (c_X8_needArgument_0 l D cI cZ cJ o u hst ra ga H.size) ms_X8_needArgument kw_4_4 rfl rfl ⟨Nat.le_of_ble_eq_true rfl, Nat.le_of_ble_eq_true rfl⟩ hP hD hK hS hA hB hl.1 (Nat.le_of_ble_eq_true rfl) ⟨Nat.le_of_ble_eq_true rfl, Nat.le_of_ble_eq_true rfl⟩ dX8_node_12 hnt hlocks (Nat.le_of_ble_eq_true rfl) (Nat.le_of_ble_eq_true rfl)

set_option maxHeartbeats 8000000 in
set_option maxRecDepth 100000 in
theorem c_X5_suits_42 (l : Launch) (D : va_G) (cI cZ cJ : ClassId) (o : Nat) (u : Nat → Nat) (ra ga : Nat → Nat) (sz : Nat) (x2 : Int32) (x3 : Int32) (x4 : Int32) : Met l yX5_suits (uW yX5_suits cX5_suits 5 (some .boolean)) ({ frames := 3, cells := 0, slots := 0, locals := 65 }) (va_Pc [.ref (u 12), .int 18, .int x2, .int x3, .int x4] (aS ra ga D (tyL cI cZ cJ) (xW o u cI cZ cJ) sz)) (wQi (0) D (xW o u cI cZ cJ) (va_A (xW o u cI cZ cJ) sz)) 0 0 (va_A (xW o u cI cZ cJ) sz) := by
  refine aStart (lv := [(0, .ref (u 12)), (1, .int 18), (2, .int x2), (3, .int x3), (4, .int x4)]) (Qc := fun A => wQi (0) D (xW o u cI cZ cJ) A) (by decide) (Nat.le_of_ble_eq_true rfl) rfl ?_
  intro p e s m args below meth c ls A H S hr hlocks hnm hl hK hP hD hS hA hB
  have hx := S.1
  have hb := S.2.1
  refine lv_iload_n hx hb dX5_suits_0 rfl (lv_at hl 1 rfl) ?_
  refine lv_if_lt (tgt := 10) hx hb dX5_suits_1 (by decide) (fun c => absurd c (by decide)) (fun _ => ?_)
  refine lv_iload_n hx hb dX5_suits_4 rfl (lv_at hl 1 rfl) ?_
  refine lv_bipush (v := 21) hx hb dX5_suits_5 (by decide) ?_
  refine lv_icmp_le (tgt := 12) hx hb dX5_suits_7 (by decide) (fun _ => ?_) (fun c => absurd c (by decide))
  refine lv_aload_n hx hb dX5_suits_12 rfl (lv_at hl 0 rfl) ?_
  refine xgs S hB.z0 hS kw_3_91 rfl dX5_suits_13 ?_
  refine lv_iload_n hx hb dX5_suits_16 rfl (lv_at hl 1 rfl) ?_
  refine xti (v := 0) S hB.t0 hS (vin rfl) rfl dX5_suits_17 ?_
  refine lv_iload_n hx hb dX5_suits_18 rfl (lv_at hl 2 rfl) ?_
  by_cases d_19 : x2 = 0
  · have e_x2 : x2 = 0 := d_19
    subst e_x2
    refine rdV (As := [.int 0, .int 0]) (ci := 5) S (c_X5_fills_3 l D cI cZ cJ o u) mi_X5_fills kw_6_31 ⟨rfl, rfl⟩ ⟨Nat.le_of_ble_eq_true rfl, Nat.le_of_ble_eq_true rfl⟩ hP hK xW_13 rfl rfl hl.1 (Nat.le_of_ble_eq_true rfl) ⟨Nat.le_of_ble_eq_true rfl, Nat.le_of_ble_eq_true rfl⟩ dX5_suits_19 ?_
    refine lv_if_eq (tgt := 112) hx hb dX5_suits_22 (by decide) (fun c => absurd c (by decide)) (fun _ => ?_)
    refine lv_aload_n hx hb dX5_suits_25 rfl (lv_at hl 0 rfl) ?_
    refine xgs S hB.z1 hS kw_3_228 rfl dX5_suits_26 ?_
    refine lv_iload_n hx hb dX5_suits_29 rfl (lv_at hl 1 rfl) ?_
    refine xti (v := 4) S hB.t1 hS (vin rfl) rfl dX5_suits_30 ?_
    refine lv_iload_n hx hb dX5_suits_31 rfl (lv_at hl 3 rfl) ?_
    refine rdV (As := [.int 4, .int x3]) (ci := 5) S (c_X5_fills_9 l D cI cZ cJ o u x3) mi_X5_fills kw_6_31 ⟨rfl, rfl⟩ ⟨Nat.le_of_ble_eq_true rfl, Nat.le_of_ble_eq_true rfl⟩ hP hK xW_13 rfl rfl hl.1 (Nat.le_of_ble_eq_true rfl) ⟨Nat.le_of_ble_eq_true rfl, Nat.le_of_ble_eq_true rfl⟩ dX5_suits_32 ?_
    refine lv_if_eq (tgt := 112) hx hb dX5_suits_35 (by decide) (fun _ => ?_) (fun c => absurd c (by decide))
    refine lv_iconst (v := 0) hx hb dX5_suits_112 (by decide) ?_
    exact wEndZ S hr hlocks hP hD hS (Nat.le_of_ble_eq_true rfl) (Nat.le_of_ble_eq_true rfl) dX5_suits_113 rfl rfl
  · have ne_x2_0 : ¬ x2 = 0 := d_19
    refine rdV (As := [.int 0, .int x2]) (ci := 5) S (c_X5_fills_10 l D cI cZ cJ o u x2 ne_x2_0) mi_X5_fills kw_6_31 ⟨rfl, rfl⟩ ⟨Nat.le_of_ble_eq_true rfl, Nat.le_of_ble_eq_true rfl⟩ hP hK xW_13 rfl rfl hl.1 (Nat.le_of_ble_eq_true rfl) ⟨Nat.le_of_ble_eq_true rfl, Nat.le_of_ble_eq_true rfl⟩ dX5_suits_19 ?_
    refine lv_if_eq (tgt := 112) hx hb dX5_suits_22 (by decide) (fun _ => ?_) (fun c => absurd c (by decide))
    refine lv_iconst (v := 0) hx hb dX5_suits_112 (by decide) ?_
    exact wEndZ S hr hlocks hP hD hS (Nat.le_of_ble_eq_true rfl) (Nat.le_of_ble_eq_true rfl) dX5_suits_113 rfl rfl

set_option maxHeartbeats 8000000 in
set_option maxRecDepth 100000 in
theorem c_X5_suits_43 (l : Launch) (D : va_G) (cI cZ cJ : ClassId) (o : Nat) (u : Nat → Nat) (ra ga : Nat → Nat) (sz : Nat) (x2 : Int32) (x3 : Int32) (x4 : Int32) : Met l yX5_suits (uW yX5_suits cX5_suits 5 (some .boolean)) ({ frames := 3, cells := 0, slots := 0, locals := 65 }) (va_Pc [.ref (u 12), .int 19, .int x2, .int x3, .int x4] (aS ra ga D (tyL cI cZ cJ) (xW o u cI cZ cJ) sz)) (wQi (0) D (xW o u cI cZ cJ) (va_A (xW o u cI cZ cJ) sz)) 0 0 (va_A (xW o u cI cZ cJ) sz) := by
  refine aStart (lv := [(0, .ref (u 12)), (1, .int 19), (2, .int x2), (3, .int x3), (4, .int x4)]) (Qc := fun A => wQi (0) D (xW o u cI cZ cJ) A) (by decide) (Nat.le_of_ble_eq_true rfl) rfl ?_
  intro p e s m args below meth c ls A H S hr hlocks hnm hl hK hP hD hS hA hB
  have hx := S.1
  have hb := S.2.1
  refine lv_iload_n hx hb dX5_suits_0 rfl (lv_at hl 1 rfl) ?_
  refine lv_if_lt (tgt := 10) hx hb dX5_suits_1 (by decide) (fun c => absurd c (by decide)) (fun _ => ?_)
  refine lv_iload_n hx hb dX5_suits_4 rfl (lv_at hl 1 rfl) ?_
  refine lv_bipush (v := 21) hx hb dX5_suits_5 (by decide) ?_
  refine lv_icmp_le (tgt := 12) hx hb dX5_suits_7 (by decide) (fun _ => ?_) (fun c => absurd c (by decide))
  refine lv_aload_n hx hb dX5_suits_12 rfl (lv_at hl 0 rfl) ?_
  refine xgs S hB.z0 hS kw_3_91 rfl dX5_suits_13 ?_
  refine lv_iload_n hx hb dX5_suits_16 rfl (lv_at hl 1 rfl) ?_
  refine xti (v := 0) S hB.t0 hS (vin rfl) rfl dX5_suits_17 ?_
  refine lv_iload_n hx hb dX5_suits_18 rfl (lv_at hl 2 rfl) ?_
  by_cases d_19 : x2 = 0
  · have e_x2 : x2 = 0 := d_19
    subst e_x2
    refine rdV (As := [.int 0, .int 0]) (ci := 5) S (c_X5_fills_3 l D cI cZ cJ o u) mi_X5_fills kw_6_31 ⟨rfl, rfl⟩ ⟨Nat.le_of_ble_eq_true rfl, Nat.le_of_ble_eq_true rfl⟩ hP hK xW_13 rfl rfl hl.1 (Nat.le_of_ble_eq_true rfl) ⟨Nat.le_of_ble_eq_true rfl, Nat.le_of_ble_eq_true rfl⟩ dX5_suits_19 ?_
    refine lv_if_eq (tgt := 112) hx hb dX5_suits_22 (by decide) (fun c => absurd c (by decide)) (fun _ => ?_)
    refine lv_aload_n hx hb dX5_suits_25 rfl (lv_at hl 0 rfl) ?_
    refine xgs S hB.z1 hS kw_3_228 rfl dX5_suits_26 ?_
    refine lv_iload_n hx hb dX5_suits_29 rfl (lv_at hl 1 rfl) ?_
    refine xti (v := 4) S hB.t1 hS (vin rfl) rfl dX5_suits_30 ?_
    refine lv_iload_n hx hb dX5_suits_31 rfl (lv_at hl 3 rfl) ?_
    refine rdV (As := [.int 4, .int x3]) (ci := 5) S (c_X5_fills_9 l D cI cZ cJ o u x3) mi_X5_fills kw_6_31 ⟨rfl, rfl⟩ ⟨Nat.le_of_ble_eq_true rfl, Nat.le_of_ble_eq_true rfl⟩ hP hK xW_13 rfl rfl hl.1 (Nat.le_of_ble_eq_true rfl) ⟨Nat.le_of_ble_eq_true rfl, Nat.le_of_ble_eq_true rfl⟩ dX5_suits_32 ?_
    refine lv_if_eq (tgt := 112) hx hb dX5_suits_35 (by decide) (fun _ => ?_) (fun c => absurd c (by decide))
    refine lv_iconst (v := 0) hx hb dX5_suits_112 (by decide) ?_
    exact wEndZ S hr hlocks hP hD hS (Nat.le_of_ble_eq_true rfl) (Nat.le_of_ble_eq_true rfl) dX5_suits_113 rfl rfl
  · have ne_x2_0 : ¬ x2 = 0 := d_19
    refine rdV (As := [.int 0, .int x2]) (ci := 5) S (c_X5_fills_10 l D cI cZ cJ o u x2 ne_x2_0) mi_X5_fills kw_6_31 ⟨rfl, rfl⟩ ⟨Nat.le_of_ble_eq_true rfl, Nat.le_of_ble_eq_true rfl⟩ hP hK xW_13 rfl rfl hl.1 (Nat.le_of_ble_eq_true rfl) ⟨Nat.le_of_ble_eq_true rfl, Nat.le_of_ble_eq_true rfl⟩ dX5_suits_19 ?_
    refine lv_if_eq (tgt := 112) hx hb dX5_suits_22 (by decide) (fun _ => ?_) (fun c => absurd c (by decide))
    refine lv_iconst (v := 0) hx hb dX5_suits_112 (by decide) ?_
    exact wEndZ S hr hlocks hP hD hS (Nat.le_of_ble_eq_true rfl) (Nat.le_of_ble_eq_true rfl) dX5_suits_113 rfl rfl

set_option maxHeartbeats 8000000 in
set_option maxRecDepth 100000 in
theorem c_X5_isPartFor_5 (l : Launch) (D : va_G) (cI cZ cJ : ClassId) (o : Nat) (u : Nat → Nat) (x3 : Int32) : Met l yX5_isPartFor (uW yX5_isPartFor cX5_isPartFor 3 (some .boolean)) ({ frames := 1, cells := 0, slots := 0, locals := 21 }) (va_Pc [.ref (u 12), .int 9, .int x3] (pS D (tyL cI cZ cJ) (xW o u cI cZ cJ))) (QcRead (0)) 0 0 (fun _ => False) := by
  refine rdStart (lv := [(0, .ref (u 12)), (1, .int 9), (2, .int x3)]) (by decide) (Nat.le_of_ble_eq_true rfl) rfl ?_
  intro p e s m args below meth c ls S hr hlocks hl hP hK
  have hx := S.1
  have hb := S.2.1
  refine lv_aload_n hx hb dX5_isPartFor_0 rfl (lv_at hl 0 rfl) ?_
  refine lv_iload_n hx hb dX5_isPartFor_1 rfl (lv_at hl 2 rfl) ?_
  refine rdV (As := [.int x3]) (ci := 5) S (c_X5_has_0 l D cI cZ cJ o u x3) mi_X5_has kw_6_40 ⟨rfl, rfl⟩ ⟨Nat.le_of_ble_eq_true rfl, Nat.le_of_ble_eq_true rfl⟩ hP hK xW_13 rfl rfl hl.1 (Nat.le_of_ble_eq_true rfl) ⟨Nat.le_of_ble_eq_true rfl, Nat.le_of_ble_eq_true rfl⟩ dX5_isPartFor_2 ?_
  refine lv_if_eq (tgt := 16) hx hb dX5_isPartFor_5 (by decide) (fun _ => ?_) (fun c => absurd c (by decide))
  refine lv_iconst (v := 0) hx hb dX5_isPartFor_16 (by decide) ?_
  exact rdEndZ S hr hlocks dX5_isPartFor_17 rfl rfl

set_option maxHeartbeats 8000000 in
set_option maxRecDepth 100000 in
theorem c_X5_fills_20 (l : Launch) (D : va_G) (cI cZ cJ : ClassId) (o : Nat) (u : Nat → Nat) (x3 : Int32) : Met l yX5_fills (uW yX5_fills cX5_fills 3 (some .boolean)) ({ frames := 2, cells := 0, slots := 0, locals := 43 }) (va_Pc [.ref (u 12), .int 9, .int x3] (pS D (tyL cI cZ cJ) (xW o u cI cZ cJ))) (QcRead (0)) 0 0 (fun _ => False) := by
  refine rdStart (lv := [(0, .ref (u 12)), (1, .int 9), (2, .int x3)]) (by decide) (Nat.le_of_ble_eq_true rfl) rfl ?_
  intro p e s m args below meth c ls S hr hlocks hl hP hK
  have hx := S.1
  have hb := S.2.1
  refine lv_iload_n hx hb dX5_fills_0 rfl (lv_at hl 1 rfl) ?_
  refine lv_tableOut (tgt := 119) hx hb dX5_fills_1 (by decide) (by decide) ?_
  refine lv_aload_n hx hb dX5_fills_119 rfl (lv_at hl 0 rfl) ?_
  refine lv_iload_n hx hb dX5_fills_120 rfl (lv_at hl 1 rfl) ?_
  refine lv_iload_n hx hb dX5_fills_121 rfl (lv_at hl 2 rfl) ?_
  refine rdV (As := [.int 9, .int x3]) (ci := 5) S (c_X5_isPartFor_5 l D cI cZ cJ o u x3) mi_X5_isPartFor kw_6_36 ⟨rfl, rfl⟩ ⟨Nat.le_of_ble_eq_true rfl, Nat.le_of_ble_eq_true rfl⟩ hP hK xW_13 rfl rfl hl.1 (Nat.le_of_ble_eq_true rfl) ⟨Nat.le_of_ble_eq_true rfl, Nat.le_of_ble_eq_true rfl⟩ dX5_fills_122 ?_
  exact rdEndZ S hr hlocks dX5_fills_125 rfl rfl

set_option maxHeartbeats 8000000 in
set_option maxRecDepth 100000 in
theorem c_X5_suits_44 (l : Launch) (D : va_G) (cI cZ cJ : ClassId) (o : Nat) (u : Nat → Nat) (ra ga : Nat → Nat) (sz : Nat) (x2 : Int32) (x3 : Int32) (x4 : Int32) : Met l yX5_suits (uW yX5_suits cX5_suits 5 (some .boolean)) ({ frames := 3, cells := 0, slots := 0, locals := 65 }) (va_Pc [.ref (u 12), .int 20, .int x2, .int x3, .int x4] (aS ra ga D (tyL cI cZ cJ) (xW o u cI cZ cJ) sz)) (wQi (0) D (xW o u cI cZ cJ) (va_A (xW o u cI cZ cJ) sz)) 0 0 (va_A (xW o u cI cZ cJ) sz) := by
  refine aStart (lv := [(0, .ref (u 12)), (1, .int 20), (2, .int x2), (3, .int x3), (4, .int x4)]) (Qc := fun A => wQi (0) D (xW o u cI cZ cJ) A) (by decide) (Nat.le_of_ble_eq_true rfl) rfl ?_
  intro p e s m args below meth c ls A H S hr hlocks hnm hl hK hP hD hS hA hB
  have hx := S.1
  have hb := S.2.1
  refine lv_iload_n hx hb dX5_suits_0 rfl (lv_at hl 1 rfl) ?_
  refine lv_if_lt (tgt := 10) hx hb dX5_suits_1 (by decide) (fun c => absurd c (by decide)) (fun _ => ?_)
  refine lv_iload_n hx hb dX5_suits_4 rfl (lv_at hl 1 rfl) ?_
  refine lv_bipush (v := 21) hx hb dX5_suits_5 (by decide) ?_
  refine lv_icmp_le (tgt := 12) hx hb dX5_suits_7 (by decide) (fun _ => ?_) (fun c => absurd c (by decide))
  refine lv_aload_n hx hb dX5_suits_12 rfl (lv_at hl 0 rfl) ?_
  refine xgs S hB.z0 hS kw_3_91 rfl dX5_suits_13 ?_
  refine lv_iload_n hx hb dX5_suits_16 rfl (lv_at hl 1 rfl) ?_
  refine xti (v := 0) S hB.t0 hS (vin rfl) rfl dX5_suits_17 ?_
  refine lv_iload_n hx hb dX5_suits_18 rfl (lv_at hl 2 rfl) ?_
  by_cases d_19 : x2 = 0
  · have e_x2 : x2 = 0 := d_19
    subst e_x2
    refine rdV (As := [.int 0, .int 0]) (ci := 5) S (c_X5_fills_3 l D cI cZ cJ o u) mi_X5_fills kw_6_31 ⟨rfl, rfl⟩ ⟨Nat.le_of_ble_eq_true rfl, Nat.le_of_ble_eq_true rfl⟩ hP hK xW_13 rfl rfl hl.1 (Nat.le_of_ble_eq_true rfl) ⟨Nat.le_of_ble_eq_true rfl, Nat.le_of_ble_eq_true rfl⟩ dX5_suits_19 ?_
    refine lv_if_eq (tgt := 112) hx hb dX5_suits_22 (by decide) (fun c => absurd c (by decide)) (fun _ => ?_)
    refine lv_aload_n hx hb dX5_suits_25 rfl (lv_at hl 0 rfl) ?_
    refine xgs S hB.z1 hS kw_3_228 rfl dX5_suits_26 ?_
    refine lv_iload_n hx hb dX5_suits_29 rfl (lv_at hl 1 rfl) ?_
    refine xti (v := 9) S hB.t1 hS (vin rfl) rfl dX5_suits_30 ?_
    refine lv_iload_n hx hb dX5_suits_31 rfl (lv_at hl 3 rfl) ?_
    refine rdV (As := [.int 9, .int x3]) (ci := 5) S (c_X5_fills_20 l D cI cZ cJ o u x3) mi_X5_fills kw_6_31 ⟨rfl, rfl⟩ ⟨Nat.le_of_ble_eq_true rfl, Nat.le_of_ble_eq_true rfl⟩ hP hK xW_13 rfl rfl hl.1 (Nat.le_of_ble_eq_true rfl) ⟨Nat.le_of_ble_eq_true rfl, Nat.le_of_ble_eq_true rfl⟩ dX5_suits_32 ?_
    refine lv_if_eq (tgt := 112) hx hb dX5_suits_35 (by decide) (fun _ => ?_) (fun c => absurd c (by decide))
    refine lv_iconst (v := 0) hx hb dX5_suits_112 (by decide) ?_
    exact wEndZ S hr hlocks hP hD hS (Nat.le_of_ble_eq_true rfl) (Nat.le_of_ble_eq_true rfl) dX5_suits_113 rfl rfl
  · have ne_x2_0 : ¬ x2 = 0 := d_19
    refine rdV (As := [.int 0, .int x2]) (ci := 5) S (c_X5_fills_10 l D cI cZ cJ o u x2 ne_x2_0) mi_X5_fills kw_6_31 ⟨rfl, rfl⟩ ⟨Nat.le_of_ble_eq_true rfl, Nat.le_of_ble_eq_true rfl⟩ hP hK xW_13 rfl rfl hl.1 (Nat.le_of_ble_eq_true rfl) ⟨Nat.le_of_ble_eq_true rfl, Nat.le_of_ble_eq_true rfl⟩ dX5_suits_19 ?_
    refine lv_if_eq (tgt := 112) hx hb dX5_suits_22 (by decide) (fun _ => ?_) (fun c => absurd c (by decide))
    refine lv_iconst (v := 0) hx hb dX5_suits_112 (by decide) ?_
    exact wEndZ S hr hlocks hP hD hS (Nat.le_of_ble_eq_true rfl) (Nat.le_of_ble_eq_true rfl) dX5_suits_113 rfl rfl

set_option maxHeartbeats 8000000 in
set_option maxRecDepth 100000 in
theorem c_X5_isPartFor_6 (l : Launch) (D : va_G) (cI cZ cJ : ClassId) (o : Nat) (u : Nat → Nat) (x3 : Int32) : Met l yX5_isPartFor (uW yX5_isPartFor cX5_isPartFor 3 (some .boolean)) ({ frames := 1, cells := 0, slots := 0, locals := 21 }) (va_Pc [.ref (u 12), .int 10, .int x3] (pS D (tyL cI cZ cJ) (xW o u cI cZ cJ))) (QcRead (0)) 0 0 (fun _ => False) := by
  refine rdStart (lv := [(0, .ref (u 12)), (1, .int 10), (2, .int x3)]) (by decide) (Nat.le_of_ble_eq_true rfl) rfl ?_
  intro p e s m args below meth c ls S hr hlocks hl hP hK
  have hx := S.1
  have hb := S.2.1
  refine lv_aload_n hx hb dX5_isPartFor_0 rfl (lv_at hl 0 rfl) ?_
  refine lv_iload_n hx hb dX5_isPartFor_1 rfl (lv_at hl 2 rfl) ?_
  refine rdV (As := [.int x3]) (ci := 5) S (c_X5_has_0 l D cI cZ cJ o u x3) mi_X5_has kw_6_40 ⟨rfl, rfl⟩ ⟨Nat.le_of_ble_eq_true rfl, Nat.le_of_ble_eq_true rfl⟩ hP hK xW_13 rfl rfl hl.1 (Nat.le_of_ble_eq_true rfl) ⟨Nat.le_of_ble_eq_true rfl, Nat.le_of_ble_eq_true rfl⟩ dX5_isPartFor_2 ?_
  refine lv_if_eq (tgt := 16) hx hb dX5_isPartFor_5 (by decide) (fun _ => ?_) (fun c => absurd c (by decide))
  refine lv_iconst (v := 0) hx hb dX5_isPartFor_16 (by decide) ?_
  exact rdEndZ S hr hlocks dX5_isPartFor_17 rfl rfl

set_option maxHeartbeats 8000000 in
set_option maxRecDepth 100000 in
theorem c_X5_fills_21 (l : Launch) (D : va_G) (cI cZ cJ : ClassId) (o : Nat) (u : Nat → Nat) (x3 : Int32) : Met l yX5_fills (uW yX5_fills cX5_fills 3 (some .boolean)) ({ frames := 2, cells := 0, slots := 0, locals := 43 }) (va_Pc [.ref (u 12), .int 10, .int x3] (pS D (tyL cI cZ cJ) (xW o u cI cZ cJ))) (QcRead (0)) 0 0 (fun _ => False) := by
  refine rdStart (lv := [(0, .ref (u 12)), (1, .int 10), (2, .int x3)]) (by decide) (Nat.le_of_ble_eq_true rfl) rfl ?_
  intro p e s m args below meth c ls S hr hlocks hl hP hK
  have hx := S.1
  have hb := S.2.1
  refine lv_iload_n hx hb dX5_fills_0 rfl (lv_at hl 1 rfl) ?_
  refine lv_tableOut (tgt := 119) hx hb dX5_fills_1 (by decide) (by decide) ?_
  refine lv_aload_n hx hb dX5_fills_119 rfl (lv_at hl 0 rfl) ?_
  refine lv_iload_n hx hb dX5_fills_120 rfl (lv_at hl 1 rfl) ?_
  refine lv_iload_n hx hb dX5_fills_121 rfl (lv_at hl 2 rfl) ?_
  refine rdV (As := [.int 10, .int x3]) (ci := 5) S (c_X5_isPartFor_6 l D cI cZ cJ o u x3) mi_X5_isPartFor kw_6_36 ⟨rfl, rfl⟩ ⟨Nat.le_of_ble_eq_true rfl, Nat.le_of_ble_eq_true rfl⟩ hP hK xW_13 rfl rfl hl.1 (Nat.le_of_ble_eq_true rfl) ⟨Nat.le_of_ble_eq_true rfl, Nat.le_of_ble_eq_true rfl⟩ dX5_fills_122 ?_
  exact rdEndZ S hr hlocks dX5_fills_125 rfl rfl

set_option maxHeartbeats 8000000 in
set_option maxRecDepth 100000 in
theorem c_X5_suits_45 (l : Launch) (D : va_G) (cI cZ cJ : ClassId) (o : Nat) (u : Nat → Nat) (ra ga : Nat → Nat) (sz : Nat) (x1 : Int32) (x2 : Int32) (x3 : Int32) (x4 : Int32) (ne_x1_0 : ¬ x1 = 0) (ne_x1_1 : ¬ x1 = 1) (ne_x1_2 : ¬ x1 = 2) (ne_x1_3 : ¬ x1 = 3) (ne_x1_4 : ¬ x1 = 4) (ne_x1_5 : ¬ x1 = 5) (ne_x1_6 : ¬ x1 = 6) (ne_x1_7 : ¬ x1 = 7) (ne_x1_8 : ¬ x1 = 8) (ne_x1_9 : ¬ x1 = 9) (ne_x1_10 : ¬ x1 = 10) (ne_x1_11 : ¬ x1 = 11) (ne_x1_12 : ¬ x1 = 12) (ne_x1_13 : ¬ x1 = 13) (ne_x1_14 : ¬ x1 = 14) (ne_x1_15 : ¬ x1 = 15) (ne_x1_16 : ¬ x1 = 16) (ne_x1_17 : ¬ x1 = 17) (ne_x1_18 : ¬ x1 = 18) (ne_x1_19 : ¬ x1 = 19) (ne_x1_20 : ¬ x1 = 20) : Met l yX5_suits (uW yX5_suits cX5_suits 5 (some .boolean)) ({ frames := 3, cells := 0, slots := 0, locals := 65 }) (va_Pc [.ref (u 12), .int x1, .int x2, .int x3, .int x4] (aS ra ga D (tyL cI cZ cJ) (xW o u cI cZ cJ) sz)) (wQi (0) D (xW o u cI cZ cJ) (va_A (xW o u cI cZ cJ) sz)) 0 0 (va_A (xW o u cI cZ cJ) sz) := by
  refine aStart (lv := [(0, .ref (u 12)), (1, .int x1), (2, .int x2), (3, .int x3), (4, .int x4)]) (Qc := fun A => wQi (0) D (xW o u cI cZ cJ) A) (by decide) (Nat.le_of_ble_eq_true rfl) rfl ?_
  intro p e s m args below meth c ls A H S hr hlocks hnm hl hK hP hD hS hA hB
  have hx := S.1
  have hb := S.2.1
  refine lv_iload_n hx hb dX5_suits_0 rfl (lv_at hl 1 rfl) ?_
  refine lv_if_lt (tgt := 10) hx hb dX5_suits_1 (by decide) (fun c_1 => ?_) (fun c_1 => ?_)
  · have hi_x1 : x1 ≤ (-1) := u_lt c_1 (by decide)
    refine lv_iconst (v := 0) hx hb dX5_suits_10 (by decide) ?_
    exact wEndZ S hr hlocks hP hD hS (Nat.le_of_ble_eq_true rfl) (Nat.le_of_ble_eq_true rfl) dX5_suits_11 rfl rfl
  · have lo_x1 : 0 ≤ x1 := l_nlt c_1
    have lo_x1 : 1 ≤ x1 := l_ne ne_x1_0 lo_x1 (by decide)
    have lo_x1 : 2 ≤ x1 := l_ne ne_x1_1 lo_x1 (by decide)
    have lo_x1 : 3 ≤ x1 := l_ne ne_x1_2 lo_x1 (by decide)
    have lo_x1 : 4 ≤ x1 := l_ne ne_x1_3 lo_x1 (by decide)
    have lo_x1 : 5 ≤ x1 := l_ne ne_x1_4 lo_x1 (by decide)
    have lo_x1 : 6 ≤ x1 := l_ne ne_x1_5 lo_x1 (by decide)
    have lo_x1 : 7 ≤ x1 := l_ne ne_x1_6 lo_x1 (by decide)
    have lo_x1 : 8 ≤ x1 := l_ne ne_x1_7 lo_x1 (by decide)
    have lo_x1 : 9 ≤ x1 := l_ne ne_x1_8 lo_x1 (by decide)
    have lo_x1 : 10 ≤ x1 := l_ne ne_x1_9 lo_x1 (by decide)
    have lo_x1 : 11 ≤ x1 := l_ne ne_x1_10 lo_x1 (by decide)
    have lo_x1 : 12 ≤ x1 := l_ne ne_x1_11 lo_x1 (by decide)
    have lo_x1 : 13 ≤ x1 := l_ne ne_x1_12 lo_x1 (by decide)
    have lo_x1 : 14 ≤ x1 := l_ne ne_x1_13 lo_x1 (by decide)
    have lo_x1 : 15 ≤ x1 := l_ne ne_x1_14 lo_x1 (by decide)
    have lo_x1 : 16 ≤ x1 := l_ne ne_x1_15 lo_x1 (by decide)
    have lo_x1 : 17 ≤ x1 := l_ne ne_x1_16 lo_x1 (by decide)
    have lo_x1 : 18 ≤ x1 := l_ne ne_x1_17 lo_x1 (by decide)
    have lo_x1 : 19 ≤ x1 := l_ne ne_x1_18 lo_x1 (by decide)
    have lo_x1 : 20 ≤ x1 := l_ne ne_x1_19 lo_x1 (by decide)
    have lo_x1 : 21 ≤ x1 := l_ne ne_x1_20 lo_x1 (by decide)
    refine lv_iload_n hx hb dX5_suits_4 rfl (lv_at hl 1 rfl) ?_
    refine lv_bipush (v := 21) hx hb dX5_suits_5 (by decide) ?_
    refine lv_icmp_le (tgt := 12) hx hb dX5_suits_7 (by decide) (fun c_7 => ?_) (fun c_7 => ?_)
    · have hi_x1 : x1 ≤ 21 := c_7
      have e_x1 : x1 = 21 := b_eq lo_x1 hi_x1
      subst e_x1
      refine lv_aload_n hx hb dX5_suits_12 rfl (lv_at hl 0 rfl) ?_
      refine xgs S hB.z0 hS kw_3_91 rfl dX5_suits_13 ?_
      refine lv_iload_n hx hb dX5_suits_16 rfl (lv_at hl 1 rfl) ?_
      refine xti (v := 2) S hB.t0 hS (vin rfl) rfl dX5_suits_17 ?_
      refine lv_iload_n hx hb dX5_suits_18 rfl (lv_at hl 2 rfl) ?_
      by_cases d_19 : x2 < 0
      · have hi_x2 : x2 ≤ (-1) := u_lt d_19 (by decide)
        refine aVi (As := [.int 2, .int x2]) (ci := 5) S (c_X5_fills_6 l D cI cZ cJ o u ra ga H.size x2 hi_x2) mi_X5_fills kw_6_31 rfl rfl ⟨Nat.le_of_ble_eq_true rfl, Nat.le_of_ble_eq_true rfl⟩ hP hD hK hS hA hB xW_13 rfl rfl hl.1 (Nat.le_of_ble_eq_true rfl) ⟨Nat.le_of_ble_eq_true rfl, Nat.le_of_ble_eq_true rfl⟩ dX5_suits_19 (fun H locs hz hP hD hS => ?_)
        refine lv_if_eq (tgt := 112) hx hb dX5_suits_22 (by decide) (fun _ => ?_) (fun c => absurd c (by decide))
        refine lv_iconst (v := 0) hx hb dX5_suits_112 (by decide) ?_
        exact wEndZ S hr hlocks hP hD hS (Nat.le_of_ble_eq_true rfl) (Nat.le_of_ble_eq_true rfl) dX5_suits_113 rfl rfl
      · have lo_x2 : 0 ≤ x2 := l_nlt d_19
        by_cases d_19 : 16 ≤ x2
        · have lo_x2 : 16 ≤ x2 := d_19
          refine aVi (As := [.int 2, .int x2]) (ci := 5) S (c_X5_fills_7 l D cI cZ cJ o u ra ga H.size x2 lo_x2) mi_X5_fills kw_6_31 rfl rfl ⟨Nat.le_of_ble_eq_true rfl, Nat.le_of_ble_eq_true rfl⟩ hP hD hK hS hA hB xW_13 rfl rfl hl.1 (Nat.le_of_ble_eq_true rfl) ⟨Nat.le_of_ble_eq_true rfl, Nat.le_of_ble_eq_true rfl⟩ dX5_suits_19 (fun H locs hz hP hD hS => ?_)
          refine lv_if_eq (tgt := 112) hx hb dX5_suits_22 (by decide) (fun _ => ?_) (fun c => absurd c (by decide))
          refine lv_iconst (v := 0) hx hb dX5_suits_112 (by decide) ?_
          exact wEndZ S hr hlocks hP hD hS (Nat.le_of_ble_eq_true rfl) (Nat.le_of_ble_eq_true rfl) dX5_suits_113 rfl rfl
        · have hi_x2 : x2 ≤ 15 := u_nge d_19 (by decide)
          refine aVi (As := [.int 2, .int x2]) (ci := 5) S (c_X5_fills_8 l D cI cZ cJ o u ra ga H.size x2 lo_x2 hi_x2) mi_X5_fills kw_6_31 rfl rfl ⟨Nat.le_of_ble_eq_true rfl, Nat.le_of_ble_eq_true rfl⟩ hP hD hK hS hA hB xW_13 rfl rfl hl.1 (Nat.le_of_ble_eq_true rfl) ⟨Nat.le_of_ble_eq_true rfl, Nat.le_of_ble_eq_true rfl⟩ dX5_suits_19 (fun H locs hz hP hD hS => ?_)
          refine lv_if_eq (tgt := 112) hx hb dX5_suits_22 (by decide) (fun c => absurd c (by decide)) (fun _ => ?_)
          refine lv_aload_n hx hb dX5_suits_25 rfl (lv_at hl 0 rfl) ?_
          refine xgs S hB.z1 hS kw_3_228 rfl dX5_suits_26 ?_
          refine lv_iload_n hx hb dX5_suits_29 rfl (lv_at hl 1 rfl) ?_
          refine xti (v := 10) S hB.t1 hS (vin rfl) rfl dX5_suits_30 ?_
          refine lv_iload_n hx hb dX5_suits_31 rfl (lv_at hl 3 rfl) ?_
          refine rdV (As := [.int 10, .int x3]) (ci := 5) S (c_X5_fills_21 l D cI cZ cJ o u x3) mi_X5_fills kw_6_31 ⟨rfl, rfl⟩ ⟨Nat.le_of_ble_eq_true rfl, Nat.le_of_ble_eq_true rfl⟩ hP hK xW_13 rfl rfl hl.1 (Nat.le_of_ble_eq_true rfl) ⟨Nat.le_of_ble_eq_true rfl, Nat.le_of_ble_eq_true rfl⟩ dX5_suits_32 ?_
          refine lv_if_eq (tgt := 112) hx hb dX5_suits_35 (by decide) (fun _ => ?_) (fun c => absurd c (by decide))
          refine lv_iconst (v := 0) hx hb dX5_suits_112 (by decide) ?_
          exact wEndZ S hr hlocks hP hD hS (Nat.le_of_ble_eq_true rfl) (Nat.le_of_ble_eq_true rfl) dX5_suits_113 rfl rfl
    · have lo_x1 : 22 ≤ x1 := l_nle c_7 (by decide)
      refine lv_iconst (v := 0) hx hb dX5_suits_10 (by decide) ?_
      exact wEndZ S hr hlocks hP hD hS (Nat.le_of_ble_eq_true rfl) (Nat.le_of_ble_eq_true rfl) dX5_suits_11 rfl rfl

set_option maxHeartbeats 8000000 in
set_option maxRecDepth 100000 in
theorem c_X8_node_42 (l : Launch) (D : va_G) (cI cZ cJ : ClassId) (o : Nat) (u : Nat → Nat) (hst : l.stackTraces = false) (ra ga : Nat → Nat) (sz : Nat) (x1 : Int32) (x2 : Int32) (x3 : Int32) (x4 : Int32) (ne_x1_0 : ¬ x1 = 0) (ne_x1_1 : ¬ x1 = 1) (ne_x1_2 : ¬ x1 = 2) (ne_x1_3 : ¬ x1 = 3) (ne_x1_4 : ¬ x1 = 4) (ne_x1_5 : ¬ x1 = 5) (ne_x1_6 : ¬ x1 = 6) (ne_x1_7 : ¬ x1 = 7) (ne_x1_8 : ¬ x1 = 8) (ne_x1_9 : ¬ x1 = 9) (ne_x1_10 : ¬ x1 = 10) (ne_x1_11 : ¬ x1 = 11) (ne_x1_12 : ¬ x1 = 12) (ne_x1_13 : ¬ x1 = 13) (ne_x1_14 : ¬ x1 = 14) (ne_x1_15 : ¬ x1 = 15) (ne_x1_16 : ¬ x1 = 16) (ne_x1_17 : ¬ x1 = 17) : vx_Met l yX8_node (uW yX8_node cX8_node 5 (some .int)) ({ frames := 7, cells := 1, slots := 6, locals := 102 }) (va_Pc [.ref o, .int x1, .int x2, .int x3, .int x4] (aS ra ga D (tyL cI cZ cJ) (xW o u cI cZ cJ) sz)) (nQi (va_A (xW o u cI cZ cJ) sz)) (wX "java/lang/IllegalArgumentException" D (xW o u cI cZ cJ) (va_A (xW o u cI cZ cJ) sz)) 1 6 (va_A (xW o u cI cZ cJ) sz) := by
  refine xStart (lv := [(0, .ref o), (1, .int x1), (2, .int x2), (3, .int x3), (4, .int x4)]) (Qc := fun A => nQi A) (XC := fun A => wX "java/lang/IllegalArgumentException" D (xW o u cI cZ cJ) A) (by decide) (Nat.le_of_ble_eq_true rfl) rfl ?_
  intro p e s m args below meth c ls A H S hr hlocks hnm hl hK hP hD hS hA hB hnt
  have hx := S.1
  have hb := S.2.1
  refine lv_aload_n hx hb dX8_node_0 rfl (lv_at hl 0 rfl) ?_
  refine xg (ci := 8) S inX8 rfl hK hP xW_0 1 (by decide) rfl kw_3_21 rfl dX8_node_1 ?_
  refine lv_iload_n hx hb dX8_node_4 rfl (lv_at hl 1 rfl) ?_
  refine lv_iload_n hx hb dX8_node_5 rfl (lv_at hl 2 rfl) ?_
  refine lv_iload_n hx hb dX8_node_6 rfl (lv_at hl 3 rfl) ?_
  refine lv_iload hx hb dX8_node_7 (lv_at hl 4 rfl) ?_
  by_cases d_9 : x1 = 18
  · have e_x1 : x1 = 18 := d_9
    subst e_x1
    refine aVi (As := [.int 18, .int x2, .int x3, .int x4]) (ci := 5) S (c_X5_suits_42 l D cI cZ cJ o u ra ga H.size x2 x3 x4) mi_X5_suits kw_6_27 rfl rfl ⟨Nat.le_of_ble_eq_true rfl, Nat.le_of_ble_eq_true rfl⟩ hP hD hK hS hA hB xW_13 rfl rfl hl.1 (Nat.le_of_ble_eq_true rfl) ⟨Nat.le_of_ble_eq_true rfl, Nat.le_of_ble_eq_true rfl⟩ dX8_node_9 (fun H locs hz hP hD hS => ?_)
    exact tSv (As := [.int 0]) S (c_X8_needArgument_0 l D cI cZ cJ o u hst ra ga H.size) ms_X8_needArgument kw_4_4 rfl rfl ⟨Nat.le_of_ble_eq_true rfl, Nat.le_of_ble_eq_true rfl⟩ hP hD hK hS hA hB hl.1 (Nat.le_of_ble_eq_true rfl) ⟨Nat.le_of_ble_eq_true rfl, Nat.le_of_ble_eq_true rfl⟩ dX8_node_12 hnt hlocks (Nat.le_of_ble_eq_true rfl) (Nat.le_of_ble_eq_true rfl)
  · have ne_x1_18 : ¬ x1 = 18 := d_9
    by_cases d_9 : x1 = 19
    · have e_x1 : x1 = 19 := d_9
      subst e_x1
      refine aVi (As := [.int 19, .int x2, .int x3, .int x4]) (ci := 5) S (c_X5_suits_43 l D cI cZ cJ o u ra ga H.size x2 x3 x4) mi_X5_suits kw_6_27 rfl rfl ⟨Nat.le_of_ble_eq_true rfl, Nat.le_of_ble_eq_true rfl⟩ hP hD hK hS hA hB xW_13 rfl rfl hl.1 (Nat.le_of_ble_eq_true rfl) ⟨Nat.le_of_ble_eq_true rfl, Nat.le_of_ble_eq_true rfl⟩ dX8_node_9 (fun H locs hz hP hD hS => ?_)
      exact tSv (As := [.int 0]) S (c_X8_needArgument_0 l D cI cZ cJ o u hst ra ga H.size) ms_X8_needArgument kw_4_4 rfl rfl ⟨Nat.le_of_ble_eq_true rfl, Nat.le_of_ble_eq_true rfl⟩ hP hD hK hS hA hB hl.1 (Nat.le_of_ble_eq_true rfl) ⟨Nat.le_of_ble_eq_true rfl, Nat.le_of_ble_eq_true rfl⟩ dX8_node_12 hnt hlocks (Nat.le_of_ble_eq_true rfl) (Nat.le_of_ble_eq_true rfl)
    · have ne_x1_19 : ¬ x1 = 19 := d_9
      by_cases d_9 : x1 = 20
      · have e_x1 : x1 = 20 := d_9
        subst e_x1
        refine aVi (As := [.int 20, .int x2, .int x3, .int x4]) (ci := 5) S (c_X5_suits_44 l D cI cZ cJ o u ra ga H.size x2 x3 x4) mi_X5_suits kw_6_27 rfl rfl ⟨Nat.le_of_ble_eq_true rfl, Nat.le_of_ble_eq_true rfl⟩ hP hD hK hS hA hB xW_13 rfl rfl hl.1 (Nat.le_of_ble_eq_true rfl) ⟨Nat.le_of_ble_eq_true rfl, Nat.le_of_ble_eq_true rfl⟩ dX8_node_9 (fun H locs hz hP hD hS => ?_)
        exact tSv (As := [.int 0]) S (c_X8_needArgument_0 l D cI cZ cJ o u hst ra ga H.size) ms_X8_needArgument kw_4_4 rfl rfl ⟨Nat.le_of_ble_eq_true rfl, Nat.le_of_ble_eq_true rfl⟩ hP hD hK hS hA hB hl.1 (Nat.le_of_ble_eq_true rfl) ⟨Nat.le_of_ble_eq_true rfl, Nat.le_of_ble_eq_true rfl⟩ dX8_node_12 hnt hlocks (Nat.le_of_ble_eq_true rfl) (Nat.le_of_ble_eq_true rfl)
      · have ne_x1_20 : ¬ x1 = 20 := d_9
        refine aVi (As := [.int x1, .int x2, .int x3, .int x4]) (ci := 5) S (c_X5_suits_45 l D cI cZ cJ o u ra ga H.size x1 x2 x3 x4 ne_x1_0 ne_x1_1 ne_x1_2 ne_x1_3 ne_x1_4 ne_x1_5 ne_x1_6 ne_x1_7 ne_x1_8 ne_x1_9 ne_x1_10 ne_x1_11 ne_x1_12 ne_x1_13 ne_x1_14 ne_x1_15 ne_x1_16 ne_x1_17 ne_x1_18 ne_x1_19 ne_x1_20) mi_X5_suits kw_6_27 rfl rfl ⟨Nat.le_of_ble_eq_true rfl, Nat.le_of_ble_eq_true rfl⟩ hP hD hK hS hA hB xW_13 rfl rfl hl.1 (Nat.le_of_ble_eq_true rfl) ⟨Nat.le_of_ble_eq_true rfl, Nat.le_of_ble_eq_true rfl⟩ dX8_node_9 (fun H locs hz hP hD hS => ?_)
        exact tSv (As := [.int 0]) S (c_X8_needArgument_0 l D cI cZ cJ o u hst ra ga H.size) ms_X8_needArgument kw_4_4 rfl rfl ⟨Nat.le_of_ble_eq_true rfl, Nat.le_of_ble_eq_true rfl⟩ hP hD hK hS hA hB hl.1 (Nat.le_of_ble_eq_true rfl) ⟨Nat.le_of_ble_eq_true rfl, Nat.le_of_ble_eq_true rfl⟩ dX8_node_12 hnt hlocks (Nat.le_of_ble_eq_true rfl) (Nat.le_of_ble_eq_true rfl)

set_option maxHeartbeats 8000000 in
set_option maxRecDepth 100000 in
theorem h_node_0 (l : Launch) (D : va_G) (cI cZ cJ : ClassId) (o : Nat) (u : Nat → Nat) (ao : Nat) (hst : l.stackTraces = false) (ra ga : Nat → Nat) (sz : Nat) (x2 : Int32) (x3 : Int32) (x4 : Int32) (hi_x2 : x2 ≤ (-1000)) : vx_Met l yL_node (uWh yL_node cL_node 7 (some .int) [(0, 14, 17, 15), (0, 14, 21, 17)]) ({ frames := 8, cells := 1, slots := 6, locals := 126 }) (va_Pc [.ref o, .int 0, .int x2, .int x3, .int x4, .ref ao] (lS ra ga D (tyL cI cZ cJ) ((xW o u cI cZ cJ) ++ [(ao, .inl (cJ, 1, .inr (.inl (fun _ => 0))))]) sz)) (wQi (1) D ((xW o u cI cZ cJ) ++ [(ao, .inl (cJ, 1, .inr (.inl (fun _ => 0))))]) (va_A ((xW o u cI cZ cJ) ++ [(ao, .inl (cJ, 1, .inr (.inl (fun _ => 0))))]) sz)) (xN (va_A ((xW o u cI cZ cJ) ++ [(ao, .inl (cJ, 1, .inr (.inl (fun _ => 0))))]) sz)) 1 6 (va_A ((xW o u cI cZ cJ) ++ [(ao, .inl (cJ, 1, .inr (.inl (fun _ => 0))))]) sz) := by
  refine hStart (l := l) (y := yL_node) (b := cL_node) (n := 7) (r := (some .int)) (hh := [(0, 14, 17, 15), (0, 14, 21, 17)]) (rm := ({ frames := 8, cells := 1, slots := 6, locals := 126 })) (mc := 1) (ms := 6) (ra := ra) (ga := ga) (D := D) (tys := tyL cI cZ cJ) (ws := ((xW o u cI cZ cJ) ++ [(ao, .inl (cJ, 1, .inr (.inl (fun _ => 0))))])) (av := [.ref o, .int 0, .int x2, .int x3, .int x4, .ref ao]) (sz := sz) (lv := [(0, .ref o), (1, .int 0), (2, .int x2), (3, .int x3), (4, .int x4), (5, .ref ao)]) (Qc := fun A => wQi (1) D ((xW o u cI cZ cJ) ++ [(ao, .inl (cJ, 1, .inr (.inl (fun _ => 0))))]) A) (by decide) (Nat.le_of_ble_eq_true rfl) rfl ?_
  intro p e s m args below meth c ls A H S hr hlocks htab hl hK hP hD hS hA hB hC
  have hx := S.1
  have hb := S.2.1
  refine lv_aload hx hb dL_node_0 (lv_at hl 5 rfl) ?_
  refine lv_iconst (v := 0) hx hb dL_node_2 (by decide) ?_
  refine lv_aload_n hx hb dL_node_3 rfl (lv_at hl 0 rfl) ?_
  refine lv_iload_n hx hb dL_node_4 rfl (lv_at hl 1 rfl) ?_
  refine lv_iload_n hx hb dL_node_5 rfl (lv_at hl 2 rfl) ?_
  refine lv_iload_n hx hb dL_node_6 rfl (lv_at hl 3 rfl) ?_
  refine lv_iload hx hb dL_node_7 (lv_at hl 4 rfl) ?_
  refine cVi [] [(ao, .inl (cJ, 1, .inr (.inl (fun _ => 0))))] (As := [.int 0, .int x2, .int x3, .int x4]) (ci := 8) S (c_X8_node_0 l D cI cZ cJ o u hst ra ga H.size x2 x3 x4 hi_x2) mi_X8_node kw_6_23 rfl rfl ⟨Nat.le_of_ble_eq_true rfl, Nat.le_of_ble_eq_true rfl⟩ hP hD hK hS hA hB xW_0 rfl rfl hl.1 (Nat.le_of_ble_eq_true rfl) ⟨Nat.le_of_ble_eq_true rfl, Nat.le_of_ble_eq_true rfl⟩ dL_node_9 (fun ce q9 H locs hz hP hD hS hce hcv hcl => ?_)
  refine vx_catch (name := "java/lang/IllegalArgumentException") S.2.2.2.1 [] (⟨0, 14, 17, 15⟩ : ExceptionTableEntry) [(⟨0, 14, 21, 17⟩ : ExceptionTableEntry)] (htab.trans rfl) (fun _ h => absurd h List.not_mem_nil) (by decide) (by decide) (S.2.2.2.2 _ kw_5_177) (va_Nw.use rfl hB.c1) hce hcv hcl ?_
  have hP : va_P D vwCl ((xW o u cI cZ cJ) ++ [(ao, .inl (cJ, 1, .inr (.inl (fun _ => 0))))]) H := hP
  have hD : va_D A ((xW o u cI cZ cJ) ++ [(ao, .inl (cJ, 1, .inr (.inl (fun _ => 0))))]) := hD
  refine lv_astore (lv' := [(6, .ref q9), (0, .ref o), (1, .int 0), (2, .int x2), (3, .int x3), (4, .int x4), (5, .ref ao)]) hx hb dL_node_17 hl (by decide) rfl (fun ls hl => ?_)
  refine lv_iconst (v := 1) hx hb dL_node_19 (by decide) ?_
  exact vx_ret (wEnd S hr hlocks hP hD hS (Nat.le_of_ble_eq_true rfl) (Nat.le_of_ble_eq_true rfl) dL_node_20 rfl)

set_option maxHeartbeats 8000000 in
set_option maxRecDepth 100000 in
theorem c_X9_isIn_34 (l : Launch) (D : va_G) (cI cZ cJ : ClassId) (o : Nat) (q : Nat → Nat) : Met l yX9_isIn (uW yX9_isIn cX9_isIn 3 (some .boolean)) ({ frames := 0, cells := 0, slots := 0, locals := 0 }) (va_Pc [.int 0, .int 0, .int 21] (pS D (tyL cI cZ cJ) (mW o 0 q cI cZ))) (QcRead (1)) 0 0 (fun _ => False) := by
  refine rdStart (lv := [(0, .int 0), (1, .int 0), (2, .int 21)]) (by decide) (Nat.le_of_ble_eq_true rfl) rfl ?_
  intro p e s m args below meth c ls S hr hlocks hl hP hK
  have hx := S.1
  have hb := S.2.1
  refine lv_iload_n hx hb dX9_isIn_0 rfl (lv_at hl 0 rfl) ?_
  refine lv_iload_n hx hb dX9_isIn_1 rfl (lv_at hl 1 rfl) ?_
  refine lv_icmp_lt (tgt := 14) hx hb dX9_isIn_2 (by decide) (fun c => absurd c (by decide)) (fun _ => ?_)
  refine lv_iload_n hx hb dX9_isIn_5 rfl (lv_at hl 0 rfl) ?_
  refine lv_iload_n hx hb dX9_isIn_6 rfl (lv_at hl 2 rfl) ?_
  refine lv_icmp_gt (tgt := 14) hx hb dX9_isIn_7 (by decide) (fun c => absurd c (by decide)) (fun _ => ?_)
  refine lv_iconst (v := 1) hx hb dX9_isIn_10 (by decide) ?_
  refine lv_goto (tgt := 15) hx hb dX9_isIn_11 (by decide) ?_
  exact rdEndZ S hr hlocks dX9_isIn_15 rfl rfl

set_option maxHeartbeats 8000000 in
set_option maxRecDepth 100000 in
theorem c_X9_isIn_35 (l : Launch) (D : va_G) (cI cZ cJ : ClassId) (o : Nat) (q : Nat → Nat) (x2 : Int32) (hi_x2 : x2 ≤ (-1000)) : Met l yX9_isIn (uW yX9_isIn cX9_isIn 3 (some .boolean)) ({ frames := 0, cells := 0, slots := 0, locals := 0 }) (va_Pc [.int x2, .int (-999), .int 999] (pS D (tyL cI cZ cJ) (mW o 0 q cI cZ))) (QcRead (0)) 0 0 (fun _ => False) := by
  refine rdStart (lv := [(0, .int x2), (1, .int (-999)), (2, .int 999)]) (by decide) (Nat.le_of_ble_eq_true rfl) rfl ?_
  intro p e s m args below meth c ls S hr hlocks hl hP hK
  have hx := S.1
  have hb := S.2.1
  refine lv_iload_n hx hb dX9_isIn_0 rfl (lv_at hl 0 rfl) ?_
  refine lv_iload_n hx hb dX9_isIn_1 rfl (lv_at hl 1 rfl) ?_
  refine lv_icmp_lt (tgt := 14) hx hb dX9_isIn_2 (by decide) (fun _ => ?_) (fun c => absurd (b_lt hi_x2 (by decide)) c)
  refine lv_iconst (v := 0) hx hb dX9_isIn_14 (by decide) ?_
  exact rdEndZ S hr hlocks dX9_isIn_15 rfl rfl

set_option maxHeartbeats 8000000 in
set_option maxRecDepth 100000 in
theorem c_X9_canBe_0 (l : Launch) (D : va_G) (cI cZ cJ : ClassId) (o : Nat) (q : Nat → Nat) (x2 : Int32) (x3 : Int32) (x4 : Int32) (hi_x2 : x2 ≤ (-1000)) : Met l yX9_canBe (uW yX9_canBe cX9_canBe 5 (some .boolean)) ({ frames := 1, cells := 0, slots := 0, locals := 22 }) (va_Pc [.ref o, .int 0, .int x2, .int x3, .int x4] (pS D (tyL cI cZ cJ) (mW o 0 q cI cZ))) (QcRead (0)) 0 0 (fun _ => False) := by
  refine rdStart (lv := [(0, .ref o), (1, .int 0), (2, .int x2), (3, .int x3), (4, .int x4)]) (by decide) (Nat.le_of_ble_eq_true rfl) rfl ?_
  intro p e s m args below meth c ls S hr hlocks hl hP hK
  have hx := S.1
  have hb := S.2.1
  refine lv_iload_n hx hb dX9_canBe_0 rfl (lv_at hl 1 rfl) ?_
  refine lv_tableIn (off := 103) (tgt := 104) hx hb dX9_canBe_1 (by decide) (by decide) (by decide) (by decide) ?_
  refine lv_iload_n hx hb dX9_canBe_104 rfl (lv_at hl 2 rfl) ?_
  refine lv_sipush (v := (-999)) hx hb dX9_canBe_105 (by decide) ?_
  refine lv_sipush (v := 999) hx hb dX9_canBe_108 (by decide) ?_
  refine rdS (As := [.int x2, .int (-999), .int 999]) S (c_X9_isIn_35 l D cI cZ cJ o q x2 hi_x2) ms_X9_isIn kw_7_101 ⟨rfl, rfl⟩ ⟨Nat.le_of_ble_eq_true rfl, Nat.le_of_ble_eq_true rfl⟩ hP hK hl.1 (Nat.le_of_ble_eq_true rfl) ⟨Nat.le_of_ble_eq_true rfl, Nat.le_of_ble_eq_true rfl⟩ dX9_canBe_111 ?_
  refine lv_if_eq (tgt := 130) hx hb dX9_canBe_114 (by decide) (fun _ => ?_) (fun c => absurd c (by decide))
  refine lv_iconst (v := 0) hx hb dX9_canBe_130 (by decide) ?_
  exact rdEndZ S hr hlocks dX9_canBe_131 rfl rfl

set_option maxHeartbeats 8000000 in
set_option maxRecDepth 100000 in
theorem c_X9_node_0 (l : Launch) (D : va_G) (cI cZ cJ : ClassId) (o : Nat) (q : Nat → Nat) (sz : Nat) (x2 : Int32) (x3 : Int32) (x4 : Int32) (hi_x2 : x2 ≤ (-1000)) : Met l yX9_node (uW yX9_node cX9_node 6 (some .int)) ({ frames := 2, cells := 0, slots := 0, locals := 46 }) (va_Pc [.ref o, .int 0, .int x2, .int x3, .int x4] (wS D (tyL cI cZ cJ) (mW o 0 q cI cZ) sz)) (wQi (0) D (mW o 1 q cI cZ) (va_A (mW o 0 q cI cZ) sz)) 0 0 (va_A (mW o 0 q cI cZ) sz) := by
  refine wStart (lv := [(0, .ref o), (1, .int 0), (2, .int x2), (3, .int x3), (4, .int x4)]) (Qc := fun A => wQi (0) D (mW o 1 q cI cZ) A) (by decide) (Nat.le_of_ble_eq_true rfl) rfl ?_
  intro p e s m args below meth c ls A H S hr hlocks hnm hl hK hP hD hS hA
  have hx := S.1
  have hb := S.2.1
  refine lv_aload_n hx hb dX9_node_0 rfl (lv_at hl 0 rfl) ?_
  refine lv_iconst (v := 0) hx hb dX9_node_1 (by decide) ?_
  refine xp (ci := 9) (v := .int 0) S inX9 tyX9 tyX9_ok nmX9 rfl hK hP hD hS mW_0 0 (by decide) kw_6_148 rfl rfl rfl rfl (Nat.le_of_ble_eq_true rfl) dX9_node_2 (fun H locs hP hD hS => ?_)
  have hP : va_P D vwCl (mW o 0 q cI cZ) H := hP
  have hD : va_D A (mW o 0 q cI cZ) := hD
  refine lv_iload_n hx hb dX9_node_5 rfl (lv_at hl 1 rfl) ?_
  refine lv_iconst (v := 0) hx hb dX9_node_6 (by decide) ?_
  refine lv_bipush (v := 21) hx hb dX9_node_7 (by decide) ?_
  refine rdS (As := [.int 0, .int 0, .int 21]) S (c_X9_isIn_34 l D cI cZ cJ o q) ms_X9_isIn kw_7_101 ⟨rfl, rfl⟩ ⟨Nat.le_of_ble_eq_true rfl, Nat.le_of_ble_eq_true rfl⟩ hP hK hl.1 (Nat.le_of_ble_eq_true rfl) ⟨Nat.le_of_ble_eq_true rfl, Nat.le_of_ble_eq_true rfl⟩ dX9_node_9 ?_
  refine lv_if_eq (tgt := 27) hx hb dX9_node_12 (by decide) (fun c => absurd c (by decide)) (fun _ => ?_)
  refine lv_aload_n hx hb dX9_node_15 rfl (lv_at hl 0 rfl) ?_
  refine lv_iload_n hx hb dX9_node_16 rfl (lv_at hl 1 rfl) ?_
  refine lv_iload_n hx hb dX9_node_17 rfl (lv_at hl 2 rfl) ?_
  refine lv_iload_n hx hb dX9_node_18 rfl (lv_at hl 3 rfl) ?_
  refine lv_iload hx hb dX9_node_19 (lv_at hl 4 rfl) ?_
  refine rdV (As := [.int 0, .int x2, .int x3, .int x4]) (ci := 9) S (c_X9_canBe_0 l D cI cZ cJ o q x2 x3 x4 hi_x2) mi_X9_canBe kw_7_155 ⟨rfl, rfl⟩ ⟨Nat.le_of_ble_eq_true rfl, Nat.le_of_ble_eq_true rfl⟩ hP hK mW_0 rfl rfl hl.1 (Nat.le_of_ble_eq_true rfl) ⟨Nat.le_of_ble_eq_true rfl, Nat.le_of_ble_eq_true rfl⟩ dX9_node_21 ?_
  refine lv_if_ne (tgt := 33) hx hb dX9_node_24 (by decide) (fun c => absurd c (by decide)) (fun _ => ?_)
  refine lv_aload_n hx hb dX9_node_27 rfl (lv_at hl 0 rfl) ?_
  refine lv_iconst (v := 1) hx hb dX9_node_28 (by decide) ?_
  refine wrV (As := [.int 1]) (ci := 9) S (c_X9_no_0 l D cI cZ cJ o q H.size) mi_X9_no kw_7_104 rfl rfl ⟨Nat.le_of_ble_eq_true rfl, Nat.le_of_ble_eq_true rfl⟩ hP hD hK hS hA mW_0 rfl rfl hl.1 (Nat.le_of_ble_eq_true rfl) ⟨Nat.le_of_ble_eq_true rfl, Nat.le_of_ble_eq_true rfl⟩ dX9_node_29 (fun H locs hz hP hD hS => ?_)
  exact wEnd S hr hlocks hP hD hS (Nat.le_of_ble_eq_true rfl) (Nat.le_of_ble_eq_true rfl) dX9_node_32 rfl

set_option maxHeartbeats 8000000 in
set_option maxRecDepth 100000 in
theorem h_node_1 (l : Launch) (D : va_G) (cI cZ cJ : ClassId) (o : Nat) (u : Nat → Nat) (ao : Nat) (hst : l.stackTraces = false) (ra ga : Nat → Nat) (sz : Nat) (x2 : Int32) (x3 : Int32) (x4 : Int32) (lo_x2 : 1000 ≤ x2) : vx_Met l yL_node (uWh yL_node cL_node 7 (some .int) [(0, 14, 17, 15), (0, 14, 21, 17)]) ({ frames := 8, cells := 1, slots := 6, locals := 126 }) (va_Pc [.ref o, .int 0, .int x2, .int x3, .int x4, .ref ao] (lS ra ga D (tyL cI cZ cJ) ((xW o u cI cZ cJ) ++ [(ao, .inl (cJ, 1, .inr (.inl (fun _ => 0))))]) sz)) (wQi (1) D ((xW o u cI cZ cJ) ++ [(ao, .inl (cJ, 1, .inr (.inl (fun _ => 0))))]) (va_A ((xW o u cI cZ cJ) ++ [(ao, .inl (cJ, 1, .inr (.inl (fun _ => 0))))]) sz)) (xN (va_A ((xW o u cI cZ cJ) ++ [(ao, .inl (cJ, 1, .inr (.inl (fun _ => 0))))]) sz)) 1 6 (va_A ((xW o u cI cZ cJ) ++ [(ao, .inl (cJ, 1, .inr (.inl (fun _ => 0))))]) sz) := by
  refine hStart (l := l) (y := yL_node) (b := cL_node) (n := 7) (r := (some .int)) (hh := [(0, 14, 17, 15), (0, 14, 21, 17)]) (rm := ({ frames := 8, cells := 1, slots := 6, locals := 126 })) (mc := 1) (ms := 6) (ra := ra) (ga := ga) (D := D) (tys := tyL cI cZ cJ) (ws := ((xW o u cI cZ cJ) ++ [(ao, .inl (cJ, 1, .inr (.inl (fun _ => 0))))])) (av := [.ref o, .int 0, .int x2, .int x3, .int x4, .ref ao]) (sz := sz) (lv := [(0, .ref o), (1, .int 0), (2, .int x2), (3, .int x3), (4, .int x4), (5, .ref ao)]) (Qc := fun A => wQi (1) D ((xW o u cI cZ cJ) ++ [(ao, .inl (cJ, 1, .inr (.inl (fun _ => 0))))]) A) (by decide) (Nat.le_of_ble_eq_true rfl) rfl ?_
  intro p e s m args below meth c ls A H S hr hlocks htab hl hK hP hD hS hA hB hC
  have hx := S.1
  have hb := S.2.1
  refine lv_aload hx hb dL_node_0 (lv_at hl 5 rfl) ?_
  refine lv_iconst (v := 0) hx hb dL_node_2 (by decide) ?_
  refine lv_aload_n hx hb dL_node_3 rfl (lv_at hl 0 rfl) ?_
  refine lv_iload_n hx hb dL_node_4 rfl (lv_at hl 1 rfl) ?_
  refine lv_iload_n hx hb dL_node_5 rfl (lv_at hl 2 rfl) ?_
  refine lv_iload_n hx hb dL_node_6 rfl (lv_at hl 3 rfl) ?_
  refine lv_iload hx hb dL_node_7 (lv_at hl 4 rfl) ?_
  refine cVi [] [(ao, .inl (cJ, 1, .inr (.inl (fun _ => 0))))] (As := [.int 0, .int x2, .int x3, .int x4]) (ci := 8) S (c_X8_node_1 l D cI cZ cJ o u hst ra ga H.size x2 x3 x4 lo_x2) mi_X8_node kw_6_23 rfl rfl ⟨Nat.le_of_ble_eq_true rfl, Nat.le_of_ble_eq_true rfl⟩ hP hD hK hS hA hB xW_0 rfl rfl hl.1 (Nat.le_of_ble_eq_true rfl) ⟨Nat.le_of_ble_eq_true rfl, Nat.le_of_ble_eq_true rfl⟩ dL_node_9 (fun ce q9 H locs hz hP hD hS hce hcv hcl => ?_)
  refine vx_catch (name := "java/lang/IllegalArgumentException") S.2.2.2.1 [] (⟨0, 14, 17, 15⟩ : ExceptionTableEntry) [(⟨0, 14, 21, 17⟩ : ExceptionTableEntry)] (htab.trans rfl) (fun _ h => absurd h List.not_mem_nil) (by decide) (by decide) (S.2.2.2.2 _ kw_5_177) (va_Nw.use rfl hB.c1) hce hcv hcl ?_
  have hP : va_P D vwCl ((xW o u cI cZ cJ) ++ [(ao, .inl (cJ, 1, .inr (.inl (fun _ => 0))))]) H := hP
  have hD : va_D A ((xW o u cI cZ cJ) ++ [(ao, .inl (cJ, 1, .inr (.inl (fun _ => 0))))]) := hD
  refine lv_astore (lv' := [(6, .ref q9), (0, .ref o), (1, .int 0), (2, .int x2), (3, .int x3), (4, .int x4), (5, .ref ao)]) hx hb dL_node_17 hl (by decide) rfl (fun ls hl => ?_)
  refine lv_iconst (v := 1) hx hb dL_node_19 (by decide) ?_
  exact vx_ret (wEnd S hr hlocks hP hD hS (Nat.le_of_ble_eq_true rfl) (Nat.le_of_ble_eq_true rfl) dL_node_20 rfl)
