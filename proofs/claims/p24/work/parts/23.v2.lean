set_option maxHeartbeats 8000000 in
set_option maxRecDepth 100000 in
theorem v_X2_await (l : Launch) (D : va_G) (cI cZ cJ : ClassId) (o : Nat) (u : Nat → Nat) (T : Nat) (ra : Nat → Nat) (ga : SG) (σ : FS) (a1 : Int32) (Φ : FS → Prop) (sz : Nat) (hok : (wp_X2_await σ a1 Φ)) : Met l yX2_await (uW yX2_await cX2_await 2 none) ({ frames := 0, cells := 0, slots := 0, locals := 0 }) (va_Pc [.ref (u 33), .int a1] (aS ra ga D (tyL cI cZ cJ) (cW o u cI cZ cJ T σ) sz)) (yQv Φ D (cW o u cI cZ cJ T) (va_A (cW o u cI cZ cJ T σ) sz)) 0 0 (va_A (cW o u cI cZ cJ T σ) sz) := by
  refine aStart (lv := [(0, .ref (u 33)), (1, .int a1)]) (Qc := fun A => yQv Φ D (cW o u cI cZ cJ T) A) (by decide) (Nat.le_of_ble_eq_true rfl) rfl ?_
  intro p e s m args below meth c ls A H S hr hlocks hnm hl hK hP hD hS hA hB
  have hx := S.1
  have hb := S.2.1
  refine lv_iload_n hx hb dX2_await_0 rfl (lv_at hl 1 rfl) ?_
  refine lv_iconst (v := (-1)) hx hb dX2_await_1 (by decide) ?_
  refine lv_icmp_eq (tgt := 37) hx hb dX2_await_2 (by decide) (fun c_2 => ?_) (fun c_2 => ?_)
  · have hok := hok.1 c_2
    exact yEndv S hr hlocks hP hD hS (Nat.le_of_ble_eq_true rfl) (Nat.le_of_ble_eq_true rfl) dX2_await_37 hok
  · have hok := hok.2 c_2
    refine lv_aload_n hx hb dX2_await_5 rfl (lv_at hl 0 rfl) ?_
    refine xg (ci := 2) S inX2 rfl hK hP cW_34 8 (by decide) rfl kw_4_190 rfl dX2_await_6 ?_
    refine lv_aload_n hx hb dX2_await_9 rfl (lv_at hl 0 rfl) ?_
    refine xg (ci := 2) S inX2 rfl hK hP cW_34 7 (by decide) rfl kw_4_189 rfl dX2_await_10 ?_
    refine xalen (t0 := 0) (v := 110) S hK hP cW_38 rfl (show Int32.ofNat 110 = 110 by decide) dX2_await_13 ?_
    refine lv_icmp_ge (tgt := 37) hx hb dX2_await_14 (by decide) (fun c_14 => ?_) (fun c_14 => ?_)
    · have hok := hok.1 c_14
      exact yEndv S hr hlocks hP hD hS (Nat.le_of_ble_eq_true rfl) (Nat.le_of_ble_eq_true rfl) dX2_await_37 hok
    · have hok := hok.2 c_14
      refine lv_aload_n hx hb dX2_await_17 rfl (lv_at hl 0 rfl) ?_
      refine xg (ci := 2) S inX2 rfl hK hP cW_34 7 (by decide) rfl kw_4_189 rfl dX2_await_18 ?_
      refine lv_aload_n hx hb dX2_await_21 rfl (lv_at hl 0 rfl) ?_
      refine xg (ci := 2) S inX2 rfl hK hP cW_34 8 (by decide) rfl kw_4_190 rfl dX2_await_22 ?_
      refine lv_iload_n hx hb dX2_await_25 rfl (lv_at hl 1 rfl) ?_
      have h_26 := hok.1
      have hok := hok.2
      refine yiast (t0 := 0) (cw := (cW o u cI cZ cJ T)) S hK hP hD hS cW_38 rfl h_26 dX2_await_26 cWa_38 (fun σ1 H locs eσ1 hP hD hS => ?_)
      have hok := hok σ1 eσ1
      refine lv_aload_n hx hb dX2_await_27 rfl (lv_at hl 0 rfl) ?_
      refine lv_dup hx hb dX2_await_28 rfl ?_
      refine xg (ci := 2) S inX2 rfl hK hP cW_34 8 (by decide) rfl kw_4_190 rfl dX2_await_29 ?_
      refine lv_iconst (v := 1) hx hb dX2_await_32 (by decide) ?_
      refine xiadd (v := (σ1.1 34 8) + 1) S dX2_await_33 rfl ?_
      refine yp (ci := 2) (v := .int ((σ1.1 34 8) + 1)) (cw := (cW o u cI cZ cJ T)) S inX2 tyX2 tyX2_ok nmX2 rfl hK hP hD hS cW_34 8 (by decide) kw_4_190 rfl rfl rfl rfl (Nat.le_of_ble_eq_true rfl) dX2_await_34 cWp_34_8 (fun σ2 H locs eσ2 hP hD hS => ?_)
      have hok := hok σ2 eσ2
      exact yEndv S hr hlocks hP hD hS (Nat.le_of_ble_eq_true rfl) (Nat.le_of_ble_eq_true rfl) dX2_await_37 hok

set_option maxHeartbeats 8000000 in
set_option maxRecDepth 100000 in
theorem v_X5_argumentsOf (l : Launch) (D : va_G) (cI cZ cJ : ClassId) (o : Nat) (u : Nat → Nat) (T : Nat) (ra : Nat → Nat) (ga : SG) (σ : FS) (a1 : Int32) (Φ : Int32 → FS → Prop) (sz : Nat) (hok : (wp_X5_argumentsOf σ a1 Φ)) : Met l yX5_argumentsOf (uW yX5_argumentsOf cX5_argumentsOf 4 (some .int)) ({ frames := 0, cells := 0, slots := 0, locals := 0 }) (va_Pc [.ref (u 12), .int a1] (aS ra ga D (tyL cI cZ cJ) (cW o u cI cZ cJ T σ) sz)) (yQi Φ D (cW o u cI cZ cJ T) (va_A (cW o u cI cZ cJ T σ) sz)) 0 0 (va_A (cW o u cI cZ cJ T σ) sz) := by
  refine aStart (lv := [(0, .ref (u 12)), (1, .int a1)]) (Qc := fun A => yQi Φ D (cW o u cI cZ cJ T) A) (by decide) (Nat.le_of_ble_eq_true rfl) rfl ?_
  intro p e s m args below meth c ls A H S hr hlocks hnm hl hK hP hD hS hA hB
  have hx := S.1
  have hb := S.2.1
  refine lv_iconst (v := 0) hx hb dX5_argumentsOf_0 (by decide) ?_
  refine lv_istore_n (lv' := [(2, .int 0), (0, .ref (u 12)), (1, .int a1)]) hx hb dX5_argumentsOf_1 rfl hl (by decide) rfl (fun ls hl => ?_)
  refine lv_aload_n hx hb dX5_argumentsOf_2 rfl (lv_at hl 1 rfl) ?_
  refine xg (ci := 5) S inX5 rfl hK hP cW_13 3 (by decide) rfl kw_4_50 rfl dX5_argumentsOf_3 ?_
  refine lv_iload_n hx hb dX5_argumentsOf_6 rfl (lv_at hl 2 rfl) ?_
  have h_7 := hok.1
  have hok := hok.2
  refine xiald (t0 := 0) (v := (g σ 16 a1)) S hK hP cW_16 rfl h_7 rfl dX5_argumentsOf_7 ?_
  refine lv_topi (fun x1 ex1 => ?_)
  have hok := hok x1 ex1
  refine lv_istore_n (lv' := [(3, .int x1), (2, .int 0), (0, .ref (u 12)), (1, .int a1)]) hx hb dX5_argumentsOf_8 rfl hl (by decide) rfl (fun ls hl => ?_)
  have lp9 : ∀ (K : FS → Int32 → Int32 → Prop), (∀ (τ0 : FS) (l3_0 : Int32) (l2_0 : Int32) (H : Heap) (locs : List Loc) (ls : Array Slot), K τ0 l3_0 l2_0 → lv_has ls 4 [(3, .int l3_0), (2, .int l2_0), (0, .ref (u 12)), (1, .int a1)] → va_P D vwCl (cW o u cI cZ cJ T τ0) H → va_D A (cW o u cI cZ cJ T τ0) → va_S A s.heap H locs → W p l e ({ frames := 0, cells := 0, slots := 0, locals := 0 }) s m args below meth c H locs 0 0 (MQ below (yQi Φ D (cW o u cI cZ cJ T) A) args s 0 0 A) (F0 m 33 ls [])) → ∀ (n0 : Nat) (τ0 : FS) (l3_0 : Int32) (l2_0 : Int32) (H : Heap) (locs : List Loc) (ls : Array Slot), wp_X5_argumentsOf_9 a1 Φ K n0 τ0 l3_0 l2_0 → lv_has ls 4 [(3, .int l3_0), (2, .int l2_0), (0, .ref (u 12)), (1, .int a1)] → va_P D vwCl (cW o u cI cZ cJ T τ0) H → va_D A (cW o u cI cZ cJ T τ0) → va_S A s.heap H locs → W p l e ({ frames := 0, cells := 0, slots := 0, locals := 0 }) s m args below meth c H locs 0 0 (MQ below (yQi Φ D (cW o u cI cZ cJ T) A) args s 0 0 A) (F0 m 9 ls []) := by
    intro K hk n0
    induction n0 with
    | zero => intro τ0 l3_0 l2_0 H locs ls hok; exact False.elim hok
    | succ n0 ih9 =>
      intro τ0 l3_0 l2_0 H locs ls hok hl hP hD hS
      refine lv_iload_n hx hb dX5_argumentsOf_9 rfl (lv_at hl 1 rfl) ?_
      refine lv_bipush (v := 110) hx hb dX5_argumentsOf_10 (by decide) ?_
      refine lv_icmp_ge (tgt := 33) hx hb dX5_argumentsOf_12 (by decide) (fun c_12 => ?_) (fun c_12 => ?_)
      · have hok := hok.1 c_12
        exact hk τ0 l3_0 l2_0 H locs ls hok (lv_sub hl [0, 1, 2, 3] rfl) hP hD hS
      · have hok := hok.2 c_12
        refine lv_iload_n hx hb dX5_argumentsOf_15 rfl (lv_at hl 0 rfl) ?_
        refine lv_iconst (v := (-1)) hx hb dX5_argumentsOf_16 (by decide) ?_
        refine lv_icmp_eq (tgt := 33) hx hb dX5_argumentsOf_17 (by decide) (fun c_17 => ?_) (fun c_17 => ?_)
        · have hok := hok.1 c_17
          exact hk τ0 l3_0 l2_0 H locs ls hok (lv_sub hl [0, 1, 2, 3] rfl) hP hD hS
        · have hok := hok.2 c_17
          refine lv_aload_n hx hb dX5_argumentsOf_20 rfl (lv_at hl 2 rfl) ?_
          refine xg (ci := 5) S inX5 rfl hK hP cW_13 4 (by decide) rfl kw_4_55 rfl dX5_argumentsOf_21 ?_
          refine lv_iload_n hx hb dX5_argumentsOf_24 rfl (lv_at hl 0 rfl) ?_
          have h_25 := hok.1
          have hok := hok.2
          refine xiald (t0 := 0) (v := (g τ0 17 l3_0)) S hK hP cW_17 rfl h_25 rfl dX5_argumentsOf_25 ?_
          refine lv_topi (fun x2 ex2 => ?_)
          have hok := hok x2 ex2
          refine lv_istore_n (lv' := [(3, .int x2), (2, .int l2_0), (0, .ref (u 12)), (1, .int a1)]) hx hb dX5_argumentsOf_26 rfl hl (by decide) rfl (fun ls hl => ?_)
          refine lv_iinc (v := l2_0 + 1) (lv' := [(2, .int (l2_0 + 1)), (3, .int x2), (0, .ref (u 12)), (1, .int a1)]) hx hb dX5_argumentsOf_27 hl (k := 1) rfl rfl (by decide) rfl (fun ls hl => ?_)
          refine lv_goto (tgt := 9) hx hb dX5_argumentsOf_30 (by decide) ?_
          exact ih9 τ0 x2 (l2_0 + 1) H locs ls hok (lv_sub hl [1, 0, 2, 3] rfl) hP hD hS
  refine lp9 _ ?_ FUEL σ x1 0 _ _ _ hok (lv_sub hl [0, 1, 2, 3] rfl) hP hD hS
  intro σ3 x4 x5 H locs ls hok hl hP hD hS
  refine lv_iload_n hx hb dX5_argumentsOf_33 rfl (lv_at hl 1 rfl) ?_
  exact yEnd S hr hlocks hP hD hS (Nat.le_of_ble_eq_true rfl) (Nat.le_of_ble_eq_true rfl) dX5_argumentsOf_34 hok

set_option maxHeartbeats 8000000 in
set_option maxRecDepth 100000 in
theorem v_X2_isToBeSet (l : Launch) (D : va_G) (cI cZ cJ : ClassId) (o : Nat) (u : Nat → Nat) (T : Nat) (ra : Nat → Nat) (ga : SG) (σ : FS) (a1 : Int32) (Φ : Int32 → FS → Prop) (sz : Nat) (hok : (wp_X2_isToBeSet σ a1 Φ)) : Met l yX2_isToBeSet (uW yX2_isToBeSet cX2_isToBeSet 1 (some .boolean)) ({ frames := 0, cells := 0, slots := 0, locals := 0 }) (va_Pc [.int a1] (aS ra ga D (tyL cI cZ cJ) (cW o u cI cZ cJ T σ) sz)) (yQi Φ D (cW o u cI cZ cJ T) (va_A (cW o u cI cZ cJ T σ) sz)) 0 0 (va_A (cW o u cI cZ cJ T σ) sz) := by
  refine aStart (lv := [(0, .int a1)]) (Qc := fun A => yQi Φ D (cW o u cI cZ cJ T) A) (by decide) (Nat.le_of_ble_eq_true rfl) rfl ?_
  intro p e s m args below meth c ls A H S hr hlocks hnm hl hK hP hD hS hA hB
  have hx := S.1
  have hb := S.2.1
  refine lv_iload_n hx hb dX2_isToBeSet_0 rfl (lv_at hl 0 rfl) ?_
  refine lv_bipush (v := 6) hx hb dX2_isToBeSet_1 (by decide) ?_
  refine lv_icmp_eq (tgt := 15) hx hb dX2_isToBeSet_3 (by decide) (fun c_3 => ?_) (fun c_3 => ?_)
  · have hok := hok.1 c_3
    refine lv_iconst (v := 1) hx hb dX2_isToBeSet_15 (by decide) ?_
    refine lv_goto (tgt := 20) hx hb dX2_isToBeSet_16 (by decide) ?_
    exact yEndZ S hr hlocks hP hD hS (Nat.le_of_ble_eq_true rfl) (Nat.le_of_ble_eq_true rfl) dX2_isToBeSet_20 rfl hok
  · have hok := hok.2 c_3
    refine lv_iload_n hx hb dX2_isToBeSet_6 rfl (lv_at hl 0 rfl) ?_
    refine lv_if_eq (tgt := 15) hx hb dX2_isToBeSet_7 (by decide) (fun c_7 => ?_) (fun c_7 => ?_)
    · have hok := hok.1 c_7
      refine lv_iconst (v := 1) hx hb dX2_isToBeSet_15 (by decide) ?_
      refine lv_goto (tgt := 20) hx hb dX2_isToBeSet_16 (by decide) ?_
      exact yEndZ S hr hlocks hP hD hS (Nat.le_of_ble_eq_true rfl) (Nat.le_of_ble_eq_true rfl) dX2_isToBeSet_20 rfl hok
    · have hok := hok.2 c_7
      refine lv_iload_n hx hb dX2_isToBeSet_10 rfl (lv_at hl 0 rfl) ?_
      refine lv_iconst (v := 1) hx hb dX2_isToBeSet_11 (by decide) ?_
      refine lv_icmp_ne (tgt := 19) hx hb dX2_isToBeSet_12 (by decide) (fun c_12 => ?_) (fun c_12 => ?_)
      · have hok := hok.2 c_12
        refine lv_iconst (v := 0) hx hb dX2_isToBeSet_19 (by decide) ?_
        exact yEndZ S hr hlocks hP hD hS (Nat.le_of_ble_eq_true rfl) (Nat.le_of_ble_eq_true rfl) dX2_isToBeSet_20 rfl hok
      · have hok := hok.1 c_12
        refine lv_iconst (v := 1) hx hb dX2_isToBeSet_15 (by decide) ?_
        refine lv_goto (tgt := 20) hx hb dX2_isToBeSet_16 (by decide) ?_
        exact yEndZ S hr hlocks hP hD hS (Nat.le_of_ble_eq_true rfl) (Nat.le_of_ble_eq_true rfl) dX2_isToBeSet_20 rfl hok

set_option maxHeartbeats 8000000 in
set_option maxRecDepth 100000 in
theorem v_X5_isExpression (l : Launch) (D : va_G) (cI cZ cJ : ClassId) (o : Nat) (u : Nat → Nat) (T : Nat) (ra : Nat → Nat) (ga : SG) (σ : FS) (a1 : Int32) (Φ : Int32 → FS → Prop) (sz : Nat) (hok : (wp_X5_isExpression σ a1 Φ)) : Met l yX5_isExpression (uW yX5_isExpression cX5_isExpression 2 (some .boolean)) ({ frames := 0, cells := 0, slots := 0, locals := 0 }) (va_Pc [.ref (u 12), .int a1] (aS ra ga D (tyL cI cZ cJ) (cW o u cI cZ cJ T σ) sz)) (yQi Φ D (cW o u cI cZ cJ T) (va_A (cW o u cI cZ cJ T σ) sz)) 0 0 (va_A (cW o u cI cZ cJ T σ) sz) := by
  refine aStart (lv := [(0, .ref (u 12)), (1, .int a1)]) (Qc := fun A => yQi Φ D (cW o u cI cZ cJ T) A) (by decide) (Nat.le_of_ble_eq_true rfl) rfl ?_
  intro p e s m args below meth c ls A H S hr hlocks hnm hl hK hP hD hS hA hB
  have hx := S.1
  have hb := S.2.1
  refine lv_aload_n hx hb dX5_isExpression_0 rfl (lv_at hl 0 rfl) ?_
  refine xg (ci := 5) S inX5 rfl hK hP cW_13 1 (by decide) rfl kw_4_41 rfl dX5_isExpression_1 ?_
  refine lv_iload_n hx hb dX5_isExpression_4 rfl (lv_at hl 1 rfl) ?_
  have h_5 := hok.1
  have hok := hok.2
  refine xiald (t0 := 0) (v := (g σ 14 a1)) S hK hP cW_14 rfl h_5 rfl dX5_isExpression_5 ?_
  refine lv_bipush (v := 8) hx hb dX5_isExpression_6 (by decide) ?_
  refine lv_icmp_gt (tgt := 15) hx hb dX5_isExpression_8 (by decide) (fun c_8 => ?_) (fun c_8 => ?_)
  · have hok := hok.1 c_8
    refine lv_iconst (v := 0) hx hb dX5_isExpression_15 (by decide) ?_
    exact yEndZ S hr hlocks hP hD hS (Nat.le_of_ble_eq_true rfl) (Nat.le_of_ble_eq_true rfl) dX5_isExpression_16 rfl hok
  · have hok := hok.2 c_8
    refine lv_iconst (v := 1) hx hb dX5_isExpression_11 (by decide) ?_
    refine lv_goto (tgt := 16) hx hb dX5_isExpression_12 (by decide) ?_
    exact yEndZ S hr hlocks hP hD hS (Nat.le_of_ble_eq_true rfl) (Nat.le_of_ble_eq_true rfl) dX5_isExpression_16 rfl hok

set_option maxHeartbeats 8000000 in
set_option maxRecDepth 100000 in
theorem v_X2_suits (l : Launch) (D : va_G) (cI cZ cJ : ClassId) (o : Nat) (u : Nat → Nat) (T : Nat) (ra : Nat → Nat) (ga : SG) (σ : FS) (a1 : Int32) (a2 : Int32) (Φ : Int32 → FS → Prop) (sz : Nat) (hok : (wp_X2_suits σ a1 a2 Φ)) : Met l yX2_suits (uW yX2_suits cX2_suits 3 (some .boolean)) ({ frames := 1, cells := 0, slots := 0, locals := 21 }) (va_Pc [.ref (u 33), .int a1, .int a2] (aS ra ga D (tyL cI cZ cJ) (cW o u cI cZ cJ T σ) sz)) (yQi Φ D (cW o u cI cZ cJ T) (va_A (cW o u cI cZ cJ T σ) sz)) 0 0 (va_A (cW o u cI cZ cJ T σ) sz) := by
  refine aStart (lv := [(0, .ref (u 33)), (1, .int a1), (2, .int a2)]) (Qc := fun A => yQi Φ D (cW o u cI cZ cJ T) A) (by decide) (Nat.le_of_ble_eq_true rfl) rfl ?_
  intro p e s m args below meth c ls A H S hr hlocks hnm hl hK hP hD hS hA hB
  have hx := S.1
  have hb := S.2.1
  refine lv_iload_n hx hb dX2_suits_0 rfl (lv_at hl 2 rfl) ?_
  by_cases k_1_0 : a2 = 1
  · have hok := hok.1 k_1_0
    rw [k_1_0]
    refine lv_tableIn (off := 35) (tgt := 36) hx hb dX2_suits_1 (by decide) (by decide) (by decide) (by decide) ?_
    refine lv_aload_n hx hb dX2_suits_36 rfl (lv_at hl 0 rfl) ?_
    refine xg (ci := 2) S inX2 rfl hK hP cW_34 1 (by decide) rfl kw_4_179 rfl dX2_suits_37 ?_
    refine xg (ci := 5) S inX5 rfl hK hP cW_13 1 (by decide) rfl kw_4_43 rfl dX2_suits_40 ?_
    refine lv_iload_n hx hb dX2_suits_43 rfl (lv_at hl 1 rfl) ?_
    have h_44 := hok.1
    have hok := hok.2
    refine xiald (t0 := 0) (v := (g σ 14 a1)) S hK hP cW_14 rfl h_44 rfl dX2_suits_44 ?_
    refine lv_iconst (v := 2) hx hb dX2_suits_45 (by decide) ?_
    refine lv_icmp_eq (tgt := 77) hx hb dX2_suits_46 (by decide) (fun c_46 => ?_) (fun c_46 => ?_)
    · have hok := hok.1 c_46
      refine lv_iconst (v := 1) hx hb dX2_suits_77 (by decide) ?_
      refine lv_goto (tgt := 82) hx hb dX2_suits_78 (by decide) ?_
      exact yEndZ S hr hlocks hP hD hS (Nat.le_of_ble_eq_true rfl) (Nat.le_of_ble_eq_true rfl) dX2_suits_82 rfl hok
    · have hok := hok.2 c_46
      refine lv_aload_n hx hb dX2_suits_49 rfl (lv_at hl 0 rfl) ?_
      refine xg (ci := 2) S inX2 rfl hK hP cW_34 1 (by decide) rfl kw_4_179 rfl dX2_suits_50 ?_
      refine xg (ci := 5) S inX5 rfl hK hP cW_13 1 (by decide) rfl kw_4_43 rfl dX2_suits_53 ?_
      refine lv_iload_n hx hb dX2_suits_56 rfl (lv_at hl 1 rfl) ?_
      have h_57 := hok.1
      have hok := hok.2
      refine xiald (t0 := 0) (v := (g σ 14 a1)) S hK hP cW_14 rfl h_57 rfl dX2_suits_57 ?_
      refine lv_iconst (v := 1) hx hb dX2_suits_58 (by decide) ?_
      refine lv_icmp_ne (tgt := 81) hx hb dX2_suits_59 (by decide) (fun c_59 => ?_) (fun c_59 => ?_)
      · have hok := hok.2 c_59
        refine lv_iconst (v := 0) hx hb dX2_suits_81 (by decide) ?_
        exact yEndZ S hr hlocks hP hD hS (Nat.le_of_ble_eq_true rfl) (Nat.le_of_ble_eq_true rfl) dX2_suits_82 rfl hok
      · have hok := hok.1 c_59
        refine lv_aload_n hx hb dX2_suits_62 rfl (lv_at hl 0 rfl) ?_
        refine xg (ci := 2) S inX2 rfl hK hP cW_34 2 (by decide) rfl kw_4_180 rfl dX2_suits_63 ?_
        refine xg (ci := 4) S inX4 rfl hK hP cW_20 5 (by decide) rfl kw_4_98 rfl dX2_suits_66 ?_
        refine lv_iload_n hx hb dX2_suits_69 rfl (lv_at hl 1 rfl) ?_
        have h_70 := hok.1
        have hok := hok.2
        refine xiald (t0 := 0) (v := (g σ 24 a1)) S hK hP cW_24 rfl h_70 rfl dX2_suits_70 ?_
        refine ySi (As := [.int (g σ 24 a1)]) (cw := (cW o u cI cZ cJ T)) S (v_X2_isToBeSet l D cI cZ cJ o u T ra ga σ (g σ 24 a1) _ H.size hok) ms_X2_isToBeSet kw_2_11 rfl rfl ⟨Nat.le_of_ble_eq_true rfl, Nat.le_of_ble_eq_true rfl⟩ hP hD hK hS hA hB hl.1 (Nat.le_of_ble_eq_true rfl) ⟨Nat.le_of_ble_eq_true rfl, Nat.le_of_ble_eq_true rfl⟩ dX2_suits_71 (fun x2 σ1 H locs hok hz hP hD hS => ?_)
        refine lv_if_eq (tgt := 81) hx hb dX2_suits_74 (by decide) (fun c_74 => ?_) (fun c_74 => ?_)
        · have hok := hok.1 c_74
          refine lv_iconst (v := 0) hx hb dX2_suits_81 (by decide) ?_
          exact yEndZ S hr hlocks hP hD hS (Nat.le_of_ble_eq_true rfl) (Nat.le_of_ble_eq_true rfl) dX2_suits_82 rfl hok
        · have hok := hok.2 c_74
          refine lv_iconst (v := 1) hx hb dX2_suits_77 (by decide) ?_
          refine lv_goto (tgt := 82) hx hb dX2_suits_78 (by decide) ?_
          exact yEndZ S hr hlocks hP hD hS (Nat.le_of_ble_eq_true rfl) (Nat.le_of_ble_eq_true rfl) dX2_suits_82 rfl hok
  · have hok := hok.2 k_1_0
    by_cases k_1_1 : a2 = 2
    · have hok := hok.1 k_1_1
      rw [k_1_1]
      refine lv_tableIn (off := 122) (tgt := 123) hx hb dX2_suits_1 (by decide) (by decide) (by decide) (by decide) ?_
      refine lv_aload_n hx hb dX2_suits_123 rfl (lv_at hl 0 rfl) ?_
      refine xg (ci := 2) S inX2 rfl hK hP cW_34 1 (by decide) rfl kw_4_179 rfl dX2_suits_124 ?_
      refine lv_iload_n hx hb dX2_suits_127 rfl (lv_at hl 1 rfl) ?_
      refine yVi (As := [.int a1]) (cw := (cW o u cI cZ cJ T)) (ci := 5) S (v_X5_isExpression l D cI cZ cJ o u T ra ga σ a1 _ H.size hok) mi_X5_isExpression kw_2_30 rfl rfl ⟨Nat.le_of_ble_eq_true rfl, Nat.le_of_ble_eq_true rfl⟩ hP hD hK hS hA hB cW_13 rfl rfl hl.1 (Nat.le_of_ble_eq_true rfl) ⟨Nat.le_of_ble_eq_true rfl, Nat.le_of_ble_eq_true rfl⟩ dX2_suits_128 (fun x4 σ3 H locs hok hz hP hD hS => ?_)
      exact yEndZ S hr hlocks hP hD hS (Nat.le_of_ble_eq_true rfl) (Nat.le_of_ble_eq_true rfl) dX2_suits_131 (bZ_nar hok.1) hok.2
    · have hok := hok.2 k_1_1
      by_cases k_1_2 : a2 = 3
      · have hok := hok.1 k_1_2
        rw [k_1_2]
        refine lv_tableIn (off := 82) (tgt := 83) hx hb dX2_suits_1 (by decide) (by decide) (by decide) (by decide) ?_
        refine lv_aload_n hx hb dX2_suits_83 rfl (lv_at hl 0 rfl) ?_
        refine xg (ci := 2) S inX2 rfl hK hP cW_34 1 (by decide) rfl kw_4_179 rfl dX2_suits_84 ?_
        refine xg (ci := 5) S inX5 rfl hK hP cW_13 1 (by decide) rfl kw_4_43 rfl dX2_suits_87 ?_
        refine lv_iload_n hx hb dX2_suits_90 rfl (lv_at hl 1 rfl) ?_
        have h_91 := hok.1
        have hok := hok.2
        refine xiald (t0 := 0) (v := (g σ 14 a1)) S hK hP cW_14 rfl h_91 rfl dX2_suits_91 ?_
        refine lv_bipush (v := 11) hx hb dX2_suits_92 (by decide) ?_
        refine lv_icmp_ne (tgt := 101) hx hb dX2_suits_94 (by decide) (fun c_94 => ?_) (fun c_94 => ?_)
        · have hok := hok.2 c_94
          refine lv_iconst (v := 0) hx hb dX2_suits_101 (by decide) ?_
          exact yEndZ S hr hlocks hP hD hS (Nat.le_of_ble_eq_true rfl) (Nat.le_of_ble_eq_true rfl) dX2_suits_102 rfl hok
        · have hok := hok.1 c_94
          refine lv_iconst (v := 1) hx hb dX2_suits_97 (by decide) ?_
          refine lv_goto (tgt := 102) hx hb dX2_suits_98 (by decide) ?_
          exact yEndZ S hr hlocks hP hD hS (Nat.le_of_ble_eq_true rfl) (Nat.le_of_ble_eq_true rfl) dX2_suits_102 rfl hok
      · have hok := hok.2 k_1_2
        by_cases k_1_3 : a2 = 4
        · have hok := hok.1 k_1_3
          rw [k_1_3]
          refine lv_tableIn (off := 82) (tgt := 83) hx hb dX2_suits_1 (by decide) (by decide) (by decide) (by decide) ?_
          refine lv_aload_n hx hb dX2_suits_83 rfl (lv_at hl 0 rfl) ?_
          refine xg (ci := 2) S inX2 rfl hK hP cW_34 1 (by decide) rfl kw_4_179 rfl dX2_suits_84 ?_
          refine xg (ci := 5) S inX5 rfl hK hP cW_13 1 (by decide) rfl kw_4_43 rfl dX2_suits_87 ?_
          refine lv_iload_n hx hb dX2_suits_90 rfl (lv_at hl 1 rfl) ?_
          have h_91 := hok.1
          have hok := hok.2
          refine xiald (t0 := 0) (v := (g σ 14 a1)) S hK hP cW_14 rfl h_91 rfl dX2_suits_91 ?_
          refine lv_bipush (v := 11) hx hb dX2_suits_92 (by decide) ?_
          refine lv_icmp_ne (tgt := 101) hx hb dX2_suits_94 (by decide) (fun c_94 => ?_) (fun c_94 => ?_)
          · have hok := hok.2 c_94
            refine lv_iconst (v := 0) hx hb dX2_suits_101 (by decide) ?_
            exact yEndZ S hr hlocks hP hD hS (Nat.le_of_ble_eq_true rfl) (Nat.le_of_ble_eq_true rfl) dX2_suits_102 rfl hok
          · have hok := hok.1 c_94
            refine lv_iconst (v := 1) hx hb dX2_suits_97 (by decide) ?_
            refine lv_goto (tgt := 102) hx hb dX2_suits_98 (by decide) ?_
            exact yEndZ S hr hlocks hP hD hS (Nat.le_of_ble_eq_true rfl) (Nat.le_of_ble_eq_true rfl) dX2_suits_102 rfl hok
        · have hok := hok.2 k_1_3
          by_cases k_1_4 : a2 = 5
          · have hok := hok.1 k_1_4
            rw [k_1_4]
            refine lv_tableIn (off := 102) (tgt := 103) hx hb dX2_suits_1 (by decide) (by decide) (by decide) (by decide) ?_
            refine lv_aload_n hx hb dX2_suits_103 rfl (lv_at hl 0 rfl) ?_
            refine xg (ci := 2) S inX2 rfl hK hP cW_34 1 (by decide) rfl kw_4_179 rfl dX2_suits_104 ?_
            refine xg (ci := 5) S inX5 rfl hK hP cW_13 1 (by decide) rfl kw_4_43 rfl dX2_suits_107 ?_
            refine lv_iload_n hx hb dX2_suits_110 rfl (lv_at hl 1 rfl) ?_
            have h_111 := hok.1
            have hok := hok.2
            refine xiald (t0 := 0) (v := (g σ 14 a1)) S hK hP cW_14 rfl h_111 rfl dX2_suits_111 ?_
            refine lv_bipush (v := 10) hx hb dX2_suits_112 (by decide) ?_
            refine lv_icmp_ne (tgt := 121) hx hb dX2_suits_114 (by decide) (fun c_114 => ?_) (fun c_114 => ?_)
            · have hok := hok.2 c_114
              refine lv_iconst (v := 0) hx hb dX2_suits_121 (by decide) ?_
              exact yEndZ S hr hlocks hP hD hS (Nat.le_of_ble_eq_true rfl) (Nat.le_of_ble_eq_true rfl) dX2_suits_122 rfl hok
            · have hok := hok.1 c_114
              refine lv_iconst (v := 1) hx hb dX2_suits_117 (by decide) ?_
              refine lv_goto (tgt := 122) hx hb dX2_suits_118 (by decide) ?_
              exact yEndZ S hr hlocks hP hD hS (Nat.le_of_ble_eq_true rfl) (Nat.le_of_ble_eq_true rfl) dX2_suits_122 rfl hok
          · have hok := hok.2 k_1_4
            have q_1_0 := sw_ni k_1_0 (z := 1) (by decide)
            have q_1_1 := sw_ni k_1_1 (z := 2) (by decide)
            have q_1_2 := sw_ni k_1_2 (z := 3) (by decide)
            have q_1_3 := sw_ni k_1_3 (z := 4) (by decide)
            have q_1_4 := sw_ni k_1_4 (z := 5) (by decide)
            refine lv_tableOut (tgt := 123) hx hb dX2_suits_1 (by omega) (by decide) ?_
            refine lv_aload_n hx hb dX2_suits_123 rfl (lv_at hl 0 rfl) ?_
            refine xg (ci := 2) S inX2 rfl hK hP cW_34 1 (by decide) rfl kw_4_179 rfl dX2_suits_124 ?_
            refine lv_iload_n hx hb dX2_suits_127 rfl (lv_at hl 1 rfl) ?_
            refine yVi (As := [.int a1]) (cw := (cW o u cI cZ cJ T)) (ci := 5) S (v_X5_isExpression l D cI cZ cJ o u T ra ga σ a1 _ H.size hok) mi_X5_isExpression kw_2_30 rfl rfl ⟨Nat.le_of_ble_eq_true rfl, Nat.le_of_ble_eq_true rfl⟩ hP hD hK hS hA hB cW_13 rfl rfl hl.1 (Nat.le_of_ble_eq_true rfl) ⟨Nat.le_of_ble_eq_true rfl, Nat.le_of_ble_eq_true rfl⟩ dX2_suits_128 (fun x6 σ5 H locs hok hz hP hD hS => ?_)
            exact yEndZ S hr hlocks hP hD hS (Nat.le_of_ble_eq_true rfl) (Nat.le_of_ble_eq_true rfl) dX2_suits_131 (bZ_nar hok.1) hok.2

set_option maxHeartbeats 8000000 in
set_option maxRecDepth 100000 in
theorem v_X2_faultOfArguments (l : Launch) (D : va_G) (cI cZ cJ : ClassId) (o : Nat) (u : Nat → Nat) (T : Nat) (ra : Nat → Nat) (ga : SG) (σ : FS) (a1 : Int32) (Φ : Int32 → FS → Prop) (sz : Nat) (hok : (wp_X2_faultOfArguments σ a1 Φ)) : Met l yX2_faultOfArguments (uW yX2_faultOfArguments cX2_faultOfArguments 6 (some .int)) ({ frames := 2, cells := 0, slots := 0, locals := 43 }) (va_Pc [.ref (u 33), .int a1] (aS ra ga D (tyL cI cZ cJ) (cW o u cI cZ cJ T σ) sz)) (yQi Φ D (cW o u cI cZ cJ T) (va_A (cW o u cI cZ cJ T σ) sz)) 0 0 (va_A (cW o u cI cZ cJ T σ) sz) := by
  refine aStart (lv := [(0, .ref (u 33)), (1, .int a1)]) (Qc := fun A => yQi Φ D (cW o u cI cZ cJ T) A) (by decide) (Nat.le_of_ble_eq_true rfl) rfl ?_
  intro p e s m args below meth c ls A H S hr hlocks hnm hl hK hP hD hS hA hB
  have hx := S.1
  have hb := S.2.1
  refine lv_aload_n hx hb dX2_faultOfArguments_0 rfl (lv_at hl 0 rfl) ?_
  refine xg (ci := 2) S inX2 rfl hK hP cW_34 2 (by decide) rfl kw_4_180 rfl dX2_faultOfArguments_1 ?_
  refine xg (ci := 4) S inX4 rfl hK hP cW_20 5 (by decide) rfl kw_4_98 rfl dX2_faultOfArguments_4 ?_
  refine lv_iload_n hx hb dX2_faultOfArguments_7 rfl (lv_at hl 1 rfl) ?_
  have h_8 := hok.1
  have hok := hok.2
  refine xiald (t0 := 0) (v := (g σ 24 a1)) S hK hP cW_24 rfl h_8 rfl dX2_faultOfArguments_8 ?_
  refine lv_bipush (v := 10) hx hb dX2_faultOfArguments_9 (by decide) ?_
  refine lv_icmp_ne (tgt := 18) hx hb dX2_faultOfArguments_11 (by decide) (fun c_11 => ?_) (fun c_11 => ?_)
  · have hok := hok.2 c_11
    refine lv_iconst (v := 0) hx hb dX2_faultOfArguments_18 (by decide) ?_
    refine lv_istore_n (lv' := [(2, .int 0), (0, .ref (u 33)), (1, .int a1)]) hx hb dX2_faultOfArguments_19 rfl hl (by decide) rfl (fun ls hl => ?_)
    refine lv_aload_n hx hb dX2_faultOfArguments_20 rfl (lv_at hl 1 rfl) ?_
    refine xg (ci := 2) S inX2 rfl hK hP cW_34 1 (by decide) rfl kw_4_179 rfl dX2_faultOfArguments_21 ?_
    refine lv_iload_n hx hb dX2_faultOfArguments_24 rfl (lv_at hl 2 rfl) ?_
    refine yVi (As := [.int a1]) (cw := (cW o u cI cZ cJ T)) (ci := 5) S (v_X5_argumentsOf l D cI cZ cJ o u T ra ga σ a1 _ H.size hok) mi_X5_argumentsOf kw_2_22 rfl rfl ⟨Nat.le_of_ble_eq_true rfl, Nat.le_of_ble_eq_true rfl⟩ hP hD hK hS hA hB cW_13 rfl rfl hl.1 (Nat.le_of_ble_eq_true rfl) ⟨Nat.le_of_ble_eq_true rfl, Nat.le_of_ble_eq_true rfl⟩ dX2_faultOfArguments_25 (fun x2 σ1 H locs hok hz hP hD hS => ?_)
    refine lv_istore_n (lv' := [(3, .int x2), (2, .int 0), (0, .ref (u 33)), (1, .int a1)]) hx hb dX2_faultOfArguments_28 rfl hl (by decide) rfl (fun ls hl => ?_)
    refine lv_iload_n hx hb dX2_faultOfArguments_29 rfl (lv_at hl 1 rfl) ?_
    refine lv_if_eq (tgt := 56) hx hb dX2_faultOfArguments_30 (by decide) (fun _ => ?_) (fun c => absurd c (by decide))
    refine lv_aload_n hx hb dX2_faultOfArguments_56 rfl (lv_at hl 2 rfl) ?_
    refine xg (ci := 2) S inX2 rfl hK hP cW_34 1 (by decide) rfl kw_4_179 rfl dX2_faultOfArguments_57 ?_
    refine xg (ci := 5) S inX5 rfl hK hP cW_13 3 (by decide) rfl kw_4_52 rfl dX2_faultOfArguments_60 ?_
    refine lv_iload_n hx hb dX2_faultOfArguments_63 rfl (lv_at hl 3 rfl) ?_
    have h_64 := hok.1
    have hok := hok.2
    refine xiald (t0 := 0) (v := (g σ1 16 a1)) S hK hP cW_16 rfl h_64 rfl dX2_faultOfArguments_64 ?_
    refine lv_topi (fun x3 ex3 => ?_)
    have hok := hok x3 ex3
    refine lv_istore (lv' := [(4, .int x3), (3, .int x2), (2, .int 0), (0, .ref (u 33)), (1, .int a1)]) hx hb dX2_faultOfArguments_65 hl (by decide) rfl (fun ls hl => ?_)
    refine lv_iconst (v := 0) hx hb dX2_faultOfArguments_67 (by decide) ?_
    refine lv_istore (lv' := [(5, .int 0), (4, .int x3), (3, .int x2), (2, .int 0), (0, .ref (u 33)), (1, .int a1)]) hx hb dX2_faultOfArguments_68 hl (by decide) rfl (fun ls hl => ?_)
    have lp70 : ∀ (K : FS → Int32 → Int32 → Prop), (∀ (τ0 : FS) (l5_0 : Int32) (l4_0 : Int32) (H : Heap) (locs : List Loc) (ls : Array Slot), K τ0 l5_0 l4_0 → lv_has ls 6 [(5, .int l5_0), (4, .int l4_0), (3, .int x2), (2, .int 0), (0, .ref (u 33)), (1, .int a1)] → va_P D vwCl (cW o u cI cZ cJ T τ0) H → va_D A (cW o u cI cZ cJ T τ0) → va_S A s.heap H locs → W p l e ({ frames := 2, cells := 0, slots := 0, locals := 43 }) s m args below meth c H locs 0 0 (MQ below (yQi Φ D (cW o u cI cZ cJ T) A) args s 0 0 A) (F0 m 137 ls [])) → ∀ (n0 : Nat) (τ0 : FS) (l5_0 : Int32) (l4_0 : Int32) (H : Heap) (locs : List Loc) (ls : Array Slot), wp_X2_faultOfArguments_70 a1 x2 Φ K n0 τ0 l5_0 l4_0 → lv_has ls 6 [(5, .int l5_0), (4, .int l4_0), (3, .int x2), (2, .int 0), (0, .ref (u 33)), (1, .int a1)] → va_P D vwCl (cW o u cI cZ cJ T τ0) H → va_D A (cW o u cI cZ cJ T τ0) → va_S A s.heap H locs → W p l e ({ frames := 2, cells := 0, slots := 0, locals := 43 }) s m args below meth c H locs 0 0 (MQ below (yQi Φ D (cW o u cI cZ cJ T) A) args s 0 0 A) (F0 m 70 ls []) := by
      intro K hk n0
      induction n0 with
      | zero => intro τ0 l5_0 l4_0 H locs ls hok; exact False.elim hok
      | succ n0 ih70 =>
        intro τ0 l5_0 l4_0 H locs ls hok hl hP hD hS
        refine lv_iload hx hb dX2_faultOfArguments_70 (lv_at hl 0 rfl) ?_
        refine lv_iload_n hx hb dX2_faultOfArguments_72 rfl (lv_at hl 2 rfl) ?_
        refine lv_icmp_ge (tgt := 137) hx hb dX2_faultOfArguments_73 (by decide) (fun c_73 => ?_) (fun c_73 => ?_)
        · have hok := hok.1 c_73
          exact hk τ0 l5_0 l4_0 H locs ls hok (lv_sub hl [0, 1, 2, 3, 4, 5] rfl) hP hD hS
        · have hok := hok.2 c_73
          refine lv_iload hx hb dX2_faultOfArguments_76 (lv_at hl 1 rfl) ?_
          refine lv_iconst (v := (-1)) hx hb dX2_faultOfArguments_78 (by decide) ?_
          refine lv_icmp_eq (tgt := 137) hx hb dX2_faultOfArguments_79 (by decide) (fun c_79 => ?_) (fun c_79 => ?_)
          · have hok := hok.1 c_79
            exact hk τ0 l5_0 l4_0 H locs ls hok (lv_sub hl [0, 1, 2, 3, 4, 5] rfl) hP hD hS
          · have hok := hok.2 c_79
            refine lv_aload_n hx hb dX2_faultOfArguments_82 rfl (lv_at hl 4 rfl) ?_
            refine lv_aload_n hx hb dX2_faultOfArguments_83 rfl (lv_at hl 4 rfl) ?_
            refine xg (ci := 2) S inX2 rfl hK hP cW_34 1 (by decide) rfl kw_4_179 rfl dX2_faultOfArguments_84 ?_
            refine xg (ci := 5) S inX5 rfl hK hP cW_13 3 (by decide) rfl kw_4_52 rfl dX2_faultOfArguments_87 ?_
            refine lv_iload hx hb dX2_faultOfArguments_90 (lv_at hl 1 rfl) ?_
            have h_92 := hok.1
            have hok := hok.2
            refine xiald (t0 := 0) (v := (g τ0 16 l4_0)) S hK hP cW_16 rfl h_92 rfl dX2_faultOfArguments_92 ?_
            refine lv_iload_n hx hb dX2_faultOfArguments_93 rfl (lv_at hl 3 rfl) ?_
            refine lv_if_eq (tgt := 110) hx hb dX2_faultOfArguments_94 (by decide) (fun _ => ?_) (fun c => absurd c (by decide))
            refine lv_iconst (v := 0) hx hb dX2_faultOfArguments_110 (by decide) ?_
            refine yVi (As := [.int (g τ0 16 l4_0), .int 0]) (cw := (cW o u cI cZ cJ T)) (ci := 2) S (v_X2_suits l D cI cZ cJ o u T ra ga τ0 (g τ0 16 l4_0) 0 _ H.size hok) mi_X2_suits kw_2_26 rfl rfl ⟨Nat.le_of_ble_eq_true rfl, Nat.le_of_ble_eq_true rfl⟩ hP hD hK hS hA hB cW_34 rfl rfl hl.1 (Nat.le_of_ble_eq_true rfl) ⟨Nat.le_of_ble_eq_true rfl, Nat.le_of_ble_eq_true rfl⟩ dX2_faultOfArguments_111 (fun x5 σ4 H locs hok hz hP hD hS => ?_)
            refine lv_if_ne (tgt := 119) hx hb dX2_faultOfArguments_114 (by decide) (fun c_114 => ?_) (fun c_114 => ?_)
            · have hok := hok.2 c_114
              refine lv_aload_n hx hb dX2_faultOfArguments_119 rfl (lv_at hl 4 rfl) ?_
              refine xg (ci := 2) S inX2 rfl hK hP cW_34 1 (by decide) rfl kw_4_179 rfl dX2_faultOfArguments_120 ?_
              refine xg (ci := 5) S inX5 rfl hK hP cW_13 4 (by decide) rfl kw_4_58 rfl dX2_faultOfArguments_123 ?_
              refine lv_iload hx hb dX2_faultOfArguments_126 (lv_at hl 1 rfl) ?_
              have h_128 := hok.1
              have hok := hok.2
              refine xiald (t0 := 0) (v := (g σ4 17 l4_0)) S hK hP cW_17 rfl h_128 rfl dX2_faultOfArguments_128 ?_
              refine lv_topi (fun x6 ex6 => ?_)
              have hok := hok x6 ex6
              refine lv_istore (lv' := [(4, .int x6), (5, .int l5_0), (3, .int x2), (2, .int 0), (0, .ref (u 33)), (1, .int a1)]) hx hb dX2_faultOfArguments_129 hl (by decide) rfl (fun ls hl => ?_)
              refine lv_iinc (v := l5_0 + 1) (lv' := [(5, .int (l5_0 + 1)), (4, .int x6), (3, .int x2), (2, .int 0), (0, .ref (u 33)), (1, .int a1)]) hx hb dX2_faultOfArguments_131 hl (k := 1) rfl rfl (by decide) rfl (fun ls hl => ?_)
              refine lv_goto (tgt := 70) hx hb dX2_faultOfArguments_134 (by decide) ?_
              exact ih70 σ4 (l5_0 + 1) x6 H locs ls hok (lv_sub hl [0, 1, 2, 3, 4, 5] rfl) hP hD hS
            · have hok := hok.1 c_114
              refine lv_iconst (v := 5) hx hb dX2_faultOfArguments_117 (by decide) ?_
              exact yEnd S hr hlocks hP hD hS (Nat.le_of_ble_eq_true rfl) (Nat.le_of_ble_eq_true rfl) dX2_faultOfArguments_118 hok
    refine lp70 _ ?_ FUEL σ1 0 x3 _ _ _ hok (lv_sub hl [0, 1, 2, 3, 4, 5] rfl) hP hD hS
    intro σ7 x8 x9 H locs ls hok hl hP hD hS
    refine lv_iconst (v := 0) hx hb dX2_faultOfArguments_137 (by decide) ?_
    exact yEnd S hr hlocks hP hD hS (Nat.le_of_ble_eq_true rfl) (Nat.le_of_ble_eq_true rfl) dX2_faultOfArguments_138 hok
  · have hok := hok.1 c_11
    refine lv_iconst (v := 1) hx hb dX2_faultOfArguments_14 (by decide) ?_
    refine lv_goto (tgt := 19) hx hb dX2_faultOfArguments_15 (by decide) ?_
    refine lv_istore_n (lv' := [(2, .int 1), (0, .ref (u 33)), (1, .int a1)]) hx hb dX2_faultOfArguments_19 rfl hl (by decide) rfl (fun ls hl => ?_)
    refine lv_aload_n hx hb dX2_faultOfArguments_20 rfl (lv_at hl 1 rfl) ?_
    refine xg (ci := 2) S inX2 rfl hK hP cW_34 1 (by decide) rfl kw_4_179 rfl dX2_faultOfArguments_21 ?_
    refine lv_iload_n hx hb dX2_faultOfArguments_24 rfl (lv_at hl 2 rfl) ?_
    refine yVi (As := [.int a1]) (cw := (cW o u cI cZ cJ T)) (ci := 5) S (v_X5_argumentsOf l D cI cZ cJ o u T ra ga σ a1 _ H.size hok) mi_X5_argumentsOf kw_2_22 rfl rfl ⟨Nat.le_of_ble_eq_true rfl, Nat.le_of_ble_eq_true rfl⟩ hP hD hK hS hA hB cW_13 rfl rfl hl.1 (Nat.le_of_ble_eq_true rfl) ⟨Nat.le_of_ble_eq_true rfl, Nat.le_of_ble_eq_true rfl⟩ dX2_faultOfArguments_25 (fun x11 σ10 H locs hok hz hP hD hS => ?_)
    refine lv_istore_n (lv' := [(3, .int x11), (2, .int 1), (0, .ref (u 33)), (1, .int a1)]) hx hb dX2_faultOfArguments_28 rfl hl (by decide) rfl (fun ls hl => ?_)
    refine lv_iload_n hx hb dX2_faultOfArguments_29 rfl (lv_at hl 1 rfl) ?_
    refine lv_if_eq (tgt := 56) hx hb dX2_faultOfArguments_30 (by decide) (fun c => absurd c (by decide)) (fun _ => ?_)
    refine lv_iload_n hx hb dX2_faultOfArguments_33 rfl (lv_at hl 0 rfl) ?_
    refine lv_aload_n hx hb dX2_faultOfArguments_34 rfl (lv_at hl 2 rfl) ?_
    refine xg (ci := 2) S inX2 rfl hK hP cW_34 0 (by decide) rfl kw_4_178 rfl dX2_faultOfArguments_35 ?_
    refine xg (ci := 1) S inX1 rfl hK hP cW_1 3 (by decide) rfl kw_3_224 rfl dX2_faultOfArguments_38 ?_
    refine lv_aload_n hx hb dX2_faultOfArguments_41 rfl (lv_at hl 2 rfl) ?_
    refine xg (ci := 2) S inX2 rfl hK hP cW_34 2 (by decide) rfl kw_4_180 rfl dX2_faultOfArguments_42 ?_
    refine xg (ci := 4) S inX4 rfl hK hP cW_20 6 (by decide) rfl kw_4_102 rfl dX2_faultOfArguments_45 ?_
    refine lv_iload_n hx hb dX2_faultOfArguments_48 rfl (lv_at hl 3 rfl) ?_
    have h_49 := hok.1
    have hok := hok.2
    refine xiald (t0 := 0) (v := (g σ10 25 a1)) S hK hP cW_25 rfl h_49 rfl dX2_faultOfArguments_49 ?_
    have h_50 := hok.1
    have hok := hok.2
    refine xiald (t0 := 0) (v := (g σ10 4 (g σ10 25 a1))) S hK hP cW_4 rfl h_50 rfl dX2_faultOfArguments_50 ?_
    refine lv_icmp_eq (tgt := 56) hx hb dX2_faultOfArguments_51 (by decide) (fun c_51 => ?_) (fun c_51 => ?_)
    · have hok := hok.1 c_51
      refine lv_aload_n hx hb dX2_faultOfArguments_56 rfl (lv_at hl 2 rfl) ?_
      refine xg (ci := 2) S inX2 rfl hK hP cW_34 1 (by decide) rfl kw_4_179 rfl dX2_faultOfArguments_57 ?_
      refine xg (ci := 5) S inX5 rfl hK hP cW_13 3 (by decide) rfl kw_4_52 rfl dX2_faultOfArguments_60 ?_
      refine lv_iload_n hx hb dX2_faultOfArguments_63 rfl (lv_at hl 3 rfl) ?_
      have h_64 := hok.1
      have hok := hok.2
      refine xiald (t0 := 0) (v := (g σ10 16 a1)) S hK hP cW_16 rfl h_64 rfl dX2_faultOfArguments_64 ?_
      refine lv_topi (fun x12 ex12 => ?_)
      have hok := hok x12 ex12
      refine lv_istore (lv' := [(4, .int x12), (3, .int x11), (2, .int 1), (0, .ref (u 33)), (1, .int a1)]) hx hb dX2_faultOfArguments_65 hl (by decide) rfl (fun ls hl => ?_)
      refine lv_iconst (v := 0) hx hb dX2_faultOfArguments_67 (by decide) ?_
      refine lv_istore (lv' := [(5, .int 0), (4, .int x12), (3, .int x11), (2, .int 1), (0, .ref (u 33)), (1, .int a1)]) hx hb dX2_faultOfArguments_68 hl (by decide) rfl (fun ls hl => ?_)
      have lp70 : ∀ (K : FS → Int32 → Int32 → Prop), (∀ (τ0 : FS) (l5_0 : Int32) (l4_0 : Int32) (H : Heap) (locs : List Loc) (ls : Array Slot), K τ0 l5_0 l4_0 → lv_has ls 6 [(5, .int l5_0), (4, .int l4_0), (3, .int x11), (2, .int 1), (0, .ref (u 33)), (1, .int a1)] → va_P D vwCl (cW o u cI cZ cJ T τ0) H → va_D A (cW o u cI cZ cJ T τ0) → va_S A s.heap H locs → W p l e ({ frames := 2, cells := 0, slots := 0, locals := 43 }) s m args below meth c H locs 0 0 (MQ below (yQi Φ D (cW o u cI cZ cJ T) A) args s 0 0 A) (F0 m 137 ls [])) → ∀ (n0 : Nat) (τ0 : FS) (l5_0 : Int32) (l4_0 : Int32) (H : Heap) (locs : List Loc) (ls : Array Slot), wp_X2_faultOfArguments_70_2 a1 x11 Φ K n0 τ0 l5_0 l4_0 → lv_has ls 6 [(5, .int l5_0), (4, .int l4_0), (3, .int x11), (2, .int 1), (0, .ref (u 33)), (1, .int a1)] → va_P D vwCl (cW o u cI cZ cJ T τ0) H → va_D A (cW o u cI cZ cJ T τ0) → va_S A s.heap H locs → W p l e ({ frames := 2, cells := 0, slots := 0, locals := 43 }) s m args below meth c H locs 0 0 (MQ below (yQi Φ D (cW o u cI cZ cJ T) A) args s 0 0 A) (F0 m 70 ls []) := by
        intro K hk n0
        induction n0 with
        | zero => intro τ0 l5_0 l4_0 H locs ls hok; exact False.elim hok
        | succ n0 ih70 =>
          intro τ0 l5_0 l4_0 H locs ls hok hl hP hD hS
          refine lv_iload hx hb dX2_faultOfArguments_70 (lv_at hl 0 rfl) ?_
          refine lv_iload_n hx hb dX2_faultOfArguments_72 rfl (lv_at hl 2 rfl) ?_
          refine lv_icmp_ge (tgt := 137) hx hb dX2_faultOfArguments_73 (by decide) (fun c_73 => ?_) (fun c_73 => ?_)
          · have hok := hok.1 c_73
            exact hk τ0 l5_0 l4_0 H locs ls hok (lv_sub hl [0, 1, 2, 3, 4, 5] rfl) hP hD hS
          · have hok := hok.2 c_73
            refine lv_iload hx hb dX2_faultOfArguments_76 (lv_at hl 1 rfl) ?_
            refine lv_iconst (v := (-1)) hx hb dX2_faultOfArguments_78 (by decide) ?_
            refine lv_icmp_eq (tgt := 137) hx hb dX2_faultOfArguments_79 (by decide) (fun c_79 => ?_) (fun c_79 => ?_)
            · have hok := hok.1 c_79
              exact hk τ0 l5_0 l4_0 H locs ls hok (lv_sub hl [0, 1, 2, 3, 4, 5] rfl) hP hD hS
            · have hok := hok.2 c_79
              refine lv_aload_n hx hb dX2_faultOfArguments_82 rfl (lv_at hl 4 rfl) ?_
              refine lv_aload_n hx hb dX2_faultOfArguments_83 rfl (lv_at hl 4 rfl) ?_
              refine xg (ci := 2) S inX2 rfl hK hP cW_34 1 (by decide) rfl kw_4_179 rfl dX2_faultOfArguments_84 ?_
              refine xg (ci := 5) S inX5 rfl hK hP cW_13 3 (by decide) rfl kw_4_52 rfl dX2_faultOfArguments_87 ?_
              refine lv_iload hx hb dX2_faultOfArguments_90 (lv_at hl 1 rfl) ?_
              have h_92 := hok.1
              have hok := hok.2
              refine xiald (t0 := 0) (v := (g τ0 16 l4_0)) S hK hP cW_16 rfl h_92 rfl dX2_faultOfArguments_92 ?_
              refine lv_iload_n hx hb dX2_faultOfArguments_93 rfl (lv_at hl 3 rfl) ?_
              refine lv_if_eq (tgt := 110) hx hb dX2_faultOfArguments_94 (by decide) (fun c => absurd c (by decide)) (fun _ => ?_)
              refine lv_aload_n hx hb dX2_faultOfArguments_97 rfl (lv_at hl 4 rfl) ?_
              refine xg (ci := 2) S inX2 rfl hK hP cW_34 2 (by decide) rfl kw_4_180 rfl dX2_faultOfArguments_98 ?_
              refine xg (ci := 4) S inX4 rfl hK hP cW_20 10 (by decide) rfl kw_4_115 rfl dX2_faultOfArguments_101 ?_
              refine lv_iload hx hb dX2_faultOfArguments_104 (lv_at hl 1 rfl) ?_
              have h_106 := hok.1
              have hok := hok.2
              refine xiald (t0 := 0) (v := (g τ0 29 l4_0)) S hK hP cW_29 rfl h_106 rfl dX2_faultOfArguments_106 ?_
              refine lv_goto (tgt := 111) hx hb dX2_faultOfArguments_107 (by decide) ?_
              refine yVi (As := [.int (g τ0 16 l4_0), .int (g τ0 29 l4_0)]) (cw := (cW o u cI cZ cJ T)) (ci := 2) S (v_X2_suits l D cI cZ cJ o u T ra ga τ0 (g τ0 16 l4_0) (g τ0 29 l4_0) _ H.size hok) mi_X2_suits kw_2_26 rfl rfl ⟨Nat.le_of_ble_eq_true rfl, Nat.le_of_ble_eq_true rfl⟩ hP hD hK hS hA hB cW_34 rfl rfl hl.1 (Nat.le_of_ble_eq_true rfl) ⟨Nat.le_of_ble_eq_true rfl, Nat.le_of_ble_eq_true rfl⟩ dX2_faultOfArguments_111 (fun x14 σ13 H locs hok hz hP hD hS => ?_)
              refine lv_if_ne (tgt := 119) hx hb dX2_faultOfArguments_114 (by decide) (fun c_114 => ?_) (fun c_114 => ?_)
              · have hok := hok.2 c_114
                refine lv_aload_n hx hb dX2_faultOfArguments_119 rfl (lv_at hl 4 rfl) ?_
                refine xg (ci := 2) S inX2 rfl hK hP cW_34 1 (by decide) rfl kw_4_179 rfl dX2_faultOfArguments_120 ?_
                refine xg (ci := 5) S inX5 rfl hK hP cW_13 4 (by decide) rfl kw_4_58 rfl dX2_faultOfArguments_123 ?_
                refine lv_iload hx hb dX2_faultOfArguments_126 (lv_at hl 1 rfl) ?_
                have h_128 := hok.1
                have hok := hok.2
                refine xiald (t0 := 0) (v := (g σ13 17 l4_0)) S hK hP cW_17 rfl h_128 rfl dX2_faultOfArguments_128 ?_
                refine lv_topi (fun x15 ex15 => ?_)
                have hok := hok x15 ex15
                refine lv_istore (lv' := [(4, .int x15), (5, .int l5_0), (3, .int x11), (2, .int 1), (0, .ref (u 33)), (1, .int a1)]) hx hb dX2_faultOfArguments_129 hl (by decide) rfl (fun ls hl => ?_)
                refine lv_iinc (v := l5_0 + 1) (lv' := [(5, .int (l5_0 + 1)), (4, .int x15), (3, .int x11), (2, .int 1), (0, .ref (u 33)), (1, .int a1)]) hx hb dX2_faultOfArguments_131 hl (k := 1) rfl rfl (by decide) rfl (fun ls hl => ?_)
                refine lv_goto (tgt := 70) hx hb dX2_faultOfArguments_134 (by decide) ?_
                exact ih70 σ13 (l5_0 + 1) x15 H locs ls hok (lv_sub hl [0, 1, 2, 3, 4, 5] rfl) hP hD hS
              · have hok := hok.1 c_114
                refine lv_iconst (v := 5) hx hb dX2_faultOfArguments_117 (by decide) ?_
                exact yEnd S hr hlocks hP hD hS (Nat.le_of_ble_eq_true rfl) (Nat.le_of_ble_eq_true rfl) dX2_faultOfArguments_118 hok
      refine lp70 _ ?_ FUEL σ10 0 x12 _ _ _ hok (lv_sub hl [0, 1, 2, 3, 4, 5] rfl) hP hD hS
      intro σ16 x17 x18 H locs ls hok hl hP hD hS
      refine lv_iconst (v := 0) hx hb dX2_faultOfArguments_137 (by decide) ?_
      exact yEnd S hr hlocks hP hD hS (Nat.le_of_ble_eq_true rfl) (Nat.le_of_ble_eq_true rfl) dX2_faultOfArguments_138 hok
    · have hok := hok.2 c_51
      refine lv_iconst (v := 4) hx hb dX2_faultOfArguments_54 (by decide) ?_
      exact yEnd S hr hlocks hP hD hS (Nat.le_of_ble_eq_true rfl) (Nat.le_of_ble_eq_true rfl) dX2_faultOfArguments_55 hok

set_option maxHeartbeats 8000000 in
set_option maxRecDepth 100000 in
theorem v_X2_isProc (l : Launch) (D : va_G) (cI cZ cJ : ClassId) (o : Nat) (u : Nat → Nat) (T : Nat) (ra : Nat → Nat) (ga : SG) (σ : FS) (a1 : Int32) (Φ : Int32 → FS → Prop) (sz : Nat) (hok : (wp_X2_isProc σ a1 Φ)) : Met l yX2_isProc (uW yX2_isProc cX2_isProc 1 (some .boolean)) ({ frames := 0, cells := 0, slots := 0, locals := 0 }) (va_Pc [.int a1] (aS ra ga D (tyL cI cZ cJ) (cW o u cI cZ cJ T σ) sz)) (yQi Φ D (cW o u cI cZ cJ T) (va_A (cW o u cI cZ cJ T σ) sz)) 0 0 (va_A (cW o u cI cZ cJ T σ) sz) := by
  refine aStart (lv := [(0, .int a1)]) (Qc := fun A => yQi Φ D (cW o u cI cZ cJ T) A) (by decide) (Nat.le_of_ble_eq_true rfl) rfl ?_
  intro p e s m args below meth c ls A H S hr hlocks hnm hl hK hP hD hS hA hB
  have hx := S.1
  have hb := S.2.1
  refine lv_iload_n hx hb dX2_isProc_0 rfl (lv_at hl 0 rfl) ?_
  refine lv_iconst (v := 5) hx hb dX2_isProc_1 (by decide) ?_
  refine lv_icmp_eq (tgt := 11) hx hb dX2_isProc_2 (by decide) (fun c_2 => ?_) (fun c_2 => ?_)
  · have hok := hok.1 c_2
    refine lv_iconst (v := 1) hx hb dX2_isProc_11 (by decide) ?_
    refine lv_goto (tgt := 16) hx hb dX2_isProc_12 (by decide) ?_
    exact yEndZ S hr hlocks hP hD hS (Nat.le_of_ble_eq_true rfl) (Nat.le_of_ble_eq_true rfl) dX2_isProc_16 rfl hok
  · have hok := hok.2 c_2
    refine lv_iload_n hx hb dX2_isProc_5 rfl (lv_at hl 0 rfl) ?_
    refine lv_bipush (v := 8) hx hb dX2_isProc_6 (by decide) ?_
    refine lv_icmp_ne (tgt := 15) hx hb dX2_isProc_8 (by decide) (fun c_8 => ?_) (fun c_8 => ?_)
    · have hok := hok.2 c_8
      refine lv_iconst (v := 0) hx hb dX2_isProc_15 (by decide) ?_
      exact yEndZ S hr hlocks hP hD hS (Nat.le_of_ble_eq_true rfl) (Nat.le_of_ble_eq_true rfl) dX2_isProc_16 rfl hok
    · have hok := hok.1 c_8
      refine lv_iconst (v := 1) hx hb dX2_isProc_11 (by decide) ?_
      refine lv_goto (tgt := 16) hx hb dX2_isProc_12 (by decide) ?_
      exact yEndZ S hr hlocks hP hD hS (Nat.le_of_ble_eq_true rfl) (Nat.le_of_ble_eq_true rfl) dX2_isProc_16 rfl hok

set_option maxHeartbeats 8000000 in
set_option maxRecDepth 100000 in
theorem v_X2_isAsItHasToBe (l : Launch) (D : va_G) (cI cZ cJ : ClassId) (o : Nat) (u : Nat → Nat) (T : Nat) (ra : Nat → Nat) (ga : SG) (σ : FS) (a1 : Int32) (Φ : Int32 → FS → Prop) (sz : Nat) (hok : (wp_X2_isAsItHasToBe σ a1 Φ)) : Met l yX2_isAsItHasToBe (uW yX2_isAsItHasToBe cX2_isAsItHasToBe 3 (some .boolean)) ({ frames := 1, cells := 0, slots := 0, locals := 22 }) (va_Pc [.ref (u 33), .int a1] (aS ra ga D (tyL cI cZ cJ) (cW o u cI cZ cJ T σ) sz)) (yQi Φ D (cW o u cI cZ cJ T) (va_A (cW o u cI cZ cJ T σ) sz)) 0 0 (va_A (cW o u cI cZ cJ T σ) sz) := by
  refine aStart (lv := [(0, .ref (u 33)), (1, .int a1)]) (Qc := fun A => yQi Φ D (cW o u cI cZ cJ T) A) (by decide) (Nat.le_of_ble_eq_true rfl) rfl ?_
  intro p e s m args below meth c ls A H S hr hlocks hnm hl hK hP hD hS hA hB
  have hx := S.1
  have hb := S.2.1
  refine lv_aload_n hx hb dX2_isAsItHasToBe_0 rfl (lv_at hl 0 rfl) ?_
  refine xg (ci := 2) S inX2 rfl hK hP cW_34 2 (by decide) rfl kw_4_180 rfl dX2_isAsItHasToBe_1 ?_
  refine xg (ci := 4) S inX4 rfl hK hP cW_20 5 (by decide) rfl kw_4_98 rfl dX2_isAsItHasToBe_4 ?_
  refine lv_iload_n hx hb dX2_isAsItHasToBe_7 rfl (lv_at hl 1 rfl) ?_
  have h_8 := hok.1
  have hok := hok.2
  refine xiald (t0 := 0) (v := (g σ 24 a1)) S hK hP cW_24 rfl h_8 rfl dX2_isAsItHasToBe_8 ?_
  refine lv_topi (fun x1 ex1 => ?_)
  have hok := hok x1 ex1
  refine lv_istore_n (lv' := [(2, .int x1), (0, .ref (u 33)), (1, .int a1)]) hx hb dX2_isAsItHasToBe_9 rfl hl (by decide) rfl (fun ls hl => ?_)
  refine lv_aload_n hx hb dX2_isAsItHasToBe_10 rfl (lv_at hl 1 rfl) ?_
  refine xg (ci := 2) S inX2 rfl hK hP cW_34 1 (by decide) rfl kw_4_179 rfl dX2_isAsItHasToBe_11 ?_
  refine xg (ci := 5) S inX5 rfl hK hP cW_13 1 (by decide) rfl kw_4_43 rfl dX2_isAsItHasToBe_14 ?_
  refine lv_iload_n hx hb dX2_isAsItHasToBe_17 rfl (lv_at hl 2 rfl) ?_
  have h_18 := hok.1
  have hok := hok.2
  refine xiald (t0 := 0) (v := (g σ 14 a1)) S hK hP cW_14 rfl h_18 rfl dX2_isAsItHasToBe_18 ?_
  refine lv_topi (fun x2 ex2 => ?_)
  have hok := hok x2 ex2
  by_cases k_19_0 : x2 = 1
  · have hok := hok.1 k_19_0
    rw [k_19_0]
    refine lv_lookup (off := 49) (tgt := 68) hx hb dX2_isAsItHasToBe_19 (by decide) (by decide) (by decide) ?_
    refine lv_iload_n hx hb dX2_isAsItHasToBe_68 rfl (lv_at hl 0 rfl) ?_
    refine ySi (As := [.int x1]) (cw := (cW o u cI cZ cJ T)) S (v_X2_isToBeSet l D cI cZ cJ o u T ra ga σ x1 _ H.size hok) ms_X2_isToBeSet kw_2_11 rfl rfl ⟨Nat.le_of_ble_eq_true rfl, Nat.le_of_ble_eq_true rfl⟩ hP hD hK hS hA hB hl.1 (Nat.le_of_ble_eq_true rfl) ⟨Nat.le_of_ble_eq_true rfl, Nat.le_of_ble_eq_true rfl⟩ dX2_isAsItHasToBe_69 (fun x4 σ3 H locs hok hz hP hD hS => ?_)
    refine lv_if_ne (tgt := 86) hx hb dX2_isAsItHasToBe_72 (by decide) (fun c_72 => ?_) (fun c_72 => ?_)
    · have hok := hok.2 c_72
      refine lv_iconst (v := 1) hx hb dX2_isAsItHasToBe_86 (by decide) ?_
      refine lv_goto (tgt := 91) hx hb dX2_isAsItHasToBe_87 (by decide) ?_
      exact yEndZ S hr hlocks hP hD hS (Nat.le_of_ble_eq_true rfl) (Nat.le_of_ble_eq_true rfl) dX2_isAsItHasToBe_91 rfl hok
    · have hok := hok.1 c_72
      refine lv_iload_n hx hb dX2_isAsItHasToBe_75 rfl (lv_at hl 0 rfl) ?_
      refine lv_bipush (v := 9) hx hb dX2_isAsItHasToBe_76 (by decide) ?_
      refine lv_icmp_eq (tgt := 86) hx hb dX2_isAsItHasToBe_78 (by decide) (fun c_78 => ?_) (fun c_78 => ?_)
      · have hok := hok.1 c_78
        refine lv_iconst (v := 1) hx hb dX2_isAsItHasToBe_86 (by decide) ?_
        refine lv_goto (tgt := 91) hx hb dX2_isAsItHasToBe_87 (by decide) ?_
        exact yEndZ S hr hlocks hP hD hS (Nat.le_of_ble_eq_true rfl) (Nat.le_of_ble_eq_true rfl) dX2_isAsItHasToBe_91 rfl hok
      · have hok := hok.2 c_78
        refine lv_iload_n hx hb dX2_isAsItHasToBe_81 rfl (lv_at hl 0 rfl) ?_
        refine lv_iconst (v := 2) hx hb dX2_isAsItHasToBe_82 (by decide) ?_
        refine lv_icmp_ne (tgt := 90) hx hb dX2_isAsItHasToBe_83 (by decide) (fun c_83 => ?_) (fun c_83 => ?_)
        · have hok := hok.2 c_83
          refine lv_iconst (v := 0) hx hb dX2_isAsItHasToBe_90 (by decide) ?_
          exact yEndZ S hr hlocks hP hD hS (Nat.le_of_ble_eq_true rfl) (Nat.le_of_ble_eq_true rfl) dX2_isAsItHasToBe_91 rfl hok
        · have hok := hok.1 c_83
          refine lv_iconst (v := 1) hx hb dX2_isAsItHasToBe_86 (by decide) ?_
          refine lv_goto (tgt := 91) hx hb dX2_isAsItHasToBe_87 (by decide) ?_
          exact yEndZ S hr hlocks hP hD hS (Nat.le_of_ble_eq_true rfl) (Nat.le_of_ble_eq_true rfl) dX2_isAsItHasToBe_91 rfl hok
  · have hok := hok.2 k_19_0
    by_cases k_19_1 : x2 = 8
    · have hok := hok.1 k_19_1
      rw [k_19_1]
      refine lv_lookup (off := 78) (tgt := 97) hx hb dX2_isAsItHasToBe_19 (by decide) (by decide) (by decide) ?_
      refine lv_iload_n hx hb dX2_isAsItHasToBe_97 rfl (lv_at hl 0 rfl) ?_
      refine lv_bipush (v := 10) hx hb dX2_isAsItHasToBe_98 (by decide) ?_
      refine lv_icmp_eq (tgt := 110) hx hb dX2_isAsItHasToBe_100 (by decide) (fun c_100 => ?_) (fun c_100 => ?_)
      · have hok := hok.1 c_100
        refine lv_iconst (v := 1) hx hb dX2_isAsItHasToBe_110 (by decide) ?_
        refine lv_goto (tgt := 115) hx hb dX2_isAsItHasToBe_111 (by decide) ?_
        exact yEndZ S hr hlocks hP hD hS (Nat.le_of_ble_eq_true rfl) (Nat.le_of_ble_eq_true rfl) dX2_isAsItHasToBe_115 rfl hok
      · have hok := hok.2 c_100
        refine lv_iload_n hx hb dX2_isAsItHasToBe_103 rfl (lv_at hl 0 rfl) ?_
        refine ySi (As := [.int x1]) (cw := (cW o u cI cZ cJ T)) S (v_X2_isProc l D cI cZ cJ o u T ra ga σ x1 _ H.size hok) ms_X2_isProc kw_2_14 rfl rfl ⟨Nat.le_of_ble_eq_true rfl, Nat.le_of_ble_eq_true rfl⟩ hP hD hK hS hA hB hl.1 (Nat.le_of_ble_eq_true rfl) ⟨Nat.le_of_ble_eq_true rfl, Nat.le_of_ble_eq_true rfl⟩ dX2_isAsItHasToBe_104 (fun x6 σ5 H locs hok hz hP hD hS => ?_)
        refine lv_if_eq (tgt := 114) hx hb dX2_isAsItHasToBe_107 (by decide) (fun c_107 => ?_) (fun c_107 => ?_)
        · have hok := hok.1 c_107
          refine lv_iconst (v := 0) hx hb dX2_isAsItHasToBe_114 (by decide) ?_
          exact yEndZ S hr hlocks hP hD hS (Nat.le_of_ble_eq_true rfl) (Nat.le_of_ble_eq_true rfl) dX2_isAsItHasToBe_115 rfl hok
        · have hok := hok.2 c_107
          refine lv_iconst (v := 1) hx hb dX2_isAsItHasToBe_110 (by decide) ?_
          refine lv_goto (tgt := 115) hx hb dX2_isAsItHasToBe_111 (by decide) ?_
          exact yEndZ S hr hlocks hP hD hS (Nat.le_of_ble_eq_true rfl) (Nat.le_of_ble_eq_true rfl) dX2_isAsItHasToBe_115 rfl hok
    · have hok := hok.2 k_19_1
      by_cases k_19_2 : x2 = 10
      · have hok := hok.1 k_19_2
        rw [k_19_2]
        refine lv_lookup (off := 97) (tgt := 116) hx hb dX2_isAsItHasToBe_19 (by decide) (by decide) (by decide) ?_
        refine lv_iload_n hx hb dX2_isAsItHasToBe_116 rfl (lv_at hl 0 rfl) ?_
        refine ySi (As := [.int x1]) (cw := (cW o u cI cZ cJ T)) S (v_X2_isProc l D cI cZ cJ o u T ra ga σ x1 _ H.size hok) ms_X2_isProc kw_2_14 rfl rfl ⟨Nat.le_of_ble_eq_true rfl, Nat.le_of_ble_eq_true rfl⟩ hP hD hK hS hA hB hl.1 (Nat.le_of_ble_eq_true rfl) ⟨Nat.le_of_ble_eq_true rfl, Nat.le_of_ble_eq_true rfl⟩ dX2_isAsItHasToBe_117 (fun x8 σ7 H locs hok hz hP hD hS => ?_)
        refine lv_if_ne (tgt := 148) hx hb dX2_isAsItHasToBe_120 (by decide) (fun c_120 => ?_) (fun c_120 => ?_)
        · have hok := hok.2 c_120
          refine lv_iconst (v := 1) hx hb dX2_isAsItHasToBe_148 (by decide) ?_
          refine lv_goto (tgt := 153) hx hb dX2_isAsItHasToBe_149 (by decide) ?_
          exact yEndZ S hr hlocks hP hD hS (Nat.le_of_ble_eq_true rfl) (Nat.le_of_ble_eq_true rfl) dX2_isAsItHasToBe_153 rfl hok
        · have hok := hok.1 c_120
          refine lv_iload_n hx hb dX2_isAsItHasToBe_123 rfl (lv_at hl 0 rfl) ?_
          refine lv_bipush (v := 10) hx hb dX2_isAsItHasToBe_124 (by decide) ?_
          refine lv_icmp_ne (tgt := 152) hx hb dX2_isAsItHasToBe_126 (by decide) (fun c_126 => ?_) (fun c_126 => ?_)
          · have hok := hok.2 c_126
            refine lv_iconst (v := 0) hx hb dX2_isAsItHasToBe_152 (by decide) ?_
            exact yEndZ S hr hlocks hP hD hS (Nat.le_of_ble_eq_true rfl) (Nat.le_of_ble_eq_true rfl) dX2_isAsItHasToBe_153 rfl hok
          · have hok := hok.1 c_126
            refine lv_aload_n hx hb dX2_isAsItHasToBe_129 rfl (lv_at hl 1 rfl) ?_
            refine xg (ci := 2) S inX2 rfl hK hP cW_34 0 (by decide) rfl kw_4_178 rfl dX2_isAsItHasToBe_130 ?_
            refine lv_aload_n hx hb dX2_isAsItHasToBe_133 rfl (lv_at hl 1 rfl) ?_
            refine xg (ci := 2) S inX2 rfl hK hP cW_34 2 (by decide) rfl kw_4_180 rfl dX2_isAsItHasToBe_134 ?_
            refine xg (ci := 4) S inX4 rfl hK hP cW_20 6 (by decide) rfl kw_4_102 rfl dX2_isAsItHasToBe_137 ?_
            refine lv_iload_n hx hb dX2_isAsItHasToBe_140 rfl (lv_at hl 2 rfl) ?_
            have h_141 := hok.1
            have hok := hok.2
            refine xiald (t0 := 0) (v := (g σ7 25 a1)) S hK hP cW_25 rfl h_141 rfl dX2_isAsItHasToBe_141 ?_
            refine yVi (As := [.int (g σ7 25 a1)]) (cw := (cW o u cI cZ cJ T)) (ci := 1) S (v_X1_takesValuesAlone l D cI cZ cJ o u T ra ga σ7 (g σ7 25 a1) _ H.size hok) mi_X1_takesValuesAlone kw_2_17 rfl rfl ⟨Nat.le_of_ble_eq_true rfl, Nat.le_of_ble_eq_true rfl⟩ hP hD hK hS hA hB cW_1 rfl rfl hl.1 (Nat.le_of_ble_eq_true rfl) ⟨Nat.le_of_ble_eq_true rfl, Nat.le_of_ble_eq_true rfl⟩ dX2_isAsItHasToBe_142 (fun x10 σ9 H locs hok hz hP hD hS => ?_)
            refine lv_if_eq (tgt := 152) hx hb dX2_isAsItHasToBe_145 (by decide) (fun c_145 => ?_) (fun c_145 => ?_)
            · have hok := hok.1 c_145
              refine lv_iconst (v := 0) hx hb dX2_isAsItHasToBe_152 (by decide) ?_
              exact yEndZ S hr hlocks hP hD hS (Nat.le_of_ble_eq_true rfl) (Nat.le_of_ble_eq_true rfl) dX2_isAsItHasToBe_153 rfl hok
            · have hok := hok.2 c_145
              refine lv_iconst (v := 1) hx hb dX2_isAsItHasToBe_148 (by decide) ?_
              refine lv_goto (tgt := 153) hx hb dX2_isAsItHasToBe_149 (by decide) ?_
              exact yEndZ S hr hlocks hP hD hS (Nat.le_of_ble_eq_true rfl) (Nat.le_of_ble_eq_true rfl) dX2_isAsItHasToBe_153 rfl hok
      · have hok := hok.2 k_19_2
        by_cases k_19_3 : x2 = 13
        · have hok := hok.1 k_19_3
          rw [k_19_3]
          refine lv_lookup (off := 73) (tgt := 92) hx hb dX2_isAsItHasToBe_19 (by decide) (by decide) (by decide) ?_
          refine lv_iload_n hx hb dX2_isAsItHasToBe_92 rfl (lv_at hl 0 rfl) ?_
          refine ySi (As := [.int x1]) (cw := (cW o u cI cZ cJ T)) S (v_X2_isToBeSet l D cI cZ cJ o u T ra ga σ x1 _ H.size hok) ms_X2_isToBeSet kw_2_11 rfl rfl ⟨Nat.le_of_ble_eq_true rfl, Nat.le_of_ble_eq_true rfl⟩ hP hD hK hS hA hB hl.1 (Nat.le_of_ble_eq_true rfl) ⟨Nat.le_of_ble_eq_true rfl, Nat.le_of_ble_eq_true rfl⟩ dX2_isAsItHasToBe_93 (fun x12 σ11 H locs hok hz hP hD hS => ?_)
          exact yEndZ S hr hlocks hP hD hS (Nat.le_of_ble_eq_true rfl) (Nat.le_of_ble_eq_true rfl) dX2_isAsItHasToBe_96 (bZ_nar hok.1) hok.2
        · have hok := hok.2 k_19_3
          by_cases k_19_4 : x2 = 21
          · have hok := hok.1 k_19_4
            rw [k_19_4]
            refine lv_lookup (off := 135) (tgt := 154) hx hb dX2_isAsItHasToBe_19 (by decide) (by decide) (by decide) ?_
            refine lv_iload_n hx hb dX2_isAsItHasToBe_154 rfl (lv_at hl 0 rfl) ?_
            refine lv_bipush (v := 8) hx hb dX2_isAsItHasToBe_155 (by decide) ?_
            refine lv_icmp_ne (tgt := 164) hx hb dX2_isAsItHasToBe_157 (by decide) (fun c_157 => ?_) (fun c_157 => ?_)
            · have hok := hok.2 c_157
              refine lv_iconst (v := 0) hx hb dX2_isAsItHasToBe_164 (by decide) ?_
              exact yEndZ S hr hlocks hP hD hS (Nat.le_of_ble_eq_true rfl) (Nat.le_of_ble_eq_true rfl) dX2_isAsItHasToBe_165 rfl hok
            · have hok := hok.1 c_157
              refine lv_iconst (v := 1) hx hb dX2_isAsItHasToBe_160 (by decide) ?_
              refine lv_goto (tgt := 165) hx hb dX2_isAsItHasToBe_161 (by decide) ?_
              exact yEndZ S hr hlocks hP hD hS (Nat.le_of_ble_eq_true rfl) (Nat.le_of_ble_eq_true rfl) dX2_isAsItHasToBe_165 rfl hok
          · have hok := hok.2 k_19_4
            have q_19_0 := sw_ni k_19_0 (z := 1) (by decide)
            have q_19_1 := sw_ni k_19_1 (z := 8) (by decide)
            have q_19_2 := sw_ni k_19_2 (z := 10) (by decide)
            have q_19_3 := sw_ni k_19_3 (z := 13) (by decide)
            have q_19_4 := sw_ni k_19_4 (z := 21) (by decide)
            refine lv_lookup (off := 147) (tgt := 166) hx hb dX2_isAsItHasToBe_19 (by decide) (by show (if (1 : Int) = x2.toInt then (49 : Int) else if (8 : Int) = x2.toInt then (78 : Int) else if (10 : Int) = x2.toInt then (97 : Int) else if (13 : Int) = x2.toInt then (73 : Int) else if (21 : Int) = x2.toInt then (135 : Int) else 147) = 147; rw [if_neg (fun h => q_19_0 h.symm), if_neg (fun h => q_19_1 h.symm), if_neg (fun h => q_19_2 h.symm), if_neg (fun h => q_19_3 h.symm), if_neg (fun h => q_19_4 h.symm)]) (by decide) ?_
            refine lv_iload_n hx hb dX2_isAsItHasToBe_166 rfl (lv_at hl 0 rfl) ?_
            refine lv_bipush (v := 7) hx hb dX2_isAsItHasToBe_167 (by decide) ?_
            refine lv_icmp_eq (tgt := 182) hx hb dX2_isAsItHasToBe_169 (by decide) (fun c_169 => ?_) (fun c_169 => ?_)
            · have hok := hok.1 c_169
              refine lv_iconst (v := 1) hx hb dX2_isAsItHasToBe_182 (by decide) ?_
              refine lv_goto (tgt := 187) hx hb dX2_isAsItHasToBe_183 (by decide) ?_
              exact yEndZ S hr hlocks hP hD hS (Nat.le_of_ble_eq_true rfl) (Nat.le_of_ble_eq_true rfl) dX2_isAsItHasToBe_187 rfl hok
            · have hok := hok.2 c_169
              refine lv_iload_n hx hb dX2_isAsItHasToBe_172 rfl (lv_at hl 0 rfl) ?_
              refine lv_iconst (v := 3) hx hb dX2_isAsItHasToBe_173 (by decide) ?_
              refine lv_icmp_eq (tgt := 182) hx hb dX2_isAsItHasToBe_174 (by decide) (fun c_174 => ?_) (fun c_174 => ?_)
              · have hok := hok.1 c_174
                refine lv_iconst (v := 1) hx hb dX2_isAsItHasToBe_182 (by decide) ?_
                refine lv_goto (tgt := 187) hx hb dX2_isAsItHasToBe_183 (by decide) ?_
                exact yEndZ S hr hlocks hP hD hS (Nat.le_of_ble_eq_true rfl) (Nat.le_of_ble_eq_true rfl) dX2_isAsItHasToBe_187 rfl hok
              · have hok := hok.2 c_174
                refine lv_iload_n hx hb dX2_isAsItHasToBe_177 rfl (lv_at hl 0 rfl) ?_
                refine lv_iconst (v := 4) hx hb dX2_isAsItHasToBe_178 (by decide) ?_
                refine lv_icmp_ne (tgt := 186) hx hb dX2_isAsItHasToBe_179 (by decide) (fun c_179 => ?_) (fun c_179 => ?_)
                · have hok := hok.2 c_179
                  refine lv_iconst (v := 0) hx hb dX2_isAsItHasToBe_186 (by decide) ?_
                  exact yEndZ S hr hlocks hP hD hS (Nat.le_of_ble_eq_true rfl) (Nat.le_of_ble_eq_true rfl) dX2_isAsItHasToBe_187 rfl hok
                · have hok := hok.1 c_179
                  refine lv_iconst (v := 1) hx hb dX2_isAsItHasToBe_182 (by decide) ?_
                  refine lv_goto (tgt := 187) hx hb dX2_isAsItHasToBe_183 (by decide) ?_
                  exact yEndZ S hr hlocks hP hD hS (Nat.le_of_ble_eq_true rfl) (Nat.le_of_ble_eq_true rfl) dX2_isAsItHasToBe_187 rfl hok

set_option maxHeartbeats 8000000 in
set_option maxRecDepth 100000 in
theorem v_X2_faultOf (l : Launch) (D : va_G) (cI cZ cJ : ClassId) (o : Nat) (u : Nat → Nat) (T : Nat) (ra : Nat → Nat) (ga : SG) (σ : FS) (a1 : Int32) (Φ : Int32 → FS → Prop) (sz : Nat) (hok : (wp_X2_faultOf σ a1 Φ)) : Met l yX2_faultOf (uW yX2_faultOf cX2_faultOf 4 (some .int)) ({ frames := 3, cells := 0, slots := 0, locals := 68 }) (va_Pc [.ref (u 33), .int a1] (aS ra ga D (tyL cI cZ cJ) (cW o u cI cZ cJ T σ) sz)) (yQi Φ D (cW o u cI cZ cJ T) (va_A (cW o u cI cZ cJ T σ) sz)) 0 0 (va_A (cW o u cI cZ cJ T σ) sz) := by
  refine aStart (lv := [(0, .ref (u 33)), (1, .int a1)]) (Qc := fun A => yQi Φ D (cW o u cI cZ cJ T) A) (by decide) (Nat.le_of_ble_eq_true rfl) rfl ?_
  intro p e s m args below meth c ls A H S hr hlocks hnm hl hK hP hD hS hA hB
  have hx := S.1
  have hb := S.2.1
  refine lv_aload_n hx hb dX2_faultOf_0 rfl (lv_at hl 0 rfl) ?_
  refine xg (ci := 2) S inX2 rfl hK hP cW_34 1 (by decide) rfl kw_4_179 rfl dX2_faultOf_1 ?_
  refine xg (ci := 5) S inX5 rfl hK hP cW_13 1 (by decide) rfl kw_4_43 rfl dX2_faultOf_4 ?_
  refine lv_iload_n hx hb dX2_faultOf_7 rfl (lv_at hl 1 rfl) ?_
  have h_8 := hok.1
  have hok := hok.2
  refine xiald (t0 := 0) (v := (g σ 14 a1)) S hK hP cW_14 rfl h_8 rfl dX2_faultOf_8 ?_
  refine lv_topi (fun x1 ex1 => ?_)
  have hok := hok x1 ex1
  refine lv_istore_n (lv' := [(2, .int x1), (0, .ref (u 33)), (1, .int a1)]) hx hb dX2_faultOf_9 rfl hl (by decide) rfl (fun ls hl => ?_)
  refine lv_aload_n hx hb dX2_faultOf_10 rfl (lv_at hl 1 rfl) ?_
  refine xg (ci := 2) S inX2 rfl hK hP cW_34 1 (by decide) rfl kw_4_179 rfl dX2_faultOf_11 ?_
  refine lv_iload_n hx hb dX2_faultOf_14 rfl (lv_at hl 2 rfl) ?_
  refine yVi (As := [.int a1]) (cw := (cW o u cI cZ cJ T)) (ci := 5) S (v_X5_hasName l D cI cZ cJ o u T ra ga σ a1 _ H.size hok) mi_X5_hasName kw_2_6 rfl rfl ⟨Nat.le_of_ble_eq_true rfl, Nat.le_of_ble_eq_true rfl⟩ hP hD hK hS hA hB cW_13 rfl rfl hl.1 (Nat.le_of_ble_eq_true rfl) ⟨Nat.le_of_ble_eq_true rfl, Nat.le_of_ble_eq_true rfl⟩ dX2_faultOf_15 (fun x3 σ2 H locs hok hz hP hD hS => ?_)
  refine lv_if_eq (tgt := 67) hx hb dX2_faultOf_18 (by decide) (fun c_18 => ?_) (fun c_18 => ?_)
  · have hok := hok.1 c_18
    refine lv_iload_n hx hb dX2_faultOf_67 rfl (lv_at hl 0 rfl) ?_
    refine lv_bipush (v := 8) hx hb dX2_faultOf_68 (by decide) ?_
    refine lv_icmp_ne (tgt := 79) hx hb dX2_faultOf_70 (by decide) (fun c_70 => ?_) (fun c_70 => ?_)
    · have hok := hok.2 c_70
      refine lv_iload_n hx hb dX2_faultOf_79 rfl (lv_at hl 0 rfl) ?_
      refine lv_bipush (v := 17) hx hb dX2_faultOf_80 (by decide) ?_
      refine lv_icmp_ne (tgt := 103) hx hb dX2_faultOf_82 (by decide) (fun c_82 => ?_) (fun c_82 => ?_)
      · have hok := hok.2 c_82
        refine lv_iconst (v := 0) hx hb dX2_faultOf_103 (by decide) ?_
        exact yEnd S hr hlocks hP hD hS (Nat.le_of_ble_eq_true rfl) (Nat.le_of_ble_eq_true rfl) dX2_faultOf_104 hok
      · have hok := hok.1 c_82
        refine lv_aload_n hx hb dX2_faultOf_85 rfl (lv_at hl 1 rfl) ?_
        refine xg (ci := 2) S inX2 rfl hK hP cW_34 2 (by decide) rfl kw_4_180 rfl dX2_faultOf_86 ?_
        refine xg (ci := 4) S inX4 rfl hK hP cW_20 11 (by decide) rfl kw_4_117 rfl dX2_faultOf_89 ?_
        refine lv_iload_n hx hb dX2_faultOf_92 rfl (lv_at hl 2 rfl) ?_
        have h_93 := hok.1
        have hok := hok.2
        refine xiald (t0 := 0) (v := (g σ2 30 a1)) S hK hP cW_30 rfl h_93 rfl dX2_faultOf_93 ?_
        refine lv_iconst (v := (-1)) hx hb dX2_faultOf_94 (by decide) ?_
        refine lv_icmp_ne (tgt := 103) hx hb dX2_faultOf_95 (by decide) (fun c_95 => ?_) (fun c_95 => ?_)
        · have hok := hok.2 c_95
          refine lv_iconst (v := 0) hx hb dX2_faultOf_103 (by decide) ?_
          exact yEnd S hr hlocks hP hD hS (Nat.le_of_ble_eq_true rfl) (Nat.le_of_ble_eq_true rfl) dX2_faultOf_104 hok
        · have hok := hok.1 c_95
          refine lv_bipush (v := 6) hx hb dX2_faultOf_98 (by decide) ?_
          refine lv_goto (tgt := 104) hx hb dX2_faultOf_100 (by decide) ?_
          exact yEnd S hr hlocks hP hD hS (Nat.le_of_ble_eq_true rfl) (Nat.le_of_ble_eq_true rfl) dX2_faultOf_104 hok
    · have hok := hok.1 c_70
      refine lv_aload_n hx hb dX2_faultOf_73 rfl (lv_at hl 1 rfl) ?_
      refine lv_iload_n hx hb dX2_faultOf_74 rfl (lv_at hl 2 rfl) ?_
      refine yVi (As := [.int a1]) (cw := (cW o u cI cZ cJ T)) (ci := 2) S (v_X2_faultOfArguments l D cI cZ cJ o u T ra ga σ2 a1 _ H.size hok) mi_X2_faultOfArguments kw_2_18 rfl rfl ⟨Nat.le_of_ble_eq_true rfl, Nat.le_of_ble_eq_true rfl⟩ hP hD hK hS hA hB cW_34 rfl rfl hl.1 (Nat.le_of_ble_eq_true rfl) ⟨Nat.le_of_ble_eq_true rfl, Nat.le_of_ble_eq_true rfl⟩ dX2_faultOf_75 (fun x5 σ4 H locs hok hz hP hD hS => ?_)
      exact yEnd S hr hlocks hP hD hS (Nat.le_of_ble_eq_true rfl) (Nat.le_of_ble_eq_true rfl) dX2_faultOf_78 hok
  · have hok := hok.2 c_18
    refine lv_aload_n hx hb dX2_faultOf_21 rfl (lv_at hl 1 rfl) ?_
    refine xg (ci := 2) S inX2 rfl hK hP cW_34 2 (by decide) rfl kw_4_180 rfl dX2_faultOf_22 ?_
    refine xg (ci := 4) S inX4 rfl hK hP cW_20 5 (by decide) rfl kw_4_98 rfl dX2_faultOf_25 ?_
    refine lv_iload_n hx hb dX2_faultOf_28 rfl (lv_at hl 2 rfl) ?_
    have h_29 := hok.1
    have hok := hok.2
    refine xiald (t0 := 0) (v := (g σ2 24 a1)) S hK hP cW_24 rfl h_29 rfl dX2_faultOf_29 ?_
    refine lv_topi (fun x6 ex6 => ?_)
    have hok := hok x6 ex6
    refine lv_istore_n (lv' := [(3, .int x6), (2, .int x1), (0, .ref (u 33)), (1, .int a1)]) hx hb dX2_faultOf_30 rfl hl (by decide) rfl (fun ls hl => ?_)
    refine lv_iload_n hx hb dX2_faultOf_31 rfl (lv_at hl 0 rfl) ?_
    refine lv_iconst (v := (-1)) hx hb dX2_faultOf_32 (by decide) ?_
    refine lv_icmp_ne (tgt := 38) hx hb dX2_faultOf_33 (by decide) (fun c_33 => ?_) (fun c_33 => ?_)
    · have hok := hok.2 c_33
      refine lv_iload_n hx hb dX2_faultOf_38 rfl (lv_at hl 1 rfl) ?_
      refine lv_bipush (v := 13) hx hb dX2_faultOf_39 (by decide) ?_
      refine lv_icmp_ne (tgt := 57) hx hb dX2_faultOf_41 (by decide) (fun c_41 => ?_) (fun c_41 => ?_)
      · have hok := hok.2 c_41
        refine lv_aload_n hx hb dX2_faultOf_57 rfl (lv_at hl 2 rfl) ?_
        refine lv_iload_n hx hb dX2_faultOf_58 rfl (lv_at hl 3 rfl) ?_
        refine yVi (As := [.int a1]) (cw := (cW o u cI cZ cJ T)) (ci := 2) S (v_X2_isAsItHasToBe l D cI cZ cJ o u T ra ga σ2 a1 _ H.size hok) mi_X2_isAsItHasToBe kw_2_7 rfl rfl ⟨Nat.le_of_ble_eq_true rfl, Nat.le_of_ble_eq_true rfl⟩ hP hD hK hS hA hB cW_34 rfl rfl hl.1 (Nat.le_of_ble_eq_true rfl) ⟨Nat.le_of_ble_eq_true rfl, Nat.le_of_ble_eq_true rfl⟩ dX2_faultOf_59 (fun x8 σ7 H locs hok hz hP hD hS => ?_)
        refine lv_if_ne (tgt := 67) hx hb dX2_faultOf_62 (by decide) (fun c_62 => ?_) (fun c_62 => ?_)
        · have hok := hok.2 c_62
          refine lv_iload_n hx hb dX2_faultOf_67 rfl (lv_at hl 1 rfl) ?_
          refine lv_bipush (v := 8) hx hb dX2_faultOf_68 (by decide) ?_
          refine lv_icmp_ne (tgt := 79) hx hb dX2_faultOf_70 (by decide) (fun c_70 => ?_) (fun c_70 => ?_)
          · have hok := hok.2 c_70
            refine lv_iload_n hx hb dX2_faultOf_79 rfl (lv_at hl 1 rfl) ?_
            refine lv_bipush (v := 17) hx hb dX2_faultOf_80 (by decide) ?_
            refine lv_icmp_ne (tgt := 103) hx hb dX2_faultOf_82 (by decide) (fun c_82 => ?_) (fun c_82 => ?_)
            · have hok := hok.2 c_82
              refine lv_iconst (v := 0) hx hb dX2_faultOf_103 (by decide) ?_
              exact yEnd S hr hlocks hP hD hS (Nat.le_of_ble_eq_true rfl) (Nat.le_of_ble_eq_true rfl) dX2_faultOf_104 hok
            · have hok := hok.1 c_82
              refine lv_aload_n hx hb dX2_faultOf_85 rfl (lv_at hl 2 rfl) ?_
              refine xg (ci := 2) S inX2 rfl hK hP cW_34 2 (by decide) rfl kw_4_180 rfl dX2_faultOf_86 ?_
              refine xg (ci := 4) S inX4 rfl hK hP cW_20 11 (by decide) rfl kw_4_117 rfl dX2_faultOf_89 ?_
              refine lv_iload_n hx hb dX2_faultOf_92 rfl (lv_at hl 3 rfl) ?_
              have h_93 := hok.1
              have hok := hok.2
              refine xiald (t0 := 0) (v := (g σ7 30 a1)) S hK hP cW_30 rfl h_93 rfl dX2_faultOf_93 ?_
              refine lv_iconst (v := (-1)) hx hb dX2_faultOf_94 (by decide) ?_
              refine lv_icmp_ne (tgt := 103) hx hb dX2_faultOf_95 (by decide) (fun c_95 => ?_) (fun c_95 => ?_)
              · have hok := hok.2 c_95
                refine lv_iconst (v := 0) hx hb dX2_faultOf_103 (by decide) ?_
                exact yEnd S hr hlocks hP hD hS (Nat.le_of_ble_eq_true rfl) (Nat.le_of_ble_eq_true rfl) dX2_faultOf_104 hok
              · have hok := hok.1 c_95
                refine lv_bipush (v := 6) hx hb dX2_faultOf_98 (by decide) ?_
                refine lv_goto (tgt := 104) hx hb dX2_faultOf_100 (by decide) ?_
                exact yEnd S hr hlocks hP hD hS (Nat.le_of_ble_eq_true rfl) (Nat.le_of_ble_eq_true rfl) dX2_faultOf_104 hok
          · have hok := hok.1 c_70
            refine lv_aload_n hx hb dX2_faultOf_73 rfl (lv_at hl 2 rfl) ?_
            refine lv_iload_n hx hb dX2_faultOf_74 rfl (lv_at hl 3 rfl) ?_
            refine yVi (As := [.int a1]) (cw := (cW o u cI cZ cJ T)) (ci := 2) S (v_X2_faultOfArguments l D cI cZ cJ o u T ra ga σ7 a1 _ H.size hok) mi_X2_faultOfArguments kw_2_18 rfl rfl ⟨Nat.le_of_ble_eq_true rfl, Nat.le_of_ble_eq_true rfl⟩ hP hD hK hS hA hB cW_34 rfl rfl hl.1 (Nat.le_of_ble_eq_true rfl) ⟨Nat.le_of_ble_eq_true rfl, Nat.le_of_ble_eq_true rfl⟩ dX2_faultOf_75 (fun x10 σ9 H locs hok hz hP hD hS => ?_)
            exact yEnd S hr hlocks hP hD hS (Nat.le_of_ble_eq_true rfl) (Nat.le_of_ble_eq_true rfl) dX2_faultOf_78 hok
        · have hok := hok.1 c_62
          refine lv_iconst (v := 2) hx hb dX2_faultOf_65 (by decide) ?_
          exact yEnd S hr hlocks hP hD hS (Nat.le_of_ble_eq_true rfl) (Nat.le_of_ble_eq_true rfl) dX2_faultOf_66 hok
      · have hok := hok.1 c_41
        refine lv_iload_n hx hb dX2_faultOf_44 rfl (lv_at hl 0 rfl) ?_
        refine lv_bipush (v := 9) hx hb dX2_faultOf_45 (by decide) ?_
        refine lv_icmp_eq (tgt := 55) hx hb dX2_faultOf_47 (by decide) (fun c_47 => ?_) (fun c_47 => ?_)
        · have hok := hok.1 c_47
          refine lv_iconst (v := 3) hx hb dX2_faultOf_55 (by decide) ?_
          exact yEnd S hr hlocks hP hD hS (Nat.le_of_ble_eq_true rfl) (Nat.le_of_ble_eq_true rfl) dX2_faultOf_56 hok
        · have hok := hok.2 c_47
          refine lv_iload_n hx hb dX2_faultOf_50 rfl (lv_at hl 0 rfl) ?_
          refine lv_iconst (v := 2) hx hb dX2_faultOf_51 (by decide) ?_
          refine lv_icmp_ne (tgt := 57) hx hb dX2_faultOf_52 (by decide) (fun c_52 => ?_) (fun c_52 => ?_)
          · have hok := hok.2 c_52
            refine lv_aload_n hx hb dX2_faultOf_57 rfl (lv_at hl 2 rfl) ?_
            refine lv_iload_n hx hb dX2_faultOf_58 rfl (lv_at hl 3 rfl) ?_
            refine yVi (As := [.int a1]) (cw := (cW o u cI cZ cJ T)) (ci := 2) S (v_X2_isAsItHasToBe l D cI cZ cJ o u T ra ga σ2 a1 _ H.size hok) mi_X2_isAsItHasToBe kw_2_7 rfl rfl ⟨Nat.le_of_ble_eq_true rfl, Nat.le_of_ble_eq_true rfl⟩ hP hD hK hS hA hB cW_34 rfl rfl hl.1 (Nat.le_of_ble_eq_true rfl) ⟨Nat.le_of_ble_eq_true rfl, Nat.le_of_ble_eq_true rfl⟩ dX2_faultOf_59 (fun x12 σ11 H locs hok hz hP hD hS => ?_)
            refine lv_if_ne (tgt := 67) hx hb dX2_faultOf_62 (by decide) (fun c_62 => ?_) (fun c_62 => ?_)
            · have hok := hok.2 c_62
              refine lv_iload_n hx hb dX2_faultOf_67 rfl (lv_at hl 1 rfl) ?_
              refine lv_bipush (v := 8) hx hb dX2_faultOf_68 (by decide) ?_
              refine lv_icmp_ne (tgt := 79) hx hb dX2_faultOf_70 (by decide) (fun c_70 => ?_) (fun c_70 => ?_)
              · have hok := hok.2 c_70
                refine lv_iload_n hx hb dX2_faultOf_79 rfl (lv_at hl 1 rfl) ?_
                refine lv_bipush (v := 17) hx hb dX2_faultOf_80 (by decide) ?_
                refine lv_icmp_ne (tgt := 103) hx hb dX2_faultOf_82 (by decide) (fun c_82 => ?_) (fun c_82 => ?_)
                · have hok := hok.2 c_82
                  refine lv_iconst (v := 0) hx hb dX2_faultOf_103 (by decide) ?_
                  exact yEnd S hr hlocks hP hD hS (Nat.le_of_ble_eq_true rfl) (Nat.le_of_ble_eq_true rfl) dX2_faultOf_104 hok
                · have hok := hok.1 c_82
                  refine lv_aload_n hx hb dX2_faultOf_85 rfl (lv_at hl 2 rfl) ?_
                  refine xg (ci := 2) S inX2 rfl hK hP cW_34 2 (by decide) rfl kw_4_180 rfl dX2_faultOf_86 ?_
                  refine xg (ci := 4) S inX4 rfl hK hP cW_20 11 (by decide) rfl kw_4_117 rfl dX2_faultOf_89 ?_
                  refine lv_iload_n hx hb dX2_faultOf_92 rfl (lv_at hl 3 rfl) ?_
                  have h_93 := hok.1
                  have hok := hok.2
                  refine xiald (t0 := 0) (v := (g σ11 30 a1)) S hK hP cW_30 rfl h_93 rfl dX2_faultOf_93 ?_
                  refine lv_iconst (v := (-1)) hx hb dX2_faultOf_94 (by decide) ?_
                  refine lv_icmp_ne (tgt := 103) hx hb dX2_faultOf_95 (by decide) (fun c_95 => ?_) (fun c_95 => ?_)
                  · have hok := hok.2 c_95
                    refine lv_iconst (v := 0) hx hb dX2_faultOf_103 (by decide) ?_
                    exact yEnd S hr hlocks hP hD hS (Nat.le_of_ble_eq_true rfl) (Nat.le_of_ble_eq_true rfl) dX2_faultOf_104 hok
                  · have hok := hok.1 c_95
                    refine lv_bipush (v := 6) hx hb dX2_faultOf_98 (by decide) ?_
                    refine lv_goto (tgt := 104) hx hb dX2_faultOf_100 (by decide) ?_
                    exact yEnd S hr hlocks hP hD hS (Nat.le_of_ble_eq_true rfl) (Nat.le_of_ble_eq_true rfl) dX2_faultOf_104 hok
              · have hok := hok.1 c_70
                refine lv_aload_n hx hb dX2_faultOf_73 rfl (lv_at hl 2 rfl) ?_
                refine lv_iload_n hx hb dX2_faultOf_74 rfl (lv_at hl 3 rfl) ?_
                refine yVi (As := [.int a1]) (cw := (cW o u cI cZ cJ T)) (ci := 2) S (v_X2_faultOfArguments l D cI cZ cJ o u T ra ga σ11 a1 _ H.size hok) mi_X2_faultOfArguments kw_2_18 rfl rfl ⟨Nat.le_of_ble_eq_true rfl, Nat.le_of_ble_eq_true rfl⟩ hP hD hK hS hA hB cW_34 rfl rfl hl.1 (Nat.le_of_ble_eq_true rfl) ⟨Nat.le_of_ble_eq_true rfl, Nat.le_of_ble_eq_true rfl⟩ dX2_faultOf_75 (fun x14 σ13 H locs hok hz hP hD hS => ?_)
                exact yEnd S hr hlocks hP hD hS (Nat.le_of_ble_eq_true rfl) (Nat.le_of_ble_eq_true rfl) dX2_faultOf_78 hok
            · have hok := hok.1 c_62
              refine lv_iconst (v := 2) hx hb dX2_faultOf_65 (by decide) ?_
              exact yEnd S hr hlocks hP hD hS (Nat.le_of_ble_eq_true rfl) (Nat.le_of_ble_eq_true rfl) dX2_faultOf_66 hok
          · have hok := hok.1 c_52
            refine lv_iconst (v := 3) hx hb dX2_faultOf_55 (by decide) ?_
            exact yEnd S hr hlocks hP hD hS (Nat.le_of_ble_eq_true rfl) (Nat.le_of_ble_eq_true rfl) dX2_faultOf_56 hok
    · have hok := hok.1 c_33
      refine lv_iconst (v := 1) hx hb dX2_faultOf_36 (by decide) ?_
      exact yEnd S hr hlocks hP hD hS (Nat.le_of_ble_eq_true rfl) (Nat.le_of_ble_eq_true rfl) dX2_faultOf_37 hok

set_option maxHeartbeats 8000000 in
set_option maxRecDepth 100000 in
theorem v_X2_tell (l : Launch) (D : va_G) (cI cZ cJ : ClassId) (o : Nat) (u : Nat → Nat) (T : Nat) (ra : Nat → Nat) (ga : SG) (σ : FS) (a1 : Int32) (a2 : Int32) (a3 : Int32) (Φ : FS → Prop) (sz : Nat) (hok : (wp_X2_tell σ a1 a2 a3 Φ)) : Met l yX2_tell (uW yX2_tell cX2_tell 4 none) ({ frames := 0, cells := 0, slots := 0, locals := 0 }) (va_Pc [.ref (u 33), .int a1, .int a2, .int a3] (aS ra ga D (tyL cI cZ cJ) (cW o u cI cZ cJ T σ) sz)) (yQv Φ D (cW o u cI cZ cJ T) (va_A (cW o u cI cZ cJ T σ) sz)) 0 0 (va_A (cW o u cI cZ cJ T σ) sz) := by
  refine aStart (lv := [(0, .ref (u 33)), (1, .int a1), (2, .int a2), (3, .int a3)]) (Qc := fun A => yQv Φ D (cW o u cI cZ cJ T) A) (by decide) (Nat.le_of_ble_eq_true rfl) rfl ?_
  intro p e s m args below meth c ls A H S hr hlocks hnm hl hK hP hD hS hA hB
  have hx := S.1
  have hb := S.2.1
  refine lv_iload_n hx hb dX2_tell_0 rfl (lv_at hl 1 rfl) ?_
  refine lv_if_eq (tgt := 56) hx hb dX2_tell_1 (by decide) (fun c_1 => ?_) (fun c_1 => ?_)
  · have hok := hok.1 c_1
    exact yEndv S hr hlocks hP hD hS (Nat.le_of_ble_eq_true rfl) (Nat.le_of_ble_eq_true rfl) dX2_tell_56 hok
  · have hok := hok.2 c_1
    refine lv_aload_n hx hb dX2_tell_4 rfl (lv_at hl 0 rfl) ?_
    refine xg (ci := 2) S inX2 rfl hK hP cW_34 3 (by decide) rfl kw_4_181 rfl dX2_tell_5 ?_
    refine lv_aload_n hx hb dX2_tell_8 rfl (lv_at hl 0 rfl) ?_
    refine xg (ci := 2) S inX2 rfl hK hP cW_34 4 (by decide) rfl kw_4_183 rfl dX2_tell_9 ?_
    refine xalen (t0 := 0) (v := 120) S hK hP cW_35 rfl (show Int32.ofNat 120 = 120 by decide) dX2_tell_12 ?_
    refine lv_icmp_ge (tgt := 56) hx hb dX2_tell_13 (by decide) (fun c_13 => ?_) (fun c_13 => ?_)
    · have hok := hok.1 c_13
      exact yEndv S hr hlocks hP hD hS (Nat.le_of_ble_eq_true rfl) (Nat.le_of_ble_eq_true rfl) dX2_tell_56 hok
    · have hok := hok.2 c_13
      refine lv_aload_n hx hb dX2_tell_16 rfl (lv_at hl 0 rfl) ?_
      refine xg (ci := 2) S inX2 rfl hK hP cW_34 4 (by decide) rfl kw_4_183 rfl dX2_tell_17 ?_
      refine lv_aload_n hx hb dX2_tell_20 rfl (lv_at hl 0 rfl) ?_
      refine xg (ci := 2) S inX2 rfl hK hP cW_34 3 (by decide) rfl kw_4_181 rfl dX2_tell_21 ?_
      refine lv_iload_n hx hb dX2_tell_24 rfl (lv_at hl 1 rfl) ?_
      have h_25 := hok.1
      have hok := hok.2
      refine yiast (t0 := 0) (cw := (cW o u cI cZ cJ T)) S hK hP hD hS cW_35 rfl h_25 dX2_tell_25 cWa_35 (fun σ1 H locs eσ1 hP hD hS => ?_)
      have hok := hok σ1 eσ1
      refine lv_aload_n hx hb dX2_tell_26 rfl (lv_at hl 0 rfl) ?_
      refine xg (ci := 2) S inX2 rfl hK hP cW_34 5 (by decide) rfl kw_4_185 rfl dX2_tell_27 ?_
      refine lv_aload_n hx hb dX2_tell_30 rfl (lv_at hl 0 rfl) ?_
      refine xg (ci := 2) S inX2 rfl hK hP cW_34 3 (by decide) rfl kw_4_181 rfl dX2_tell_31 ?_
      refine lv_iload_n hx hb dX2_tell_34 rfl (lv_at hl 2 rfl) ?_
      have h_35 := hok.1
      have hok := hok.2
      refine yiast (t0 := 0) (cw := (cW o u cI cZ cJ T)) S hK hP hD hS cW_36 rfl h_35 dX2_tell_35 cWa_36 (fun σ2 H locs eσ2 hP hD hS => ?_)
      have hok := hok σ2 eσ2
      refine lv_aload_n hx hb dX2_tell_36 rfl (lv_at hl 0 rfl) ?_
      refine xg (ci := 2) S inX2 rfl hK hP cW_34 6 (by decide) rfl kw_4_187 rfl dX2_tell_37 ?_
      refine lv_aload_n hx hb dX2_tell_40 rfl (lv_at hl 0 rfl) ?_
      refine xg (ci := 2) S inX2 rfl hK hP cW_34 3 (by decide) rfl kw_4_181 rfl dX2_tell_41 ?_
      refine lv_iload_n hx hb dX2_tell_44 rfl (lv_at hl 3 rfl) ?_
      have h_45 := hok.1
      have hok := hok.2
      refine yiast (t0 := 0) (cw := (cW o u cI cZ cJ T)) S hK hP hD hS cW_37 rfl h_45 dX2_tell_45 cWa_37 (fun σ3 H locs eσ3 hP hD hS => ?_)
      have hok := hok σ3 eσ3
      refine lv_aload_n hx hb dX2_tell_46 rfl (lv_at hl 0 rfl) ?_
      refine lv_dup hx hb dX2_tell_47 rfl ?_
      refine xg (ci := 2) S inX2 rfl hK hP cW_34 3 (by decide) rfl kw_4_181 rfl dX2_tell_48 ?_
      refine lv_iconst (v := 1) hx hb dX2_tell_51 (by decide) ?_
      refine xiadd (v := (σ3.1 34 3) + 1) S dX2_tell_52 rfl ?_
      refine yp (ci := 2) (v := .int ((σ3.1 34 3) + 1)) (cw := (cW o u cI cZ cJ T)) S inX2 tyX2 tyX2_ok nmX2 rfl hK hP hD hS cW_34 3 (by decide) kw_4_181 rfl rfl rfl rfl (Nat.le_of_ble_eq_true rfl) dX2_tell_53 cWp_34_3 (fun σ4 H locs eσ4 hP hD hS => ?_)
      have hok := hok σ4 eσ4
      exact yEndv S hr hlocks hP hD hS (Nat.le_of_ble_eq_true rfl) (Nat.le_of_ble_eq_true rfl) dX2_tell_56 hok

set_option maxHeartbeats 8000000 in
set_option maxRecDepth 100000 in
theorem v_X5_partC (l : Launch) (D : va_G) (cI cZ cJ : ClassId) (o : Nat) (u : Nat → Nat) (T : Nat) (ra : Nat → Nat) (ga : SG) (σ : FS) (a1 : Int32) (Φ : Int32 → FS → Prop) (sz : Nat) (hok : (wp_X5_partC σ a1 Φ)) : Met l yX5_partC (uW yX5_partC cX5_partC 2 (some .int)) ({ frames := 0, cells := 0, slots := 0, locals := 0 }) (va_Pc [.ref (u 12), .int a1] (aS ra ga D (tyL cI cZ cJ) (cW o u cI cZ cJ T σ) sz)) (yQi Φ D (cW o u cI cZ cJ T) (va_A (cW o u cI cZ cJ T σ) sz)) 0 0 (va_A (cW o u cI cZ cJ T σ) sz) := by
  refine aStart (lv := [(0, .ref (u 12)), (1, .int a1)]) (Qc := fun A => yQi Φ D (cW o u cI cZ cJ T) A) (by decide) (Nat.le_of_ble_eq_true rfl) rfl ?_
  intro p e s m args below meth c ls A H S hr hlocks hnm hl hK hP hD hS hA hB
  have hx := S.1
  have hb := S.2.1
  refine xgs S hB.z2 hS kw_2_38 rfl dX5_partC_0 ?_
  refine lv_aload_n hx hb dX5_partC_3 rfl (lv_at hl 0 rfl) ?_
  refine xg (ci := 5) S inX5 rfl hK hP cW_13 1 (by decide) rfl kw_4_41 rfl dX5_partC_4 ?_
  refine lv_iload_n hx hb dX5_partC_7 rfl (lv_at hl 1 rfl) ?_
  have h_8 := hok.1
  have hok := hok.2
  refine xiald (t0 := 0) (v := (g σ 14 a1)) S hK hP cW_14 rfl h_8 rfl dX5_partC_8 ?_
  have h_9 := hok.1
  have hok := hok.2
  refine xti (v := (tROLE_C ((g σ 14 a1) : Int32).toNatClampNeg)) S hB.t2 hS h_9 rfl dX5_partC_9 ?_
  refine lv_topi (fun x1 ex1 => ?_)
  have hok := hok x1 ex1
  refine lv_iconst (v := 4) hx hb dX5_partC_10 (by decide) ?_
  refine lv_icmp_lt (tgt := 23) hx hb dX5_partC_11 (by decide) (fun c_11 => ?_) (fun c_11 => ?_)
  · have hok := hok.1 c_11
    refine lv_iconst (v := (-1)) hx hb dX5_partC_23 (by decide) ?_
    exact yEnd S hr hlocks hP hD hS (Nat.le_of_ble_eq_true rfl) (Nat.le_of_ble_eq_true rfl) dX5_partC_24 hok
  · have hok := hok.2 c_11
    refine lv_aload_n hx hb dX5_partC_14 rfl (lv_at hl 0 rfl) ?_
    refine xg (ci := 5) S inX5 rfl hK hP cW_13 4 (by decide) rfl kw_4_55 rfl dX5_partC_15 ?_
    refine lv_iload_n hx hb dX5_partC_18 rfl (lv_at hl 1 rfl) ?_
    have h_19 := hok.1
    have hok := hok.2
    refine xiald (t0 := 0) (v := (g σ 17 a1)) S hK hP cW_17 rfl h_19 rfl dX5_partC_19 ?_
    refine lv_goto (tgt := 24) hx hb dX5_partC_20 (by decide) ?_
    exact yEnd S hr hlocks hP hD hS (Nat.le_of_ble_eq_true rfl) (Nat.le_of_ble_eq_true rfl) dX5_partC_24 hok

set_option maxHeartbeats 8000000 in
set_option maxRecDepth 100000 in
theorem v_X5_partB (l : Launch) (D : va_G) (cI cZ cJ : ClassId) (o : Nat) (u : Nat → Nat) (T : Nat) (ra : Nat → Nat) (ga : SG) (σ : FS) (a1 : Int32) (Φ : Int32 → FS → Prop) (sz : Nat) (hok : (wp_X5_partB σ a1 Φ)) : Met l yX5_partB (uW yX5_partB cX5_partB 2 (some .int)) ({ frames := 0, cells := 0, slots := 0, locals := 0 }) (va_Pc [.ref (u 12), .int a1] (aS ra ga D (tyL cI cZ cJ) (cW o u cI cZ cJ T σ) sz)) (yQi Φ D (cW o u cI cZ cJ T) (va_A (cW o u cI cZ cJ T σ) sz)) 0 0 (va_A (cW o u cI cZ cJ T σ) sz) := by
  refine aStart (lv := [(0, .ref (u 12)), (1, .int a1)]) (Qc := fun A => yQi Φ D (cW o u cI cZ cJ T) A) (by decide) (Nat.le_of_ble_eq_true rfl) rfl ?_
  intro p e s m args below meth c ls A H S hr hlocks hnm hl hK hP hD hS hA hB
  have hx := S.1
  have hb := S.2.1
  refine xgs S hB.z1 hS kw_2_44 rfl dX5_partB_0 ?_
  refine lv_aload_n hx hb dX5_partB_3 rfl (lv_at hl 0 rfl) ?_
  refine xg (ci := 5) S inX5 rfl hK hP cW_13 1 (by decide) rfl kw_4_41 rfl dX5_partB_4 ?_
  refine lv_iload_n hx hb dX5_partB_7 rfl (lv_at hl 1 rfl) ?_
  have h_8 := hok.1
  have hok := hok.2
  refine xiald (t0 := 0) (v := (g σ 14 a1)) S hK hP cW_14 rfl h_8 rfl dX5_partB_8 ?_
  have h_9 := hok.1
  have hok := hok.2
  refine xti (v := (tROLE_B ((g σ 14 a1) : Int32).toNatClampNeg)) S hB.t1 hS h_9 rfl dX5_partB_9 ?_
  refine lv_topi (fun x1 ex1 => ?_)
  have hok := hok x1 ex1
  refine lv_iconst (v := 4) hx hb dX5_partB_10 (by decide) ?_
  refine lv_icmp_lt (tgt := 23) hx hb dX5_partB_11 (by decide) (fun c_11 => ?_) (fun c_11 => ?_)
  · have hok := hok.1 c_11
    refine lv_iconst (v := (-1)) hx hb dX5_partB_23 (by decide) ?_
    exact yEnd S hr hlocks hP hD hS (Nat.le_of_ble_eq_true rfl) (Nat.le_of_ble_eq_true rfl) dX5_partB_24 hok
  · have hok := hok.2 c_11
    refine lv_aload_n hx hb dX5_partB_14 rfl (lv_at hl 0 rfl) ?_
    refine xg (ci := 5) S inX5 rfl hK hP cW_13 3 (by decide) rfl kw_4_50 rfl dX5_partB_15 ?_
    refine lv_iload_n hx hb dX5_partB_18 rfl (lv_at hl 1 rfl) ?_
    have h_19 := hok.1
    have hok := hok.2
    refine xiald (t0 := 0) (v := (g σ 16 a1)) S hK hP cW_16 rfl h_19 rfl dX5_partB_19 ?_
    refine lv_goto (tgt := 24) hx hb dX5_partB_20 (by decide) ?_
    exact yEnd S hr hlocks hP hD hS (Nat.le_of_ble_eq_true rfl) (Nat.le_of_ble_eq_true rfl) dX5_partB_24 hok

set_option maxHeartbeats 8000000 in
set_option maxRecDepth 100000 in
theorem v_X5_partA (l : Launch) (D : va_G) (cI cZ cJ : ClassId) (o : Nat) (u : Nat → Nat) (T : Nat) (ra : Nat → Nat) (ga : SG) (σ : FS) (a1 : Int32) (Φ : Int32 → FS → Prop) (sz : Nat) (hok : (wp_X5_partA σ a1 Φ)) : Met l yX5_partA (uW yX5_partA cX5_partA 2 (some .int)) ({ frames := 0, cells := 0, slots := 0, locals := 0 }) (va_Pc [.ref (u 12), .int a1] (aS ra ga D (tyL cI cZ cJ) (cW o u cI cZ cJ T σ) sz)) (yQi Φ D (cW o u cI cZ cJ T) (va_A (cW o u cI cZ cJ T σ) sz)) 0 0 (va_A (cW o u cI cZ cJ T σ) sz) := by
  refine aStart (lv := [(0, .ref (u 12)), (1, .int a1)]) (Qc := fun A => yQi Φ D (cW o u cI cZ cJ T) A) (by decide) (Nat.le_of_ble_eq_true rfl) rfl ?_
  intro p e s m args below meth c ls A H S hr hlocks hnm hl hK hP hD hS hA hB
  have hx := S.1
  have hb := S.2.1
  refine xgs S hB.z0 hS kw_1_144 rfl dX5_partA_0 ?_
  refine lv_aload_n hx hb dX5_partA_3 rfl (lv_at hl 0 rfl) ?_
  refine xg (ci := 5) S inX5 rfl hK hP cW_13 1 (by decide) rfl kw_4_41 rfl dX5_partA_4 ?_
  refine lv_iload_n hx hb dX5_partA_7 rfl (lv_at hl 1 rfl) ?_
  have h_8 := hok.1
  have hok := hok.2
  refine xiald (t0 := 0) (v := (g σ 14 a1)) S hK hP cW_14 rfl h_8 rfl dX5_partA_8 ?_
  have h_9 := hok.1
  have hok := hok.2
  refine xti (v := (tROLE_A ((g σ 14 a1) : Int32).toNatClampNeg)) S hB.t0 hS h_9 rfl dX5_partA_9 ?_
  refine lv_topi (fun x1 ex1 => ?_)
  have hok := hok x1 ex1
  refine lv_iconst (v := 4) hx hb dX5_partA_10 (by decide) ?_
  refine lv_icmp_lt (tgt := 23) hx hb dX5_partA_11 (by decide) (fun c_11 => ?_) (fun c_11 => ?_)
  · have hok := hok.1 c_11
    refine lv_iconst (v := (-1)) hx hb dX5_partA_23 (by decide) ?_
    exact yEnd S hr hlocks hP hD hS (Nat.le_of_ble_eq_true rfl) (Nat.le_of_ble_eq_true rfl) dX5_partA_24 hok
  · have hok := hok.2 c_11
    refine lv_aload_n hx hb dX5_partA_14 rfl (lv_at hl 0 rfl) ?_
    refine xg (ci := 5) S inX5 rfl hK hP cW_13 2 (by decide) rfl kw_4_46 rfl dX5_partA_15 ?_
    refine lv_iload_n hx hb dX5_partA_18 rfl (lv_at hl 1 rfl) ?_
    have h_19 := hok.1
    have hok := hok.2
    refine xiald (t0 := 0) (v := (g σ 15 a1)) S hK hP cW_15 rfl h_19 rfl dX5_partA_19 ?_
    refine lv_goto (tgt := 24) hx hb dX5_partA_20 (by decide) ?_
    exact yEnd S hr hlocks hP hD hS (Nat.le_of_ble_eq_true rfl) (Nat.le_of_ble_eq_true rfl) dX5_partA_24 hok

set_option maxHeartbeats 8000000 in
set_option maxRecDepth 100000 in
theorem v_X2_find (l : Launch) (D : va_G) (cI cZ cJ : ClassId) (o : Nat) (u : Nat → Nat) (T : Nat) (ra : Nat → Nat) (ga : SG) (σ : FS) (Φ : FS → Prop) (sz : Nat) (hok : (wp_X2_find σ Φ)) : Met l yX2_find (uW yX2_find cX2_find 4 none) ({ frames := 4, cells := 0, slots := 0, locals := 91 }) (va_Pc [.ref (u 33)] (aS ra ga D (tyL cI cZ cJ) (cW o u cI cZ cJ T σ) sz)) (yQv Φ D (cW o u cI cZ cJ T) (va_A (cW o u cI cZ cJ T σ) sz)) 0 0 (va_A (cW o u cI cZ cJ T σ) sz) := by
  refine aStart (lv := [(0, .ref (u 33))]) (Qc := fun A => yQv Φ D (cW o u cI cZ cJ T) A) (by decide) (Nat.le_of_ble_eq_true rfl) rfl ?_
  intro p e s m args below meth c ls A H S hr hlocks hnm hl hK hP hD hS hA hB
  have hx := S.1
  have hb := S.2.1
  refine lv_aload_n hx hb dX2_find_0 rfl (lv_at hl 0 rfl) ?_
  refine lv_iconst (v := 0) hx hb dX2_find_1 (by decide) ?_
  refine yp (ci := 2) (v := .int 0) (cw := (cW o u cI cZ cJ T)) S inX2 tyX2 tyX2_ok nmX2 rfl hK hP hD hS cW_34 3 (by decide) kw_4_181 rfl rfl rfl rfl (Nat.le_of_ble_eq_true rfl) dX2_find_2 cWp_34_3 (fun σ1 H locs eσ1 hP hD hS => ?_)
  have hok := hok σ1 eσ1
  refine lv_iconst (v := 0) hx hb dX2_find_5 (by decide) ?_
  refine lv_istore_n (lv' := [(1, .int 0), (0, .ref (u 33))]) hx hb dX2_find_6 rfl hl (by decide) rfl (fun ls hl => ?_)
  have lp7 : ∀ (K : FS → Int32 → Prop), (∀ (τ0 : FS) (l1_0 : Int32) (H : Heap) (locs : List Loc) (ls : Array Slot), K τ0 l1_0 → lv_has ls 4 [(1, .int l1_0), (0, .ref (u 33))] → va_P D vwCl (cW o u cI cZ cJ T τ0) H → va_D A (cW o u cI cZ cJ T τ0) → va_S A s.heap H locs → W p l e ({ frames := 4, cells := 0, slots := 0, locals := 91 }) s m args below meth c H locs 0 0 (MQ below (yQv Φ D (cW o u cI cZ cJ T) A) args s 0 0 A) (F0 m 151 ls [])) → ∀ (n0 : Nat) (τ0 : FS) (l1_0 : Int32) (H : Heap) (locs : List Loc) (ls : Array Slot), wp_X2_find_7 Φ K n0 τ0 l1_0 → lv_has ls 4 [(1, .int l1_0), (0, .ref (u 33))] → va_P D vwCl (cW o u cI cZ cJ T τ0) H → va_D A (cW o u cI cZ cJ T τ0) → va_S A s.heap H locs → W p l e ({ frames := 4, cells := 0, slots := 0, locals := 91 }) s m args below meth c H locs 0 0 (MQ below (yQv Φ D (cW o u cI cZ cJ T) A) args s 0 0 A) (F0 m 7 ls []) := by
    intro K hk n0
    induction n0 with
    | zero => intro τ0 l1_0 H locs ls hok; exact False.elim hok
    | succ n0 ih7 =>
      intro τ0 l1_0 H locs ls hok hl hP hD hS
      refine lv_iload_n hx hb dX2_find_7 rfl (lv_at hl 0 rfl) ?_
      refine lv_aload_n hx hb dX2_find_8 rfl (lv_at hl 1 rfl) ?_
      refine xg (ci := 2) S inX2 rfl hK hP cW_34 0 (by decide) rfl kw_4_178 rfl dX2_find_9 ?_
      refine xg (ci := 1) S inX1 rfl hK hP cW_1 0 (by decide) rfl kw_3_213 rfl dX2_find_12 ?_
      refine lv_icmp_ge (tgt := 151) hx hb dX2_find_15 (by decide) (fun c_15 => ?_) (fun c_15 => ?_)
      · have hok := hok.1 c_15
        exact hk τ0 l1_0 H locs ls hok (lv_sub hl [0, 1] rfl) hP hD hS
      · have hok := hok.2 c_15
        refine lv_aload_n hx hb dX2_find_18 rfl (lv_at hl 1 rfl) ?_
        refine xg (ci := 2) S inX2 rfl hK hP cW_34 0 (by decide) rfl kw_4_178 rfl dX2_find_19 ?_
        refine xg (ci := 1) S inX1 rfl hK hP cW_1 6 (by decide) rfl kw_3_232 rfl dX2_find_22 ?_
        refine lv_iload_n hx hb dX2_find_25 rfl (lv_at hl 0 rfl) ?_
        have h_26 := hok.1
        have hok := hok.2
        refine xiald (t0 := 0) (v := (g τ0 7 l1_0)) S hK hP cW_7 rfl h_26 rfl dX2_find_26 ?_
        refine lv_iconst (v := (-1)) hx hb dX2_find_27 (by decide) ?_
        refine lv_icmp_ne (tgt := 39) hx hb dX2_find_28 (by decide) (fun c_28 => ?_) (fun c_28 => ?_)
        · have hok := hok.2 c_28
          refine lv_aload_n hx hb dX2_find_39 rfl (lv_at hl 1 rfl) ?_
          refine lv_iconst (v := 0) hx hb dX2_find_40 (by decide) ?_
          refine yp (ci := 2) (v := .int 0) (cw := (cW o u cI cZ cJ T)) S inX2 tyX2 tyX2_ok nmX2 rfl hK hP hD hS cW_34 8 (by decide) kw_4_190 rfl rfl rfl rfl (Nat.le_of_ble_eq_true rfl) dX2_find_41 cWp_34_8 (fun σ2 H locs eσ2 hP hD hS => ?_)
          have hok := hok σ2 eσ2
          refine lv_aload_n hx hb dX2_find_44 rfl (lv_at hl 1 rfl) ?_
          refine lv_aload_n hx hb dX2_find_45 rfl (lv_at hl 1 rfl) ?_
          refine xg (ci := 2) S inX2 rfl hK hP cW_34 0 (by decide) rfl kw_4_178 rfl dX2_find_46 ?_
          refine xg (ci := 1) S inX1 rfl hK hP cW_1 6 (by decide) rfl kw_3_232 rfl dX2_find_49 ?_
          refine lv_iload_n hx hb dX2_find_52 rfl (lv_at hl 0 rfl) ?_
          have h_53 := hok.1
          have hok := hok.2
          refine xiald (t0 := 0) (v := (g σ2 7 l1_0)) S hK hP cW_7 rfl h_53 rfl dX2_find_53 ?_
          refine yVv (As := [.int (g σ2 7 l1_0)]) (cw := (cW o u cI cZ cJ T)) (ci := 2) S (v_X2_await l D cI cZ cJ o u T ra ga σ2 (g σ2 7 l1_0) _ H.size hok) mi_X2_await kw_1_238 rfl rfl ⟨Nat.le_of_ble_eq_true rfl, Nat.le_of_ble_eq_true rfl⟩ hP hD hK hS hA hB cW_34 rfl rfl hl.1 (Nat.le_of_ble_eq_true rfl) ⟨Nat.le_of_ble_eq_true rfl, Nat.le_of_ble_eq_true rfl⟩ dX2_find_54 (fun σ3 H locs hok hz hP hD hS => ?_)
          refine lv_iconst (v := 0) hx hb dX2_find_57 (by decide) ?_
          refine lv_istore_n (lv' := [(2, .int 0), (1, .int l1_0), (0, .ref (u 33))]) hx hb dX2_find_58 rfl hl (by decide) rfl (fun ls hl => ?_)
          have lp59 : ∀ (K : FS → Int32 → Prop), (∀ (τ1 : FS) (l2_1 : Int32) (H : Heap) (locs : List Loc) (ls : Array Slot), K τ1 l2_1 → lv_has ls 4 [(2, .int l2_1), (1, .int l1_0), (0, .ref (u 33))] → va_P D vwCl (cW o u cI cZ cJ T τ1) H → va_D A (cW o u cI cZ cJ T τ1) → va_S A s.heap H locs → W p l e ({ frames := 4, cells := 0, slots := 0, locals := 91 }) s m args below meth c H locs 0 0 (MQ below (yQv Φ D (cW o u cI cZ cJ T) A) args s 0 0 A) (F0 m 145 ls [])) → ∀ (n1 : Nat) (τ1 : FS) (l2_1 : Int32) (H : Heap) (locs : List Loc) (ls : Array Slot), wp_X2_find_59 l1_0 Φ K n1 τ1 l2_1 → lv_has ls 4 [(2, .int l2_1), (1, .int l1_0), (0, .ref (u 33))] → va_P D vwCl (cW o u cI cZ cJ T τ1) H → va_D A (cW o u cI cZ cJ T τ1) → va_S A s.heap H locs → W p l e ({ frames := 4, cells := 0, slots := 0, locals := 91 }) s m args below meth c H locs 0 0 (MQ below (yQv Φ D (cW o u cI cZ cJ T) A) args s 0 0 A) (F0 m 59 ls []) := by
            intro K hk n1
            induction n1 with
            | zero => intro τ1 l2_1 H locs ls hok; exact False.elim hok
            | succ n1 ih59 =>
              intro τ1 l2_1 H locs ls hok hl hP hD hS
              refine lv_iload_n hx hb dX2_find_59 rfl (lv_at hl 0 rfl) ?_
              refine lv_bipush (v := 110) hx hb dX2_find_60 (by decide) ?_
              refine lv_icmp_ge (tgt := 145) hx hb dX2_find_62 (by decide) (fun c_62 => ?_) (fun c_62 => ?_)
              · have hok := hok.1 c_62
                exact hk τ1 l2_1 H locs ls hok (lv_sub hl [0, 1, 2] rfl) hP hD hS
              · have hok := hok.2 c_62
                refine lv_aload_n hx hb dX2_find_65 rfl (lv_at hl 2 rfl) ?_
                refine xg (ci := 2) S inX2 rfl hK hP cW_34 8 (by decide) rfl kw_4_190 rfl dX2_find_66 ?_
                refine lv_if_le (tgt := 145) hx hb dX2_find_69 (by decide) (fun c_69 => ?_) (fun c_69 => ?_)
                · have hok := hok.1 c_69
                  exact hk τ1 l2_1 H locs ls hok (lv_sub hl [0, 1, 2] rfl) hP hD hS
                · have hok := hok.2 c_69
                  refine lv_aload_n hx hb dX2_find_72 rfl (lv_at hl 2 rfl) ?_
                  refine lv_dup hx hb dX2_find_73 rfl ?_
                  refine xg (ci := 2) S inX2 rfl hK hP cW_34 8 (by decide) rfl kw_4_190 rfl dX2_find_74 ?_
                  refine lv_iconst (v := 1) hx hb dX2_find_77 (by decide) ?_
                  refine xisub (v := (τ1.1 34 8) - 1) S dX2_find_78 rfl ?_
                  refine yp (ci := 2) (v := .int ((τ1.1 34 8) - 1)) (cw := (cW o u cI cZ cJ T)) S inX2 tyX2 tyX2_ok nmX2 rfl hK hP hD hS cW_34 8 (by decide) kw_4_190 rfl rfl rfl rfl (Nat.le_of_ble_eq_true rfl) dX2_find_79 cWp_34_8 (fun σ4 H locs eσ4 hP hD hS => ?_)
                  have hok := hok σ4 eσ4
                  refine lv_aload_n hx hb dX2_find_82 rfl (lv_at hl 2 rfl) ?_
                  refine xg (ci := 2) S inX2 rfl hK hP cW_34 7 (by decide) rfl kw_4_189 rfl dX2_find_83 ?_
                  refine lv_aload_n hx hb dX2_find_86 rfl (lv_at hl 2 rfl) ?_
                  refine xg (ci := 2) S inX2 rfl hK hP cW_34 8 (by decide) rfl kw_4_190 rfl dX2_find_87 ?_
                  have h_90 := hok.1
                  have hok := hok.2
                  refine xiald (t0 := 0) (v := (g σ4 38 (σ4.1 34 8))) S hK hP cW_38 rfl h_90 rfl dX2_find_90 ?_
                  refine lv_topi (fun x5 ex5 => ?_)
                  have hok := hok x5 ex5
                  refine lv_istore_n (lv' := [(3, .int x5), (2, .int l2_1), (1, .int l1_0), (0, .ref (u 33))]) hx hb dX2_find_91 rfl hl (by decide) rfl (fun ls hl => ?_)
                  refine lv_aload_n hx hb dX2_find_92 rfl (lv_at hl 3 rfl) ?_
                  refine lv_aload_n hx hb dX2_find_93 rfl (lv_at hl 3 rfl) ?_
                  refine lv_iload_n hx hb dX2_find_94 rfl (lv_at hl 0 rfl) ?_
                  refine yVi (As := [.int x5]) (cw := (cW o u cI cZ cJ T)) (ci := 2) S (v_X2_faultOf l D cI cZ cJ o u T ra ga σ4 x5 _ H.size hok) mi_X2_faultOf kw_2_2 rfl rfl ⟨Nat.le_of_ble_eq_true rfl, Nat.le_of_ble_eq_true rfl⟩ hP hD hK hS hA hB cW_34 rfl rfl hl.1 (Nat.le_of_ble_eq_true rfl) ⟨Nat.le_of_ble_eq_true rfl, Nat.le_of_ble_eq_true rfl⟩ dX2_find_95 (fun x7 σ6 H locs hok hz hP hD hS => ?_)
                  refine lv_iload_n hx hb dX2_find_98 rfl (lv_at hl 2 rfl) ?_
                  refine lv_iload_n hx hb dX2_find_99 rfl (lv_at hl 0 rfl) ?_
                  refine yVv (As := [.int x7, .int l1_0, .int x5]) (cw := (cW o u cI cZ cJ T)) (ci := 2) S (v_X2_tell l D cI cZ cJ o u T ra ga σ6 x7 l1_0 x5 _ H.size hok) mi_X2_tell kw_1_233 rfl rfl ⟨Nat.le_of_ble_eq_true rfl, Nat.le_of_ble_eq_true rfl⟩ hP hD hK hS hA hB cW_34 rfl rfl hl.1 (Nat.le_of_ble_eq_true rfl) ⟨Nat.le_of_ble_eq_true rfl, Nat.le_of_ble_eq_true rfl⟩ dX2_find_100 (fun σ8 H locs hok hz hP hD hS => ?_)
                  refine lv_aload_n hx hb dX2_find_103 rfl (lv_at hl 3 rfl) ?_
                  refine lv_aload_n hx hb dX2_find_104 rfl (lv_at hl 3 rfl) ?_
                  refine xg (ci := 2) S inX2 rfl hK hP cW_34 1 (by decide) rfl kw_4_179 rfl dX2_find_105 ?_
                  refine lv_iload_n hx hb dX2_find_108 rfl (lv_at hl 0 rfl) ?_
                  refine yVi (As := [.int x5]) (cw := (cW o u cI cZ cJ T)) (ci := 5) S (v_X5_partC l D cI cZ cJ o u T ra ga σ8 x5 _ H.size hok) mi_X5_partC kw_2_34 rfl rfl ⟨Nat.le_of_ble_eq_true rfl, Nat.le_of_ble_eq_true rfl⟩ hP hD hK hS hA hB cW_13 rfl rfl hl.1 (Nat.le_of_ble_eq_true rfl) ⟨Nat.le_of_ble_eq_true rfl, Nat.le_of_ble_eq_true rfl⟩ dX2_find_109 (fun x10 σ9 H locs hok hz hP hD hS => ?_)
                  refine yVv (As := [.int x10]) (cw := (cW o u cI cZ cJ T)) (ci := 2) S (v_X2_await l D cI cZ cJ o u T ra ga σ9 x10 _ H.size hok) mi_X2_await kw_1_238 rfl rfl ⟨Nat.le_of_ble_eq_true rfl, Nat.le_of_ble_eq_true rfl⟩ hP hD hK hS hA hB cW_34 rfl rfl hl.1 (Nat.le_of_ble_eq_true rfl) ⟨Nat.le_of_ble_eq_true rfl, Nat.le_of_ble_eq_true rfl⟩ dX2_find_112 (fun σ11 H locs hok hz hP hD hS => ?_)
                  refine lv_aload_n hx hb dX2_find_115 rfl (lv_at hl 3 rfl) ?_
                  refine lv_aload_n hx hb dX2_find_116 rfl (lv_at hl 3 rfl) ?_
                  refine xg (ci := 2) S inX2 rfl hK hP cW_34 1 (by decide) rfl kw_4_179 rfl dX2_find_117 ?_
                  refine lv_iload_n hx hb dX2_find_120 rfl (lv_at hl 0 rfl) ?_
                  refine yVi (As := [.int x5]) (cw := (cW o u cI cZ cJ T)) (ci := 5) S (v_X5_partB l D cI cZ cJ o u T ra ga σ11 x5 _ H.size hok) mi_X5_partB kw_2_40 rfl rfl ⟨Nat.le_of_ble_eq_true rfl, Nat.le_of_ble_eq_true rfl⟩ hP hD hK hS hA hB cW_13 rfl rfl hl.1 (Nat.le_of_ble_eq_true rfl) ⟨Nat.le_of_ble_eq_true rfl, Nat.le_of_ble_eq_true rfl⟩ dX2_find_121 (fun x13 σ12 H locs hok hz hP hD hS => ?_)
                  refine yVv (As := [.int x13]) (cw := (cW o u cI cZ cJ T)) (ci := 2) S (v_X2_await l D cI cZ cJ o u T ra ga σ12 x13 _ H.size hok) mi_X2_await kw_1_238 rfl rfl ⟨Nat.le_of_ble_eq_true rfl, Nat.le_of_ble_eq_true rfl⟩ hP hD hK hS hA hB cW_34 rfl rfl hl.1 (Nat.le_of_ble_eq_true rfl) ⟨Nat.le_of_ble_eq_true rfl, Nat.le_of_ble_eq_true rfl⟩ dX2_find_124 (fun σ14 H locs hok hz hP hD hS => ?_)
                  refine lv_aload_n hx hb dX2_find_127 rfl (lv_at hl 3 rfl) ?_
                  refine lv_aload_n hx hb dX2_find_128 rfl (lv_at hl 3 rfl) ?_
                  refine xg (ci := 2) S inX2 rfl hK hP cW_34 1 (by decide) rfl kw_4_179 rfl dX2_find_129 ?_
                  refine lv_iload_n hx hb dX2_find_132 rfl (lv_at hl 0 rfl) ?_
                  refine yVi (As := [.int x5]) (cw := (cW o u cI cZ cJ T)) (ci := 5) S (v_X5_partA l D cI cZ cJ o u T ra ga σ14 x5 _ H.size hok) mi_X5_partA kw_2_46 rfl rfl ⟨Nat.le_of_ble_eq_true rfl, Nat.le_of_ble_eq_true rfl⟩ hP hD hK hS hA hB cW_13 rfl rfl hl.1 (Nat.le_of_ble_eq_true rfl) ⟨Nat.le_of_ble_eq_true rfl, Nat.le_of_ble_eq_true rfl⟩ dX2_find_133 (fun x16 σ15 H locs hok hz hP hD hS => ?_)
                  refine yVv (As := [.int x16]) (cw := (cW o u cI cZ cJ T)) (ci := 2) S (v_X2_await l D cI cZ cJ o u T ra ga σ15 x16 _ H.size hok) mi_X2_await kw_1_238 rfl rfl ⟨Nat.le_of_ble_eq_true rfl, Nat.le_of_ble_eq_true rfl⟩ hP hD hK hS hA hB cW_34 rfl rfl hl.1 (Nat.le_of_ble_eq_true rfl) ⟨Nat.le_of_ble_eq_true rfl, Nat.le_of_ble_eq_true rfl⟩ dX2_find_136 (fun σ17 H locs hok hz hP hD hS => ?_)
                  refine lv_iinc (v := l2_1 + 1) (lv' := [(2, .int (l2_1 + 1)), (3, .int x5), (1, .int l1_0), (0, .ref (u 33))]) hx hb dX2_find_139 hl (k := 1) rfl rfl (by decide) rfl (fun ls hl => ?_)
                  refine lv_goto (tgt := 59) hx hb dX2_find_142 (by decide) ?_
                  exact ih59 σ17 (l2_1 + 1) H locs ls hok (lv_sub hl [0, 2, 3] rfl) hP hD hS
          refine lp59 _ ?_ FUEL σ3 0 _ _ _ hok (lv_sub hl [0, 1, 2] rfl) hP hD hS
          intro σ18 x19 H locs ls hok hl hP hD hS
          refine lv_iinc (v := l1_0 + 1) (lv' := [(1, .int (l1_0 + 1)), (2, .int x19), (0, .ref (u 33))]) hx hb dX2_find_145 hl (k := 1) rfl rfl (by decide) rfl (fun ls hl => ?_)
          refine lv_goto (tgt := 7) hx hb dX2_find_148 (by decide) ?_
          exact ih7 σ18 (l1_0 + 1) H locs ls hok (lv_sub hl [0, 2] rfl) hP hD hS
        · have hok := hok.1 c_28
          refine lv_aload_n hx hb dX2_find_31 rfl (lv_at hl 1 rfl) ?_
          refine lv_bipush (v := 10) hx hb dX2_find_32 (by decide) ?_
          refine lv_iload_n hx hb dX2_find_34 rfl (lv_at hl 0 rfl) ?_
          refine lv_iconst (v := (-1)) hx hb dX2_find_35 (by decide) ?_
          refine yVv (As := [.int 10, .int l1_0, .int (-1)]) (cw := (cW o u cI cZ cJ T)) (ci := 2) S (v_X2_tell l D cI cZ cJ o u T ra ga τ0 10 l1_0 (-1) _ H.size hok) mi_X2_tell kw_1_233 rfl rfl ⟨Nat.le_of_ble_eq_true rfl, Nat.le_of_ble_eq_true rfl⟩ hP hD hK hS hA hB cW_34 rfl rfl hl.1 (Nat.le_of_ble_eq_true rfl) ⟨Nat.le_of_ble_eq_true rfl, Nat.le_of_ble_eq_true rfl⟩ dX2_find_36 (fun σ20 H locs hok hz hP hD hS => ?_)
          refine lv_aload_n hx hb dX2_find_39 rfl (lv_at hl 1 rfl) ?_
          refine lv_iconst (v := 0) hx hb dX2_find_40 (by decide) ?_
          refine yp (ci := 2) (v := .int 0) (cw := (cW o u cI cZ cJ T)) S inX2 tyX2 tyX2_ok nmX2 rfl hK hP hD hS cW_34 8 (by decide) kw_4_190 rfl rfl rfl rfl (Nat.le_of_ble_eq_true rfl) dX2_find_41 cWp_34_8 (fun σ21 H locs eσ21 hP hD hS => ?_)
          have hok := hok σ21 eσ21
          refine lv_aload_n hx hb dX2_find_44 rfl (lv_at hl 1 rfl) ?_
          refine lv_aload_n hx hb dX2_find_45 rfl (lv_at hl 1 rfl) ?_
          refine xg (ci := 2) S inX2 rfl hK hP cW_34 0 (by decide) rfl kw_4_178 rfl dX2_find_46 ?_
          refine xg (ci := 1) S inX1 rfl hK hP cW_1 6 (by decide) rfl kw_3_232 rfl dX2_find_49 ?_
          refine lv_iload_n hx hb dX2_find_52 rfl (lv_at hl 0 rfl) ?_
          have h_53 := hok.1
          have hok := hok.2
          refine xiald (t0 := 0) (v := (g σ21 7 l1_0)) S hK hP cW_7 rfl h_53 rfl dX2_find_53 ?_
          refine yVv (As := [.int (g σ21 7 l1_0)]) (cw := (cW o u cI cZ cJ T)) (ci := 2) S (v_X2_await l D cI cZ cJ o u T ra ga σ21 (g σ21 7 l1_0) _ H.size hok) mi_X2_await kw_1_238 rfl rfl ⟨Nat.le_of_ble_eq_true rfl, Nat.le_of_ble_eq_true rfl⟩ hP hD hK hS hA hB cW_34 rfl rfl hl.1 (Nat.le_of_ble_eq_true rfl) ⟨Nat.le_of_ble_eq_true rfl, Nat.le_of_ble_eq_true rfl⟩ dX2_find_54 (fun σ22 H locs hok hz hP hD hS => ?_)
          refine lv_iconst (v := 0) hx hb dX2_find_57 (by decide) ?_
          refine lv_istore_n (lv' := [(2, .int 0), (1, .int l1_0), (0, .ref (u 33))]) hx hb dX2_find_58 rfl hl (by decide) rfl (fun ls hl => ?_)
          have lp59 : ∀ (K : FS → Int32 → Prop), (∀ (τ1 : FS) (l2_1 : Int32) (H : Heap) (locs : List Loc) (ls : Array Slot), K τ1 l2_1 → lv_has ls 4 [(2, .int l2_1), (1, .int l1_0), (0, .ref (u 33))] → va_P D vwCl (cW o u cI cZ cJ T τ1) H → va_D A (cW o u cI cZ cJ T τ1) → va_S A s.heap H locs → W p l e ({ frames := 4, cells := 0, slots := 0, locals := 91 }) s m args below meth c H locs 0 0 (MQ below (yQv Φ D (cW o u cI cZ cJ T) A) args s 0 0 A) (F0 m 145 ls [])) → ∀ (n1 : Nat) (τ1 : FS) (l2_1 : Int32) (H : Heap) (locs : List Loc) (ls : Array Slot), wp_X2_find_59 l1_0 Φ K n1 τ1 l2_1 → lv_has ls 4 [(2, .int l2_1), (1, .int l1_0), (0, .ref (u 33))] → va_P D vwCl (cW o u cI cZ cJ T τ1) H → va_D A (cW o u cI cZ cJ T τ1) → va_S A s.heap H locs → W p l e ({ frames := 4, cells := 0, slots := 0, locals := 91 }) s m args below meth c H locs 0 0 (MQ below (yQv Φ D (cW o u cI cZ cJ T) A) args s 0 0 A) (F0 m 59 ls []) := by
            intro K hk n1
            induction n1 with
            | zero => intro τ1 l2_1 H locs ls hok; exact False.elim hok
            | succ n1 ih59 =>
              intro τ1 l2_1 H locs ls hok hl hP hD hS
              refine lv_iload_n hx hb dX2_find_59 rfl (lv_at hl 0 rfl) ?_
              refine lv_bipush (v := 110) hx hb dX2_find_60 (by decide) ?_
              refine lv_icmp_ge (tgt := 145) hx hb dX2_find_62 (by decide) (fun c_62 => ?_) (fun c_62 => ?_)
              · have hok := hok.1 c_62
                exact hk τ1 l2_1 H locs ls hok (lv_sub hl [0, 1, 2] rfl) hP hD hS
              · have hok := hok.2 c_62
                refine lv_aload_n hx hb dX2_find_65 rfl (lv_at hl 2 rfl) ?_
                refine xg (ci := 2) S inX2 rfl hK hP cW_34 8 (by decide) rfl kw_4_190 rfl dX2_find_66 ?_
                refine lv_if_le (tgt := 145) hx hb dX2_find_69 (by decide) (fun c_69 => ?_) (fun c_69 => ?_)
                · have hok := hok.1 c_69
                  exact hk τ1 l2_1 H locs ls hok (lv_sub hl [0, 1, 2] rfl) hP hD hS
                · have hok := hok.2 c_69
                  refine lv_aload_n hx hb dX2_find_72 rfl (lv_at hl 2 rfl) ?_
                  refine lv_dup hx hb dX2_find_73 rfl ?_
                  refine xg (ci := 2) S inX2 rfl hK hP cW_34 8 (by decide) rfl kw_4_190 rfl dX2_find_74 ?_
                  refine lv_iconst (v := 1) hx hb dX2_find_77 (by decide) ?_
                  refine xisub (v := (τ1.1 34 8) - 1) S dX2_find_78 rfl ?_
                  refine yp (ci := 2) (v := .int ((τ1.1 34 8) - 1)) (cw := (cW o u cI cZ cJ T)) S inX2 tyX2 tyX2_ok nmX2 rfl hK hP hD hS cW_34 8 (by decide) kw_4_190 rfl rfl rfl rfl (Nat.le_of_ble_eq_true rfl) dX2_find_79 cWp_34_8 (fun σ23 H locs eσ23 hP hD hS => ?_)
                  have hok := hok σ23 eσ23
                  refine lv_aload_n hx hb dX2_find_82 rfl (lv_at hl 2 rfl) ?_
                  refine xg (ci := 2) S inX2 rfl hK hP cW_34 7 (by decide) rfl kw_4_189 rfl dX2_find_83 ?_
                  refine lv_aload_n hx hb dX2_find_86 rfl (lv_at hl 2 rfl) ?_
                  refine xg (ci := 2) S inX2 rfl hK hP cW_34 8 (by decide) rfl kw_4_190 rfl dX2_find_87 ?_
                  have h_90 := hok.1
                  have hok := hok.2
                  refine xiald (t0 := 0) (v := (g σ23 38 (σ23.1 34 8))) S hK hP cW_38 rfl h_90 rfl dX2_find_90 ?_
                  refine lv_topi (fun x24 ex24 => ?_)
                  have hok := hok x24 ex24
                  refine lv_istore_n (lv' := [(3, .int x24), (2, .int l2_1), (1, .int l1_0), (0, .ref (u 33))]) hx hb dX2_find_91 rfl hl (by decide) rfl (fun ls hl => ?_)
                  refine lv_aload_n hx hb dX2_find_92 rfl (lv_at hl 3 rfl) ?_
                  refine lv_aload_n hx hb dX2_find_93 rfl (lv_at hl 3 rfl) ?_
                  refine lv_iload_n hx hb dX2_find_94 rfl (lv_at hl 0 rfl) ?_
                  refine yVi (As := [.int x24]) (cw := (cW o u cI cZ cJ T)) (ci := 2) S (v_X2_faultOf l D cI cZ cJ o u T ra ga σ23 x24 _ H.size hok) mi_X2_faultOf kw_2_2 rfl rfl ⟨Nat.le_of_ble_eq_true rfl, Nat.le_of_ble_eq_true rfl⟩ hP hD hK hS hA hB cW_34 rfl rfl hl.1 (Nat.le_of_ble_eq_true rfl) ⟨Nat.le_of_ble_eq_true rfl, Nat.le_of_ble_eq_true rfl⟩ dX2_find_95 (fun x26 σ25 H locs hok hz hP hD hS => ?_)
                  refine lv_iload_n hx hb dX2_find_98 rfl (lv_at hl 2 rfl) ?_
                  refine lv_iload_n hx hb dX2_find_99 rfl (lv_at hl 0 rfl) ?_
                  refine yVv (As := [.int x26, .int l1_0, .int x24]) (cw := (cW o u cI cZ cJ T)) (ci := 2) S (v_X2_tell l D cI cZ cJ o u T ra ga σ25 x26 l1_0 x24 _ H.size hok) mi_X2_tell kw_1_233 rfl rfl ⟨Nat.le_of_ble_eq_true rfl, Nat.le_of_ble_eq_true rfl⟩ hP hD hK hS hA hB cW_34 rfl rfl hl.1 (Nat.le_of_ble_eq_true rfl) ⟨Nat.le_of_ble_eq_true rfl, Nat.le_of_ble_eq_true rfl⟩ dX2_find_100 (fun σ27 H locs hok hz hP hD hS => ?_)
                  refine lv_aload_n hx hb dX2_find_103 rfl (lv_at hl 3 rfl) ?_
                  refine lv_aload_n hx hb dX2_find_104 rfl (lv_at hl 3 rfl) ?_
                  refine xg (ci := 2) S inX2 rfl hK hP cW_34 1 (by decide) rfl kw_4_179 rfl dX2_find_105 ?_
                  refine lv_iload_n hx hb dX2_find_108 rfl (lv_at hl 0 rfl) ?_
                  refine yVi (As := [.int x24]) (cw := (cW o u cI cZ cJ T)) (ci := 5) S (v_X5_partC l D cI cZ cJ o u T ra ga σ27 x24 _ H.size hok) mi_X5_partC kw_2_34 rfl rfl ⟨Nat.le_of_ble_eq_true rfl, Nat.le_of_ble_eq_true rfl⟩ hP hD hK hS hA hB cW_13 rfl rfl hl.1 (Nat.le_of_ble_eq_true rfl) ⟨Nat.le_of_ble_eq_true rfl, Nat.le_of_ble_eq_true rfl⟩ dX2_find_109 (fun x29 σ28 H locs hok hz hP hD hS => ?_)
                  refine yVv (As := [.int x29]) (cw := (cW o u cI cZ cJ T)) (ci := 2) S (v_X2_await l D cI cZ cJ o u T ra ga σ28 x29 _ H.size hok) mi_X2_await kw_1_238 rfl rfl ⟨Nat.le_of_ble_eq_true rfl, Nat.le_of_ble_eq_true rfl⟩ hP hD hK hS hA hB cW_34 rfl rfl hl.1 (Nat.le_of_ble_eq_true rfl) ⟨Nat.le_of_ble_eq_true rfl, Nat.le_of_ble_eq_true rfl⟩ dX2_find_112 (fun σ30 H locs hok hz hP hD hS => ?_)
                  refine lv_aload_n hx hb dX2_find_115 rfl (lv_at hl 3 rfl) ?_
                  refine lv_aload_n hx hb dX2_find_116 rfl (lv_at hl 3 rfl) ?_
                  refine xg (ci := 2) S inX2 rfl hK hP cW_34 1 (by decide) rfl kw_4_179 rfl dX2_find_117 ?_
                  refine lv_iload_n hx hb dX2_find_120 rfl (lv_at hl 0 rfl) ?_
                  refine yVi (As := [.int x24]) (cw := (cW o u cI cZ cJ T)) (ci := 5) S (v_X5_partB l D cI cZ cJ o u T ra ga σ30 x24 _ H.size hok) mi_X5_partB kw_2_40 rfl rfl ⟨Nat.le_of_ble_eq_true rfl, Nat.le_of_ble_eq_true rfl⟩ hP hD hK hS hA hB cW_13 rfl rfl hl.1 (Nat.le_of_ble_eq_true rfl) ⟨Nat.le_of_ble_eq_true rfl, Nat.le_of_ble_eq_true rfl⟩ dX2_find_121 (fun x32 σ31 H locs hok hz hP hD hS => ?_)
                  refine yVv (As := [.int x32]) (cw := (cW o u cI cZ cJ T)) (ci := 2) S (v_X2_await l D cI cZ cJ o u T ra ga σ31 x32 _ H.size hok) mi_X2_await kw_1_238 rfl rfl ⟨Nat.le_of_ble_eq_true rfl, Nat.le_of_ble_eq_true rfl⟩ hP hD hK hS hA hB cW_34 rfl rfl hl.1 (Nat.le_of_ble_eq_true rfl) ⟨Nat.le_of_ble_eq_true rfl, Nat.le_of_ble_eq_true rfl⟩ dX2_find_124 (fun σ33 H locs hok hz hP hD hS => ?_)
                  refine lv_aload_n hx hb dX2_find_127 rfl (lv_at hl 3 rfl) ?_
                  refine lv_aload_n hx hb dX2_find_128 rfl (lv_at hl 3 rfl) ?_
                  refine xg (ci := 2) S inX2 rfl hK hP cW_34 1 (by decide) rfl kw_4_179 rfl dX2_find_129 ?_
                  refine lv_iload_n hx hb dX2_find_132 rfl (lv_at hl 0 rfl) ?_
                  refine yVi (As := [.int x24]) (cw := (cW o u cI cZ cJ T)) (ci := 5) S (v_X5_partA l D cI cZ cJ o u T ra ga σ33 x24 _ H.size hok) mi_X5_partA kw_2_46 rfl rfl ⟨Nat.le_of_ble_eq_true rfl, Nat.le_of_ble_eq_true rfl⟩ hP hD hK hS hA hB cW_13 rfl rfl hl.1 (Nat.le_of_ble_eq_true rfl) ⟨Nat.le_of_ble_eq_true rfl, Nat.le_of_ble_eq_true rfl⟩ dX2_find_133 (fun x35 σ34 H locs hok hz hP hD hS => ?_)
                  refine yVv (As := [.int x35]) (cw := (cW o u cI cZ cJ T)) (ci := 2) S (v_X2_await l D cI cZ cJ o u T ra ga σ34 x35 _ H.size hok) mi_X2_await kw_1_238 rfl rfl ⟨Nat.le_of_ble_eq_true rfl, Nat.le_of_ble_eq_true rfl⟩ hP hD hK hS hA hB cW_34 rfl rfl hl.1 (Nat.le_of_ble_eq_true rfl) ⟨Nat.le_of_ble_eq_true rfl, Nat.le_of_ble_eq_true rfl⟩ dX2_find_136 (fun σ36 H locs hok hz hP hD hS => ?_)
                  refine lv_iinc (v := l2_1 + 1) (lv' := [(2, .int (l2_1 + 1)), (3, .int x24), (1, .int l1_0), (0, .ref (u 33))]) hx hb dX2_find_139 hl (k := 1) rfl rfl (by decide) rfl (fun ls hl => ?_)
                  refine lv_goto (tgt := 59) hx hb dX2_find_142 (by decide) ?_
                  exact ih59 σ36 (l2_1 + 1) H locs ls hok (lv_sub hl [0, 2, 3] rfl) hP hD hS
          refine lp59 _ ?_ FUEL σ22 0 _ _ _ hok (lv_sub hl [0, 1, 2] rfl) hP hD hS
          intro σ37 x38 H locs ls hok hl hP hD hS
          refine lv_iinc (v := l1_0 + 1) (lv' := [(1, .int (l1_0 + 1)), (2, .int x38), (0, .ref (u 33))]) hx hb dX2_find_145 hl (k := 1) rfl rfl (by decide) rfl (fun ls hl => ?_)
          refine lv_goto (tgt := 7) hx hb dX2_find_148 (by decide) ?_
          exact ih7 σ37 (l1_0 + 1) H locs ls hok (lv_sub hl [0, 2] rfl) hP hD hS
  refine lp7 _ ?_ FUEL σ1 0 _ _ _ hok (lv_sub hl [0, 1] rfl) hP hD hS
  intro σ39 x40 H locs ls hok hl hP hD hS
  exact yEndv S hr hlocks hP hD hS (Nat.le_of_ble_eq_true rfl) (Nat.le_of_ble_eq_true rfl) dX2_find_151 hok

set_option maxHeartbeats 8000000 in
set_option maxRecDepth 100000 in
theorem v_X0_forget_39 (l : Launch) (D : va_G) (cI cZ cJ : ClassId) (o : Nat) (u : Nat → Nat) (T : Nat) (ra : Nat → Nat) (ga : SG) (σ : FS) (Φ : FS → Prop) (sz : Nat) (hok : (wp_X0_forget 39 σ Φ)) : Met l yX0_forget (uW yX0_forget cX0_forget 1 none) ({ frames := 0, cells := 0, slots := 0, locals := 0 }) (va_Pc [.ref (u 38)] (aS ra ga D (tyL cI cZ cJ) (cW o u cI cZ cJ T σ) sz)) (yQv Φ D (cW o u cI cZ cJ T) (va_A (cW o u cI cZ cJ T σ) sz)) 0 0 (va_A (cW o u cI cZ cJ T σ) sz) := by
  refine aStart (lv := [(0, .ref (u 38))]) (Qc := fun A => yQv Φ D (cW o u cI cZ cJ T) A) (by decide) (Nat.le_of_ble_eq_true rfl) rfl ?_
  intro p e s m args below meth c ls A H S hr hlocks hnm hl hK hP hD hS hA hB
  have hx := S.1
  have hb := S.2.1
  refine lv_aload_n hx hb dX0_forget_0 rfl (lv_at hl 0 rfl) ?_
  refine lv_iconst (v := (-1)) hx hb dX0_forget_1 (by decide) ?_
  refine yp (ci := 0) (v := .int (-1)) (cw := (cW o u cI cZ cJ T)) S inX0 tyX0 tyX0_ok nmX0 rfl hK hP hD hS cW_39 3 (by decide) kw_4_218 rfl rfl rfl rfl (Nat.le_of_ble_eq_true rfl) dX0_forget_2 cWp_39_3 (fun σ1 H locs eσ1 hP hD hS => ?_)
  have hok := hok σ1 eσ1
  exact yEndv S hr hlocks hP hD hS (Nat.le_of_ble_eq_true rfl) (Nat.le_of_ble_eq_true rfl) dX0_forget_5 hok

set_option maxHeartbeats 8000000 in
set_option maxRecDepth 100000 in
theorem v_X0_forget_52 (l : Launch) (D : va_G) (cI cZ cJ : ClassId) (o : Nat) (u : Nat → Nat) (T : Nat) (ra : Nat → Nat) (ga : SG) (σ : FS) (Φ : FS → Prop) (sz : Nat) (hok : (wp_X0_forget 52 σ Φ)) : Met l yX0_forget (uW yX0_forget cX0_forget 1 none) ({ frames := 0, cells := 0, slots := 0, locals := 0 }) (va_Pc [.ref (u 51)] (aS ra ga D (tyL cI cZ cJ) (cW o u cI cZ cJ T σ) sz)) (yQv Φ D (cW o u cI cZ cJ T) (va_A (cW o u cI cZ cJ T σ) sz)) 0 0 (va_A (cW o u cI cZ cJ T σ) sz) := by
  refine aStart (lv := [(0, .ref (u 51))]) (Qc := fun A => yQv Φ D (cW o u cI cZ cJ T) A) (by decide) (Nat.le_of_ble_eq_true rfl) rfl ?_
  intro p e s m args below meth c ls A H S hr hlocks hnm hl hK hP hD hS hA hB
  have hx := S.1
  have hb := S.2.1
  refine lv_aload_n hx hb dX0_forget_0 rfl (lv_at hl 0 rfl) ?_
  refine lv_iconst (v := (-1)) hx hb dX0_forget_1 (by decide) ?_
  refine yp (ci := 0) (v := .int (-1)) (cw := (cW o u cI cZ cJ T)) S inX0 tyX0 tyX0_ok nmX0 rfl hK hP hD hS cW_52 3 (by decide) kw_4_218 rfl rfl rfl rfl (Nat.le_of_ble_eq_true rfl) dX0_forget_2 cWp_52_3 (fun σ1 H locs eσ1 hP hD hS => ?_)
  have hok := hok σ1 eσ1
  exact yEndv S hr hlocks hP hD hS (Nat.le_of_ble_eq_true rfl) (Nat.le_of_ble_eq_true rfl) dX0_forget_5 hok

set_option maxHeartbeats 8000000 in
set_option maxRecDepth 100000 in
theorem v_X8_refresh (l : Launch) (D : va_G) (cI cZ cJ : ClassId) (o : Nat) (u : Nat → Nat) (T : Nat) (ra : Nat → Nat) (ga : SG) (σ : FS) (Φ : FS → Prop) (sz : Nat) (hok : (wp_X8_refresh σ Φ)) : Met l yX8_refresh (uW yX8_refresh cX8_refresh 1 none) ({ frames := 5, cells := 0, slots := 0, locals := 114 }) (va_Pc [.ref o] (aS ra ga D (tyL cI cZ cJ) (cW o u cI cZ cJ T σ) sz)) (yQv Φ D (cW o u cI cZ cJ T) (va_A (cW o u cI cZ cJ T σ) sz)) 0 0 (va_A (cW o u cI cZ cJ T σ) sz) := by
  refine aStart (lv := [(0, .ref o)]) (Qc := fun A => yQv Φ D (cW o u cI cZ cJ T) A) (by decide) (Nat.le_of_ble_eq_true rfl) rfl ?_
  intro p e s m args below meth c ls A H S hr hlocks hnm hl hK hP hD hS hA hB
  have hx := S.1
  have hb := S.2.1
  refine lv_aload_n hx hb dX8_refresh_0 rfl (lv_at hl 0 rfl) ?_
  refine xg (ci := 8) S inX8 rfl hK hP cW_0 9 (by decide) rfl kw_5_192 rfl dX8_refresh_1 ?_
  refine lv_if_eq (tgt := 40) hx hb dX8_refresh_4 (by decide) (fun c_4 => ?_) (fun c_4 => ?_)
  · have hok := hok.1 c_4
    exact yEndv S hr hlocks hP hD hS (Nat.le_of_ble_eq_true rfl) (Nat.le_of_ble_eq_true rfl) dX8_refresh_40 hok
  · have hok := hok.2 c_4
    refine lv_aload_n hx hb dX8_refresh_7 rfl (lv_at hl 0 rfl) ?_
    refine xg (ci := 8) S inX8 rfl hK hP cW_0 2 (by decide) rfl kw_5_185 rfl dX8_refresh_8 ?_
    refine yVv (As := []) (cw := (cW o u cI cZ cJ T)) (ci := 4) S (v_X4_find l D cI cZ cJ o u T ra ga σ _ H.size hok) mi_X4_find kw_1_127 rfl rfl ⟨Nat.le_of_ble_eq_true rfl, Nat.le_of_ble_eq_true rfl⟩ hP hD hK hS hA hB cW_20 rfl rfl hl.1 (Nat.le_of_ble_eq_true rfl) ⟨Nat.le_of_ble_eq_true rfl, Nat.le_of_ble_eq_true rfl⟩ dX8_refresh_11 (fun σ1 H locs hok hz hP hD hS => ?_)
    refine lv_aload_n hx hb dX8_refresh_14 rfl (lv_at hl 0 rfl) ?_
    refine xg (ci := 8) S inX8 rfl hK hP cW_0 3 (by decide) rfl kw_5_186 rfl dX8_refresh_15 ?_
    refine yVv (As := []) (cw := (cW o u cI cZ cJ T)) (ci := 2) S (v_X2_find l D cI cZ cJ o u T ra ga σ1 _ H.size hok) mi_X2_find kw_1_229 rfl rfl ⟨Nat.le_of_ble_eq_true rfl, Nat.le_of_ble_eq_true rfl⟩ hP hD hK hS hA hB cW_34 rfl rfl hl.1 (Nat.le_of_ble_eq_true rfl) ⟨Nat.le_of_ble_eq_true rfl, Nat.le_of_ble_eq_true rfl⟩ dX8_refresh_18 (fun σ2 H locs hok hz hP hD hS => ?_)
    refine lv_aload_n hx hb dX8_refresh_21 rfl (lv_at hl 0 rfl) ?_
    refine xg (ci := 8) S inX8 rfl hK hP cW_0 4 (by decide) rfl kw_5_187 rfl dX8_refresh_22 ?_
    refine yVv (As := []) (cw := (cW o u cI cZ cJ T)) (ci := 0) S (v_X0_forget_39 l D cI cZ cJ o u T ra ga σ2 _ H.size hok) mi_X0_forget kw_2_50 rfl rfl ⟨Nat.le_of_ble_eq_true rfl, Nat.le_of_ble_eq_true rfl⟩ hP hD hK hS hA hB cW_39 rfl rfl hl.1 (Nat.le_of_ble_eq_true rfl) ⟨Nat.le_of_ble_eq_true rfl, Nat.le_of_ble_eq_true rfl⟩ dX8_refresh_25 (fun σ3 H locs hok hz hP hD hS => ?_)
    refine lv_aload_n hx hb dX8_refresh_28 rfl (lv_at hl 0 rfl) ?_
    refine xg (ci := 8) S inX8 rfl hK hP cW_0 5 (by decide) rfl kw_5_188 rfl dX8_refresh_29 ?_
    refine yVv (As := []) (cw := (cW o u cI cZ cJ T)) (ci := 0) S (v_X0_forget_52 l D cI cZ cJ o u T ra ga σ3 _ H.size hok) mi_X0_forget kw_2_50 rfl rfl ⟨Nat.le_of_ble_eq_true rfl, Nat.le_of_ble_eq_true rfl⟩ hP hD hK hS hA hB cW_52 rfl rfl hl.1 (Nat.le_of_ble_eq_true rfl) ⟨Nat.le_of_ble_eq_true rfl, Nat.le_of_ble_eq_true rfl⟩ dX8_refresh_32 (fun σ4 H locs hok hz hP hD hS => ?_)
    refine lv_aload_n hx hb dX8_refresh_35 rfl (lv_at hl 0 rfl) ?_
    refine lv_iconst (v := 0) hx hb dX8_refresh_36 (by decide) ?_
    refine yp (ci := 8) (v := .int 0) (cw := (cW o u cI cZ cJ T)) S inX8 tyX8 tyX8_ok nmX8 rfl hK hP hD hS cW_0 9 (by decide) kw_5_192 rfl rfl rfl rfl (Nat.le_of_ble_eq_true rfl) dX8_refresh_37 cWp_0_9 (fun σ5 H locs eσ5 hP hD hS => ?_)
    have hok := hok σ5 eσ5
    exact yEndv S hr hlocks hP hD hS (Nat.le_of_ble_eq_true rfl) (Nat.le_of_ble_eq_true rfl) dX8_refresh_40 hok

set_option maxHeartbeats 8000000 in
set_option maxRecDepth 100000 in
theorem v_X0_isPushed_39 (l : Launch) (D : va_G) (cI cZ cJ : ClassId) (o : Nat) (u : Nat → Nat) (T : Nat) (ra : Nat → Nat) (ga : SG) (σ : FS) (a1 : Int32) (Φ : Int32 → FS → Prop) (sz : Nat) (hok : (wp_X0_isPushed 39 σ a1 Φ)) : Met l yX0_isPushed (uW yX0_isPushed cX0_isPushed 2 (some .boolean)) ({ frames := 0, cells := 0, slots := 0, locals := 0 }) (va_Pc [.ref (u 38), .int a1] (aS ra ga D (tyL cI cZ cJ) (cW o u cI cZ cJ T σ) sz)) (yQi Φ D (cW o u cI cZ cJ T) (va_A (cW o u cI cZ cJ T σ) sz)) 0 0 (va_A (cW o u cI cZ cJ T σ) sz) := by
  refine aStart (lv := [(0, .ref (u 38)), (1, .int a1)]) (Qc := fun A => yQi Φ D (cW o u cI cZ cJ T) A) (by decide) (Nat.le_of_ble_eq_true rfl) rfl ?_
  intro p e s m args below meth c ls A H S hr hlocks hnm hl hK hP hD hS hA hB
  have hx := S.1
  have hb := S.2.1
  refine lv_aload_n hx hb dX0_isPushed_0 rfl (lv_at hl 0 rfl) ?_
  refine xg (ci := 0) S inX0 rfl hK hP cW_39 2 (by decide) rfl kw_4_217 rfl dX0_isPushed_1 ?_
  refine xg (ci := 4) S inX4 rfl hK hP cW_20 7 (by decide) rfl kw_4_105 rfl dX0_isPushed_4 ?_
  refine lv_iload_n hx hb dX0_isPushed_7 rfl (lv_at hl 1 rfl) ?_
  have h_8 := hok.1
  have hok := hok.2
  refine xzald (t0 := 1) (v := (g σ 26 a1)) S hK hP cW_26 rfl h_8 rfl dX0_isPushed_8 ?_
  refine lv_if_eq (tgt := 25) hx hb dX0_isPushed_9 (by decide) (fun c_9 => ?_) (fun c_9 => ?_)
  · have hok := hok.1 c_9
    refine lv_iconst (v := 0) hx hb dX0_isPushed_25 (by decide) ?_
    exact yEndZ S hr hlocks hP hD hS (Nat.le_of_ble_eq_true rfl) (Nat.le_of_ble_eq_true rfl) dX0_isPushed_26 rfl hok
  · have hok := hok.2 c_9
    refine lv_aload_n hx hb dX0_isPushed_12 rfl (lv_at hl 0 rfl) ?_
    refine xg (ci := 0) S inX0 rfl hK hP cW_39 3 (by decide) rfl kw_4_218 rfl dX0_isPushed_13 ?_
    refine lv_iconst (v := 1) hx hb dX0_isPushed_16 (by decide) ?_
    refine xiand (v := (σ.1 39 3) &&& 1) S dX0_isPushed_17 rfl ?_
    refine lv_if_eq (tgt := 25) hx hb dX0_isPushed_18 (by decide) (fun c_18 => ?_) (fun c_18 => ?_)
    · have hok := hok.1 c_18
      refine lv_iconst (v := 0) hx hb dX0_isPushed_25 (by decide) ?_
      exact yEndZ S hr hlocks hP hD hS (Nat.le_of_ble_eq_true rfl) (Nat.le_of_ble_eq_true rfl) dX0_isPushed_26 rfl hok
    · have hok := hok.2 c_18
      refine lv_iconst (v := 1) hx hb dX0_isPushed_21 (by decide) ?_
      refine lv_goto (tgt := 26) hx hb dX0_isPushed_22 (by decide) ?_
      exact yEndZ S hr hlocks hP hD hS (Nat.le_of_ble_eq_true rfl) (Nat.le_of_ble_eq_true rfl) dX0_isPushed_26 rfl hok

set_option maxHeartbeats 8000000 in
set_option maxRecDepth 100000 in
theorem v_X0_lengthOfPart_39 (l : Launch) (D : va_G) (cI cZ cJ : ClassId) (o : Nat) (u : Nat → Nat) (T : Nat) (ra : Nat → Nat) (ga : SG) (σ : FS) (a1 : Int32) (Φ : Int32 → FS → Prop) (sz : Nat) (hok : (wp_X0_lengthOfPart 39 σ a1 Φ)) : Met l yX0_lengthOfPart (uW yX0_lengthOfPart cX0_lengthOfPart 2 (some .int)) ({ frames := 0, cells := 0, slots := 0, locals := 0 }) (va_Pc [.ref (u 38), .int a1] (aS ra ga D (tyL cI cZ cJ) (cW o u cI cZ cJ T σ) sz)) (yQi Φ D (cW o u cI cZ cJ T) (va_A (cW o u cI cZ cJ T σ) sz)) 0 0 (va_A (cW o u cI cZ cJ T σ) sz) := by
  refine aStart (lv := [(0, .ref (u 38)), (1, .int a1)]) (Qc := fun A => yQi Φ D (cW o u cI cZ cJ T) A) (by decide) (Nat.le_of_ble_eq_true rfl) rfl ?_
  intro p e s m args below meth c ls A H S hr hlocks hnm hl hK hP hD hS hA hB
  have hx := S.1
  have hb := S.2.1
  refine lv_iload_n hx hb dX0_lengthOfPart_0 rfl (lv_at hl 1 rfl) ?_
  refine lv_iconst (v := (-1)) hx hb dX0_lengthOfPart_1 (by decide) ?_
  refine lv_icmp_ne (tgt := 9) hx hb dX0_lengthOfPart_2 (by decide) (fun c_2 => ?_) (fun c_2 => ?_)
  · have hok := hok.2 c_2
    refine lv_aload_n hx hb dX0_lengthOfPart_9 rfl (lv_at hl 0 rfl) ?_
    refine xg (ci := 0) S inX0 rfl hK hP cW_39 14 (by decide) rfl kw_5_4 rfl dX0_lengthOfPart_10 ?_
    refine lv_iload_n hx hb dX0_lengthOfPart_13 rfl (lv_at hl 1 rfl) ?_
    have h_14 := hok.1
    have hok := hok.2
    refine xiald (t0 := 0) (v := (g σ 49 a1)) S hK hP cW_49 rfl h_14 rfl dX0_lengthOfPart_14 ?_
    exact yEnd S hr hlocks hP hD hS (Nat.le_of_ble_eq_true rfl) (Nat.le_of_ble_eq_true rfl) dX0_lengthOfPart_15 hok
  · have hok := hok.1 c_2
    refine lv_iconst (v := 0) hx hb dX0_lengthOfPart_5 (by decide) ?_
    refine lv_goto (tgt := 15) hx hb dX0_lengthOfPart_6 (by decide) ?_
    exact yEnd S hr hlocks hP hD hS (Nat.le_of_ble_eq_true rfl) (Nat.le_of_ble_eq_true rfl) dX0_lengthOfPart_15 hok

set_option maxHeartbeats 8000000 in
set_option maxRecDepth 100000 in
theorem v_X0_isJump_39 (l : Launch) (D : va_G) (cI cZ cJ : ClassId) (o : Nat) (u : Nat → Nat) (T : Nat) (ra : Nat → Nat) (ga : SG) (σ : FS) (a1 : Int32) (Φ : Int32 → FS → Prop) (sz : Nat) (hok : (wp_X0_isJump 39 σ a1 Φ)) : Met l yX0_isJump (uW yX0_isJump cX0_isJump 2 (some .boolean)) ({ frames := 0, cells := 0, slots := 0, locals := 0 }) (va_Pc [.ref (u 38), .int a1] (aS ra ga D (tyL cI cZ cJ) (cW o u cI cZ cJ T σ) sz)) (yQi Φ D (cW o u cI cZ cJ T) (va_A (cW o u cI cZ cJ T σ) sz)) 0 0 (va_A (cW o u cI cZ cJ T σ) sz) := by
  refine aStart (lv := [(0, .ref (u 38)), (1, .int a1)]) (Qc := fun A => yQi Φ D (cW o u cI cZ cJ T) A) (by decide) (Nat.le_of_ble_eq_true rfl) rfl ?_
  intro p e s m args below meth c ls A H S hr hlocks hnm hl hK hP hD hS hA hB
  have hx := S.1
  have hb := S.2.1
  refine lv_aload_n hx hb dX0_isJump_0 rfl (lv_at hl 0 rfl) ?_
  refine xg (ci := 0) S inX0 rfl hK hP cW_39 2 (by decide) rfl kw_4_217 rfl dX0_isJump_1 ?_
  refine xg (ci := 4) S inX4 rfl hK hP cW_20 9 (by decide) rfl kw_4_110 rfl dX0_isJump_4 ?_
  refine lv_iload_n hx hb dX0_isJump_7 rfl (lv_at hl 1 rfl) ?_
  have h_8 := hok.1
  have hok := hok.2
  refine xzald (t0 := 1) (v := (g σ 28 a1)) S hK hP cW_28 rfl h_8 rfl dX0_isJump_8 ?_
  refine lv_if_eq (tgt := 25) hx hb dX0_isJump_9 (by decide) (fun c_9 => ?_) (fun c_9 => ?_)
  · have hok := hok.1 c_9
    refine lv_iconst (v := 0) hx hb dX0_isJump_25 (by decide) ?_
    exact yEndZ S hr hlocks hP hD hS (Nat.le_of_ble_eq_true rfl) (Nat.le_of_ble_eq_true rfl) dX0_isJump_26 rfl hok
  · have hok := hok.2 c_9
    refine lv_aload_n hx hb dX0_isJump_12 rfl (lv_at hl 0 rfl) ?_
    refine xg (ci := 0) S inX0 rfl hK hP cW_39 3 (by decide) rfl kw_4_218 rfl dX0_isJump_13 ?_
    refine lv_iconst (v := 2) hx hb dX0_isJump_16 (by decide) ?_
    refine xiand (v := (σ.1 39 3) &&& 2) S dX0_isJump_17 rfl ?_
    refine lv_if_eq (tgt := 25) hx hb dX0_isJump_18 (by decide) (fun c_18 => ?_) (fun c_18 => ?_)
    · have hok := hok.1 c_18
      refine lv_iconst (v := 0) hx hb dX0_isJump_25 (by decide) ?_
      exact yEndZ S hr hlocks hP hD hS (Nat.le_of_ble_eq_true rfl) (Nat.le_of_ble_eq_true rfl) dX0_isJump_26 rfl hok
    · have hok := hok.2 c_18
      refine lv_iconst (v := 1) hx hb dX0_isJump_21 (by decide) ?_
      refine lv_goto (tgt := 26) hx hb dX0_isJump_22 (by decide) ?_
      exact yEndZ S hr hlocks hP hD hS (Nat.le_of_ble_eq_true rfl) (Nat.le_of_ble_eq_true rfl) dX0_isJump_26 rfl hok

set_option maxHeartbeats 8000000 in
set_option maxRecDepth 100000 in
theorem v_X0_ownLength_39 (l : Launch) (D : va_G) (cI cZ cJ : ClassId) (o : Nat) (u : Nat → Nat) (T : Nat) (ra : Nat → Nat) (ga : SG) (σ : FS) (a1 : Int32) (Φ : Int32 → FS → Prop) (sz : Nat) (hok : (wp_X0_ownLength 39 σ a1 Φ)) : Met l yX0_ownLength (uW yX0_ownLength cX0_ownLength 2 (some .int)) ({ frames := 1, cells := 0, slots := 0, locals := 21 }) (va_Pc [.ref (u 38), .int a1] (aS ra ga D (tyL cI cZ cJ) (cW o u cI cZ cJ T σ) sz)) (yQi Φ D (cW o u cI cZ cJ T) (va_A (cW o u cI cZ cJ T σ) sz)) 0 0 (va_A (cW o u cI cZ cJ T σ) sz) := by
  refine aStart (lv := [(0, .ref (u 38)), (1, .int a1)]) (Qc := fun A => yQi Φ D (cW o u cI cZ cJ T) A) (by decide) (Nat.le_of_ble_eq_true rfl) rfl ?_
  intro p e s m args below meth c ls A H S hr hlocks hnm hl hK hP hD hS hA hB
  have hx := S.1
  have hb := S.2.1
  refine lv_aload_n hx hb dX0_ownLength_0 rfl (lv_at hl 0 rfl) ?_
  refine xg (ci := 0) S inX0 rfl hK hP cW_39 1 (by decide) rfl kw_4_216 rfl dX0_ownLength_1 ?_
  refine xg (ci := 5) S inX5 rfl hK hP cW_13 1 (by decide) rfl kw_4_44 rfl dX0_ownLength_4 ?_
  refine lv_iload_n hx hb dX0_ownLength_7 rfl (lv_at hl 1 rfl) ?_
  have h_8 := hok.1
  have hok := hok.2
  refine xiald (t0 := 0) (v := (g σ 14 a1)) S hK hP cW_14 rfl h_8 rfl dX0_ownLength_8 ?_
  refine lv_topi (fun x1 ex1 => ?_)
  have hok := hok x1 ex1
  by_cases k_9_0 : x1 = 9
  · have hok := hok.1 k_9_0
    rw [k_9_0]
    refine lv_tableIn (off := 57) (tgt := 66) hx hb dX0_ownLength_9 (by decide) (by decide) (by decide) (by decide) ?_
    refine lv_aload_n hx hb dX0_ownLength_66 rfl (lv_at hl 0 rfl) ?_
    refine xg (ci := 0) S inX0 rfl hK hP cW_39 2 (by decide) rfl kw_4_217 rfl dX0_ownLength_67 ?_
    refine xg (ci := 4) S inX4 rfl hK hP cW_20 10 (by decide) rfl kw_4_114 rfl dX0_ownLength_70 ?_
    refine lv_iload_n hx hb dX0_ownLength_73 rfl (lv_at hl 1 rfl) ?_
    have h_74 := hok.1
    have hok := hok.2
    refine xiald (t0 := 0) (v := (g σ 29 a1)) S hK hP cW_29 rfl h_74 rfl dX0_ownLength_74 ?_
    refine lv_iconst (v := 2) hx hb dX0_ownLength_75 (by decide) ?_
    refine lv_icmp_ne (tgt := 83) hx hb dX0_ownLength_76 (by decide) (fun c_76 => ?_) (fun c_76 => ?_)
    · have hok := hok.2 c_76
      refine lv_iconst (v := 0) hx hb dX0_ownLength_83 (by decide) ?_
      exact yEnd S hr hlocks hP hD hS (Nat.le_of_ble_eq_true rfl) (Nat.le_of_ble_eq_true rfl) dX0_ownLength_84 hok
    · have hok := hok.1 c_76
      refine lv_iconst (v := 2) hx hb dX0_ownLength_79 (by decide) ?_
      refine lv_goto (tgt := 84) hx hb dX0_ownLength_80 (by decide) ?_
      exact yEnd S hr hlocks hP hD hS (Nat.le_of_ble_eq_true rfl) (Nat.le_of_ble_eq_true rfl) dX0_ownLength_84 hok
  · have hok := hok.2 k_9_0
    by_cases k_9_1 : x1 = 10
    · have hok := hok.1 k_9_1
      rw [k_9_1]
      refine lv_tableIn (off := 111) (tgt := 120) hx hb dX0_ownLength_9 (by decide) (by decide) (by decide) (by decide) ?_
      refine lv_iconst (v := 1) hx hb dX0_ownLength_120 (by decide) ?_
      exact yEnd S hr hlocks hP hD hS (Nat.le_of_ble_eq_true rfl) (Nat.le_of_ble_eq_true rfl) dX0_ownLength_121 hok
    · have hok := hok.2 k_9_1
      by_cases k_9_2 : x1 = 11
      · have hok := hok.1 k_9_2
        rw [k_9_2]
        refine lv_tableIn (off := 111) (tgt := 120) hx hb dX0_ownLength_9 (by decide) (by decide) (by decide) (by decide) ?_
        refine lv_iconst (v := 1) hx hb dX0_ownLength_120 (by decide) ?_
        exact yEnd S hr hlocks hP hD hS (Nat.le_of_ble_eq_true rfl) (Nat.le_of_ble_eq_true rfl) dX0_ownLength_121 hok
      · have hok := hok.2 k_9_2
        by_cases k_9_3 : x1 = 12
        · have hok := hok.1 k_9_3
          rw [k_9_3]
          refine lv_tableIn (off := 55) (tgt := 64) hx hb dX0_ownLength_9 (by decide) (by decide) (by decide) (by decide) ?_
          refine lv_iconst (v := 0) hx hb dX0_ownLength_64 (by decide) ?_
          exact yEnd S hr hlocks hP hD hS (Nat.le_of_ble_eq_true rfl) (Nat.le_of_ble_eq_true rfl) dX0_ownLength_65 hok
        · have hok := hok.2 k_9_3
          by_cases k_9_4 : x1 = 13
          · have hok := hok.1 k_9_4
            rw [k_9_4]
            refine lv_tableIn (off := 111) (tgt := 120) hx hb dX0_ownLength_9 (by decide) (by decide) (by decide) (by decide) ?_
            refine lv_iconst (v := 1) hx hb dX0_ownLength_120 (by decide) ?_
            exact yEnd S hr hlocks hP hD hS (Nat.le_of_ble_eq_true rfl) (Nat.le_of_ble_eq_true rfl) dX0_ownLength_121 hok
          · have hok := hok.2 k_9_4
            by_cases k_9_5 : x1 = 14
            · have hok := hok.1 k_9_5
              rw [k_9_5]
              refine lv_tableIn (off := 111) (tgt := 120) hx hb dX0_ownLength_9 (by decide) (by decide) (by decide) (by decide) ?_
              refine lv_iconst (v := 1) hx hb dX0_ownLength_120 (by decide) ?_
              exact yEnd S hr hlocks hP hD hS (Nat.le_of_ble_eq_true rfl) (Nat.le_of_ble_eq_true rfl) dX0_ownLength_121 hok
            · have hok := hok.2 k_9_5
              by_cases k_9_6 : x1 = 15
              · have hok := hok.1 k_9_6
                rw [k_9_6]
                refine lv_tableIn (off := 76) (tgt := 85) hx hb dX0_ownLength_9 (by decide) (by decide) (by decide) (by decide) ?_
                refine lv_aload_n hx hb dX0_ownLength_85 rfl (lv_at hl 0 rfl) ?_
                refine xg (ci := 0) S inX0 rfl hK hP cW_39 1 (by decide) rfl kw_4_216 rfl dX0_ownLength_86 ?_
                refine xg (ci := 5) S inX5 rfl hK hP cW_13 2 (by decide) rfl kw_4_48 rfl dX0_ownLength_89 ?_
                refine lv_iload_n hx hb dX0_ownLength_92 rfl (lv_at hl 1 rfl) ?_
                have h_93 := hok.1
                have hok := hok.2
                refine xiald (t0 := 0) (v := (g σ 15 a1)) S hK hP cW_15 rfl h_93 rfl dX0_ownLength_93 ?_
                refine lv_iconst (v := (-1)) hx hb dX0_ownLength_94 (by decide) ?_
                refine lv_icmp_ne (tgt := 102) hx hb dX0_ownLength_95 (by decide) (fun c_95 => ?_) (fun c_95 => ?_)
                · have hok := hok.2 c_95
                  refine lv_iconst (v := 2) hx hb dX0_ownLength_102 (by decide) ?_
                  exact yEnd S hr hlocks hP hD hS (Nat.le_of_ble_eq_true rfl) (Nat.le_of_ble_eq_true rfl) dX0_ownLength_103 hok
                · have hok := hok.1 c_95
                  refine lv_iconst (v := 1) hx hb dX0_ownLength_98 (by decide) ?_
                  refine lv_goto (tgt := 103) hx hb dX0_ownLength_99 (by decide) ?_
                  exact yEnd S hr hlocks hP hD hS (Nat.le_of_ble_eq_true rfl) (Nat.le_of_ble_eq_true rfl) dX0_ownLength_103 hok
              · have hok := hok.2 k_9_6
                by_cases k_9_7 : x1 = 16
                · have hok := hok.1 k_9_7
                  rw [k_9_7]
                  refine lv_tableIn (off := 95) (tgt := 104) hx hb dX0_ownLength_9 (by decide) (by decide) (by decide) (by decide) ?_
                  refine lv_iconst (v := 4) hx hb dX0_ownLength_104 (by decide) ?_
                  exact yEnd S hr hlocks hP hD hS (Nat.le_of_ble_eq_true rfl) (Nat.le_of_ble_eq_true rfl) dX0_ownLength_105 hok
                · have hok := hok.2 k_9_7
                  by_cases k_9_8 : x1 = 17
                  · have hok := hok.1 k_9_8
                    rw [k_9_8]
                    refine lv_tableIn (off := 111) (tgt := 120) hx hb dX0_ownLength_9 (by decide) (by decide) (by decide) (by decide) ?_
                    refine lv_iconst (v := 1) hx hb dX0_ownLength_120 (by decide) ?_
                    exact yEnd S hr hlocks hP hD hS (Nat.le_of_ble_eq_true rfl) (Nat.le_of_ble_eq_true rfl) dX0_ownLength_121 hok
                  · have hok := hok.2 k_9_8
                    by_cases k_9_9 : x1 = 18
                    · have hok := hok.1 k_9_9
                      rw [k_9_9]
                      refine lv_tableIn (off := 97) (tgt := 106) hx hb dX0_ownLength_9 (by decide) (by decide) (by decide) (by decide) ?_
                      refine lv_aload_n hx hb dX0_ownLength_106 rfl (lv_at hl 0 rfl) ?_
                      refine lv_iload_n hx hb dX0_ownLength_107 rfl (lv_at hl 1 rfl) ?_
                      refine yVi (As := [.int a1]) (cw := (cW o u cI cZ cJ T)) (ci := 0) S (v_X0_isJump_39 l D cI cZ cJ o u T ra ga σ a1 _ H.size hok) mi_X0_isJump kw_2_78 rfl rfl ⟨Nat.le_of_ble_eq_true rfl, Nat.le_of_ble_eq_true rfl⟩ hP hD hK hS hA hB cW_39 rfl rfl hl.1 (Nat.le_of_ble_eq_true rfl) ⟨Nat.le_of_ble_eq_true rfl, Nat.le_of_ble_eq_true rfl⟩ dX0_ownLength_108 (fun x3 σ2 H locs hok hz hP hD hS => ?_)
                      refine lv_if_eq (tgt := 118) hx hb dX0_ownLength_111 (by decide) (fun c_111 => ?_) (fun c_111 => ?_)
                      · have hok := hok.1 c_111
                        refine lv_iconst (v := 1) hx hb dX0_ownLength_118 (by decide) ?_
                        exact yEnd S hr hlocks hP hD hS (Nat.le_of_ble_eq_true rfl) (Nat.le_of_ble_eq_true rfl) dX0_ownLength_119 hok
                      · have hok := hok.2 c_111
                        refine lv_iconst (v := 0) hx hb dX0_ownLength_114 (by decide) ?_
                        refine lv_goto (tgt := 119) hx hb dX0_ownLength_115 (by decide) ?_
                        exact yEnd S hr hlocks hP hD hS (Nat.le_of_ble_eq_true rfl) (Nat.le_of_ble_eq_true rfl) dX0_ownLength_119 hok
                    · have hok := hok.2 k_9_9
                      have q_9_0 := sw_ni k_9_0 (z := 9) (by decide)
                      have q_9_1 := sw_ni k_9_1 (z := 10) (by decide)
                      have q_9_2 := sw_ni k_9_2 (z := 11) (by decide)
                      have q_9_3 := sw_ni k_9_3 (z := 12) (by decide)
                      have q_9_4 := sw_ni k_9_4 (z := 13) (by decide)
                      have q_9_5 := sw_ni k_9_5 (z := 14) (by decide)
                      have q_9_6 := sw_ni k_9_6 (z := 15) (by decide)
                      have q_9_7 := sw_ni k_9_7 (z := 16) (by decide)
                      have q_9_8 := sw_ni k_9_8 (z := 17) (by decide)
                      have q_9_9 := sw_ni k_9_9 (z := 18) (by decide)
                      refine lv_tableOut (tgt := 120) hx hb dX0_ownLength_9 (by omega) (by decide) ?_
                      refine lv_iconst (v := 1) hx hb dX0_ownLength_120 (by decide) ?_
                      exact yEnd S hr hlocks hP hD hS (Nat.le_of_ble_eq_true rfl) (Nat.le_of_ble_eq_true rfl) dX0_ownLength_121 hok

set_option maxHeartbeats 8000000 in
set_option maxRecDepth 100000 in
theorem v_X0_clear_39 (l : Launch) (D : va_G) (cI cZ cJ : ClassId) (o : Nat) (u : Nat → Nat) (T : Nat) (ra : Nat → Nat) (ga : SG) (σ : FS) (a1 : Int32) (a2 : Int32) (Φ : FS → Prop) (sz : Nat) (hok : (wp_X0_clear 39 σ a1 a2 Φ)) : Met l yX0_clear (uW yX0_clear cX0_clear 4 none) ({ frames := 0, cells := 0, slots := 0, locals := 0 }) (va_Pc [.ref (u 38), .int a1, .int a2] (aS ra ga D (tyL cI cZ cJ) (cW o u cI cZ cJ T σ) sz)) (yQv Φ D (cW o u cI cZ cJ T) (va_A (cW o u cI cZ cJ T σ) sz)) 0 0 (va_A (cW o u cI cZ cJ T σ) sz) := by
  refine aStart (lv := [(0, .ref (u 38)), (1, .int a1), (2, .int a2)]) (Qc := fun A => yQv Φ D (cW o u cI cZ cJ T) A) (by decide) (Nat.le_of_ble_eq_true rfl) rfl ?_
  intro p e s m args below meth c ls A H S hr hlocks hnm hl hK hP hD hS hA hB
  have hx := S.1
  have hb := S.2.1
  refine lv_iload_n hx hb dX0_clear_0 rfl (lv_at hl 1 rfl) ?_
  refine lv_istore_n (lv' := [(3, .int a1), (0, .ref (u 38)), (1, .int a1), (2, .int a2)]) hx hb dX0_clear_1 rfl hl (by decide) rfl (fun ls hl => ?_)
  have lp2 : ∀ (K : FS → Int32 → Prop), (∀ (τ0 : FS) (l3_0 : Int32) (H : Heap) (locs : List Loc) (ls : Array Slot), K τ0 l3_0 → lv_has ls 4 [(3, .int l3_0), (0, .ref (u 38)), (1, .int a1), (2, .int a2)] → va_P D vwCl (cW o u cI cZ cJ T τ0) H → va_D A (cW o u cI cZ cJ T τ0) → va_S A s.heap H locs → W p l e ({ frames := 0, cells := 0, slots := 0, locals := 0 }) s m args below meth c H locs 0 0 (MQ below (yQv Φ D (cW o u cI cZ cJ T) A) args s 0 0 A) (F0 m 34 ls [])) → ∀ (n0 : Nat) (τ0 : FS) (l3_0 : Int32) (H : Heap) (locs : List Loc) (ls : Array Slot), wp_X0_clear_2 39 a1 a2 Φ K n0 τ0 l3_0 → lv_has ls 4 [(3, .int l3_0), (0, .ref (u 38)), (1, .int a1), (2, .int a2)] → va_P D vwCl (cW o u cI cZ cJ T τ0) H → va_D A (cW o u cI cZ cJ T τ0) → va_S A s.heap H locs → W p l e ({ frames := 0, cells := 0, slots := 0, locals := 0 }) s m args below meth c H locs 0 0 (MQ below (yQv Φ D (cW o u cI cZ cJ T) A) args s 0 0 A) (F0 m 2 ls []) := by
    intro K hk n0
    induction n0 with
    | zero => intro τ0 l3_0 H locs ls hok; exact False.elim hok
    | succ n0 ih2 =>
      intro τ0 l3_0 H locs ls hok hl hP hD hS
      refine lv_iload_n hx hb dX0_clear_2 rfl (lv_at hl 0 rfl) ?_
      refine lv_iload_n hx hb dX0_clear_3 rfl (lv_at hl 3 rfl) ?_
      refine lv_icmp_ge (tgt := 34) hx hb dX0_clear_4 (by decide) (fun c_4 => ?_) (fun c_4 => ?_)
      · have hok := hok.1 c_4
        exact hk τ0 l3_0 H locs ls hok (lv_sub hl [0, 1, 2, 3] rfl) hP hD hS
      · have hok := hok.2 c_4
        refine lv_iload_n hx hb dX0_clear_7 rfl (lv_at hl 0 rfl) ?_
        refine lv_sipush (v := 460) hx hb dX0_clear_8 (by decide) ?_
        refine lv_icmp_ge (tgt := 34) hx hb dX0_clear_11 (by decide) (fun c_11 => ?_) (fun c_11 => ?_)
        · have hok := hok.1 c_11
          exact hk τ0 l3_0 H locs ls hok (lv_sub hl [0, 1, 2, 3] rfl) hP hD hS
        · have hok := hok.2 c_11
          refine lv_aload_n hx hb dX0_clear_14 rfl (lv_at hl 1 rfl) ?_
          refine xg (ci := 0) S inX0 rfl hK hP cW_39 11 (by decide) rfl kw_4_238 rfl dX0_clear_15 ?_
          refine lv_iload_n hx hb dX0_clear_18 rfl (lv_at hl 0 rfl) ?_
          refine lv_iconst (v := (-1)) hx hb dX0_clear_19 (by decide) ?_
          have h_20 := hok.1
          have hok := hok.2
          refine yiast (t0 := 0) (cw := (cW o u cI cZ cJ T)) S hK hP hD hS cW_46 rfl h_20 dX0_clear_20 cWa_46 (fun σ1 H locs eσ1 hP hD hS => ?_)
          have hok := hok σ1 eσ1
          refine lv_aload_n hx hb dX0_clear_21 rfl (lv_at hl 1 rfl) ?_
          refine xg (ci := 0) S inX0 rfl hK hP cW_39 12 (by decide) rfl kw_5_0 rfl dX0_clear_22 ?_
          refine lv_iload_n hx hb dX0_clear_25 rfl (lv_at hl 0 rfl) ?_
          refine lv_iconst (v := 0) hx hb dX0_clear_26 (by decide) ?_
          have h_27 := hok.1
          have hok := hok.2
          refine yiast (t0 := 0) (cw := (cW o u cI cZ cJ T)) S hK hP hD hS cW_47 rfl h_27 dX0_clear_27 cWa_47 (fun σ2 H locs eσ2 hP hD hS => ?_)
          have hok := hok σ2 eσ2
          refine lv_iinc (v := l3_0 + 1) (lv' := [(3, .int (l3_0 + 1)), (0, .ref (u 38)), (1, .int a1), (2, .int a2)]) hx hb dX0_clear_28 hl (k := 0) rfl rfl (by decide) rfl (fun ls hl => ?_)
          refine lv_goto (tgt := 2) hx hb dX0_clear_31 (by decide) ?_
          exact ih2 σ2 (l3_0 + 1) H locs ls hok (lv_sub hl [0, 1, 2, 3] rfl) hP hD hS
  refine lp2 _ ?_ FUEL σ a1 _ _ _ hok (lv_sub hl [0, 1, 2, 3] rfl) hP hD hS
  intro σ3 x4 H locs ls hok hl hP hD hS
  exact yEndv S hr hlocks hP hD hS (Nat.le_of_ble_eq_true rfl) (Nat.le_of_ble_eq_true rfl) dX0_clear_34 hok

set_option maxHeartbeats 8000000 in
set_option maxRecDepth 100000 in
theorem v_X0_put_39 (l : Launch) (D : va_G) (cI cZ cJ : ClassId) (o : Nat) (u : Nat → Nat) (T : Nat) (ra : Nat → Nat) (ga : SG) (σ : FS) (a1 : Int32) (a2 : Int32) (a3 : Int32) (a4 : Int32) (a5 : Int32) (Φ : FS → Prop) (sz : Nat) (hok : (wp_X0_put 39 σ a1 a2 a3 a4 a5 Φ)) : Met l yX0_put (uW yX0_put cX0_put 6 none) ({ frames := 0, cells := 0, slots := 0, locals := 0 }) (va_Pc [.ref (u 38), .int a1, .int a2, .int a3, .int a4, .int a5] (aS ra ga D (tyL cI cZ cJ) (cW o u cI cZ cJ T σ) sz)) (yQv Φ D (cW o u cI cZ cJ T) (va_A (cW o u cI cZ cJ T σ) sz)) 0 0 (va_A (cW o u cI cZ cJ T σ) sz) := by
  refine aStart (lv := [(0, .ref (u 38)), (1, .int a1), (2, .int a2), (3, .int a3), (4, .int a4), (5, .int a5)]) (Qc := fun A => yQv Φ D (cW o u cI cZ cJ T) A) (by decide) (Nat.le_of_ble_eq_true rfl) rfl ?_
  intro p e s m args below meth c ls A H S hr hlocks hnm hl hK hP hD hS hA hB
  have hx := S.1
  have hb := S.2.1
  refine lv_iload_n hx hb dX0_put_0 rfl (lv_at hl 1 rfl) ?_
  refine lv_if_lt (tgt := 41) hx hb dX0_put_1 (by decide) (fun c_1 => ?_) (fun c_1 => ?_)
  · have hok := hok.1 c_1
    exact yEndv S hr hlocks hP hD hS (Nat.le_of_ble_eq_true rfl) (Nat.le_of_ble_eq_true rfl) dX0_put_41 hok
  · have hok := hok.2 c_1
    refine lv_iload_n hx hb dX0_put_4 rfl (lv_at hl 1 rfl) ?_
    refine lv_sipush (v := 460) hx hb dX0_put_5 (by decide) ?_
    refine lv_icmp_ge (tgt := 41) hx hb dX0_put_8 (by decide) (fun c_8 => ?_) (fun c_8 => ?_)
    · have hok := hok.1 c_8
      exact yEndv S hr hlocks hP hD hS (Nat.le_of_ble_eq_true rfl) (Nat.le_of_ble_eq_true rfl) dX0_put_41 hok
    · have hok := hok.2 c_8
      refine lv_aload_n hx hb dX0_put_11 rfl (lv_at hl 0 rfl) ?_
      refine xg (ci := 0) S inX0 rfl hK hP cW_39 7 (by decide) rfl kw_4_227 rfl dX0_put_12 ?_
      refine lv_iload_n hx hb dX0_put_15 rfl (lv_at hl 1 rfl) ?_
      refine lv_iload_n hx hb dX0_put_16 rfl (lv_at hl 2 rfl) ?_
      have h_17 := hok.1
      have hok := hok.2
      refine yiast (t0 := 0) (cw := (cW o u cI cZ cJ T)) S hK hP hD hS cW_42 rfl h_17 dX0_put_17 cWa_42 (fun σ1 H locs eσ1 hP hD hS => ?_)
      have hok := hok σ1 eσ1
      refine lv_aload_n hx hb dX0_put_18 rfl (lv_at hl 0 rfl) ?_
      refine xg (ci := 0) S inX0 rfl hK hP cW_39 8 (by decide) rfl kw_4_230 rfl dX0_put_19 ?_
      refine lv_iload_n hx hb dX0_put_22 rfl (lv_at hl 1 rfl) ?_
      refine lv_iload_n hx hb dX0_put_23 rfl (lv_at hl 3 rfl) ?_
      have h_24 := hok.1
      have hok := hok.2
      refine yiast (t0 := 0) (cw := (cW o u cI cZ cJ T)) S hK hP hD hS cW_43 rfl h_24 dX0_put_24 cWa_43 (fun σ2 H locs eσ2 hP hD hS => ?_)
      have hok := hok σ2 eσ2
      refine lv_aload_n hx hb dX0_put_25 rfl (lv_at hl 0 rfl) ?_
      refine xg (ci := 0) S inX0 rfl hK hP cW_39 9 (by decide) rfl kw_4_233 rfl dX0_put_26 ?_
      refine lv_iload_n hx hb dX0_put_29 rfl (lv_at hl 1 rfl) ?_
      refine lv_iload hx hb dX0_put_30 (lv_at hl 4 rfl) ?_
      have h_32 := hok.1
      have hok := hok.2
      refine yiast (t0 := 0) (cw := (cW o u cI cZ cJ T)) S hK hP hD hS cW_44 rfl h_32 dX0_put_32 cWa_44 (fun σ3 H locs eσ3 hP hD hS => ?_)
      have hok := hok σ3 eσ3
      refine lv_aload_n hx hb dX0_put_33 rfl (lv_at hl 0 rfl) ?_
      refine xg (ci := 0) S inX0 rfl hK hP cW_39 10 (by decide) rfl kw_4_236 rfl dX0_put_34 ?_
      refine lv_iload_n hx hb dX0_put_37 rfl (lv_at hl 1 rfl) ?_
      refine lv_iload hx hb dX0_put_38 (lv_at hl 5 rfl) ?_
      have h_40 := hok.1
      have hok := hok.2
      refine yiast (t0 := 0) (cw := (cW o u cI cZ cJ T)) S hK hP hD hS cW_45 rfl h_40 dX0_put_40 cWa_45 (fun σ4 H locs eσ4 hP hD hS => ?_)
      have hok := hok σ4 eσ4
      exact yEndv S hr hlocks hP hD hS (Nat.le_of_ble_eq_true rfl) (Nat.le_of_ble_eq_true rfl) dX0_put_41 hok

set_option maxHeartbeats 8000000 in
set_option maxRecDepth 100000 in
theorem v_X0_placeProcedures_39 (l : Launch) (D : va_G) (cI cZ cJ : ClassId) (o : Nat) (u : Nat → Nat) (T : Nat) (ra : Nat → Nat) (ga : SG) (σ : FS) (Φ : FS → Prop) (sz : Nat) (hok : (wp_X0_placeProcedures 39 σ Φ)) : Met l yX0_placeProcedures (uW yX0_placeProcedures cX0_placeProcedures 4 none) ({ frames := 1, cells := 0, slots := 0, locals := 25 }) (va_Pc [.ref (u 38)] (aS ra ga D (tyL cI cZ cJ) (cW o u cI cZ cJ T σ) sz)) (yQv Φ D (cW o u cI cZ cJ T) (va_A (cW o u cI cZ cJ T σ) sz)) 0 0 (va_A (cW o u cI cZ cJ T σ) sz) := by
  refine aStart (lv := [(0, .ref (u 38))]) (Qc := fun A => yQv Φ D (cW o u cI cZ cJ T) A) (by decide) (Nat.le_of_ble_eq_true rfl) rfl ?_
  intro p e s m args below meth c ls A H S hr hlocks hnm hl hK hP hD hS hA hB
  have hx := S.1
  have hb := S.2.1
  refine lv_aload_n hx hb dX0_placeProcedures_0 rfl (lv_at hl 0 rfl) ?_
  refine lv_iconst (v := 0) hx hb dX0_placeProcedures_1 (by decide) ?_
  refine yp (ci := 0) (v := .int 0) (cw := (cW o u cI cZ cJ T)) S inX0 tyX0 tyX0_ok nmX0 rfl hK hP hD hS cW_39 4 (by decide) kw_4_219 rfl rfl rfl rfl (Nat.le_of_ble_eq_true rfl) dX0_placeProcedures_2 cWp_39_4 (fun σ1 H locs eσ1 hP hD hS => ?_)
  have hok := hok σ1 eσ1
  refine lv_iconst (v := 0) hx hb dX0_placeProcedures_5 (by decide) ?_
  refine lv_istore_n (lv' := [(1, .int 0), (0, .ref (u 38))]) hx hb dX0_placeProcedures_6 rfl hl (by decide) rfl (fun ls hl => ?_)
  have lp7 : ∀ (K : FS → Int32 → Prop), (∀ (τ0 : FS) (l1_0 : Int32) (H : Heap) (locs : List Loc) (ls : Array Slot), K τ0 l1_0 → lv_has ls 4 [(1, .int l1_0), (0, .ref (u 38))] → va_P D vwCl (cW o u cI cZ cJ T τ0) H → va_D A (cW o u cI cZ cJ T τ0) → va_S A s.heap H locs → W p l e ({ frames := 1, cells := 0, slots := 0, locals := 25 }) s m args below meth c H locs 0 0 (MQ below (yQv Φ D (cW o u cI cZ cJ T) A) args s 0 0 A) (F0 m 132 ls [])) → ∀ (n0 : Nat) (τ0 : FS) (l1_0 : Int32) (H : Heap) (locs : List Loc) (ls : Array Slot), wp_X0_placeProcedures_7 39 Φ K n0 τ0 l1_0 → lv_has ls 4 [(1, .int l1_0), (0, .ref (u 38))] → va_P D vwCl (cW o u cI cZ cJ T τ0) H → va_D A (cW o u cI cZ cJ T τ0) → va_S A s.heap H locs → W p l e ({ frames := 1, cells := 0, slots := 0, locals := 25 }) s m args below meth c H locs 0 0 (MQ below (yQv Φ D (cW o u cI cZ cJ T) A) args s 0 0 A) (F0 m 7 ls []) := by
    intro K hk n0
    induction n0 with
    | zero => intro τ0 l1_0 H locs ls hok; exact False.elim hok
    | succ n0 ih7 =>
      intro τ0 l1_0 H locs ls hok hl hP hD hS
      refine lv_iload_n hx hb dX0_placeProcedures_7 rfl (lv_at hl 0 rfl) ?_
      refine lv_aload_n hx hb dX0_placeProcedures_8 rfl (lv_at hl 1 rfl) ?_
      refine xg (ci := 0) S inX0 rfl hK hP cW_39 0 (by decide) rfl kw_4_215 rfl dX0_placeProcedures_9 ?_
      refine xg (ci := 1) S inX1 rfl hK hP cW_1 0 (by decide) rfl kw_3_214 rfl dX0_placeProcedures_12 ?_
      refine lv_icmp_ge (tgt := 132) hx hb dX0_placeProcedures_15 (by decide) (fun c_15 => ?_) (fun c_15 => ?_)
      · have hok := hok.1 c_15
        exact hk τ0 l1_0 H locs ls hok (lv_sub hl [0, 1] rfl) hP hD hS
      · have hok := hok.2 c_15
        refine lv_aload_n hx hb dX0_placeProcedures_18 rfl (lv_at hl 1 rfl) ?_
        refine xg (ci := 0) S inX0 rfl hK hP cW_39 0 (by decide) rfl kw_4_215 rfl dX0_placeProcedures_19 ?_
        refine xg (ci := 1) S inX1 rfl hK hP cW_1 6 (by decide) rfl kw_3_234 rfl dX0_placeProcedures_22 ?_
        refine lv_iload_n hx hb dX0_placeProcedures_25 rfl (lv_at hl 0 rfl) ?_
        have h_26 := hok.1
        have hok := hok.2
        refine xiald (t0 := 0) (v := (g τ0 7 l1_0)) S hK hP cW_7 rfl h_26 rfl dX0_placeProcedures_26 ?_
        refine lv_topi (fun x2 ex2 => ?_)
        have hok := hok x2 ex2
        refine lv_istore_n (lv' := [(2, .int x2), (1, .int l1_0), (0, .ref (u 38))]) hx hb dX0_placeProcedures_27 rfl hl (by decide) rfl (fun ls hl => ?_)
        refine lv_aload_n hx hb dX0_placeProcedures_28 rfl (lv_at hl 2 rfl) ?_
        refine lv_iload_n hx hb dX0_placeProcedures_29 rfl (lv_at hl 0 rfl) ?_
        refine yVi (As := [.int x2]) (cw := (cW o u cI cZ cJ T)) (ci := 0) S (v_X0_lengthOfPart_39 l D cI cZ cJ o u T ra ga τ0 x2 _ H.size hok) mi_X0_lengthOfPart kw_2_68 rfl rfl ⟨Nat.le_of_ble_eq_true rfl, Nat.le_of_ble_eq_true rfl⟩ hP hD hK hS hA hB cW_39 rfl rfl hl.1 (Nat.le_of_ble_eq_true rfl) ⟨Nat.le_of_ble_eq_true rfl, Nat.le_of_ble_eq_true rfl⟩ dX0_placeProcedures_30 (fun x4 σ3 H locs hok hz hP hD hS => ?_)
        refine lv_istore_n (lv' := [(3, .int x4), (2, .int x2), (1, .int l1_0), (0, .ref (u 38))]) hx hb dX0_placeProcedures_33 rfl hl (by decide) rfl (fun ls hl => ?_)
        refine lv_aload_n hx hb dX0_placeProcedures_34 rfl (lv_at hl 3 rfl) ?_
        refine xg (ci := 0) S inX0 rfl hK hP cW_39 5 (by decide) rfl kw_4_222 rfl dX0_placeProcedures_35 ?_
        refine lv_iload_n hx hb dX0_placeProcedures_38 rfl (lv_at hl 2 rfl) ?_
        refine lv_aload_n hx hb dX0_placeProcedures_39 rfl (lv_at hl 3 rfl) ?_
        refine xg (ci := 0) S inX0 rfl hK hP cW_39 4 (by decide) rfl kw_4_219 rfl dX0_placeProcedures_40 ?_
        have h_43 := hok.1
        have hok := hok.2
        refine yiast (t0 := 0) (cw := (cW o u cI cZ cJ T)) S hK hP hD hS cW_40 rfl h_43 dX0_placeProcedures_43 cWa_40 (fun σ5 H locs eσ5 hP hD hS => ?_)
        have hok := hok σ5 eσ5
        refine lv_aload_n hx hb dX0_placeProcedures_44 rfl (lv_at hl 3 rfl) ?_
        refine xg (ci := 0) S inX0 rfl hK hP cW_39 6 (by decide) rfl kw_4_225 rfl dX0_placeProcedures_45 ?_
        refine lv_iload_n hx hb dX0_placeProcedures_48 rfl (lv_at hl 2 rfl) ?_
        refine lv_iload_n hx hb dX0_placeProcedures_49 rfl (lv_at hl 0 rfl) ?_
        refine lv_iconst (v := 2) hx hb dX0_placeProcedures_50 (by decide) ?_
        refine xiadd (v := x4 + 2) S dX0_placeProcedures_51 rfl ?_
        have h_52 := hok.1
        have hok := hok.2
        refine yiast (t0 := 0) (cw := (cW o u cI cZ cJ T)) S hK hP hD hS cW_41 rfl h_52 dX0_placeProcedures_52 cWa_41 (fun σ6 H locs eσ6 hP hD hS => ?_)
        have hok := hok σ6 eσ6
        refine lv_iload_n hx hb dX0_placeProcedures_53 rfl (lv_at hl 1 rfl) ?_
        refine lv_iconst (v := (-1)) hx hb dX0_placeProcedures_54 (by decide) ?_
        refine lv_icmp_eq (tgt := 68) hx hb dX0_placeProcedures_55 (by decide) (fun c_55 => ?_) (fun c_55 => ?_)
        · have hok := hok.1 c_55
          refine lv_aload_n hx hb dX0_placeProcedures_68 rfl (lv_at hl 3 rfl) ?_
          refine lv_dup hx hb dX0_placeProcedures_69 rfl ?_
          refine xg (ci := 0) S inX0 rfl hK hP cW_39 4 (by decide) rfl kw_4_219 rfl dX0_placeProcedures_70 ?_
          refine lv_aload_n hx hb dX0_placeProcedures_73 rfl (lv_at hl 3 rfl) ?_
          refine xg (ci := 0) S inX0 rfl hK hP cW_39 6 (by decide) rfl kw_4_225 rfl dX0_placeProcedures_74 ?_
          refine lv_iload_n hx hb dX0_placeProcedures_77 rfl (lv_at hl 2 rfl) ?_
          have h_78 := hok.1
          have hok := hok.2
          refine xiald (t0 := 0) (v := (g σ6 41 l1_0)) S hK hP cW_41 rfl h_78 rfl dX0_placeProcedures_78 ?_
          refine xiadd (v := (σ6.1 39 4) + (g σ6 41 l1_0)) S dX0_placeProcedures_79 rfl ?_
          refine yp (ci := 0) (v := .int ((σ6.1 39 4) + (g σ6 41 l1_0))) (cw := (cW o u cI cZ cJ T)) S inX0 tyX0 tyX0_ok nmX0 rfl hK hP hD hS cW_39 4 (by decide) kw_4_219 rfl rfl rfl rfl (Nat.le_of_ble_eq_true rfl) dX0_placeProcedures_80 cWp_39_4 (fun σ7 H locs eσ7 hP hD hS => ?_)
          have hok := hok σ7 eσ7
          refine lv_aload_n hx hb dX0_placeProcedures_83 rfl (lv_at hl 3 rfl) ?_
          refine lv_aload_n hx hb dX0_placeProcedures_84 rfl (lv_at hl 3 rfl) ?_
          refine xg (ci := 0) S inX0 rfl hK hP cW_39 5 (by decide) rfl kw_4_222 rfl dX0_placeProcedures_85 ?_
          refine lv_iload_n hx hb dX0_placeProcedures_88 rfl (lv_at hl 2 rfl) ?_
          have h_89 := hok.1
          have hok := hok.2
          refine xiald (t0 := 0) (v := (g σ7 40 l1_0)) S hK hP cW_40 rfl h_89 rfl dX0_placeProcedures_89 ?_
          refine lv_aload_n hx hb dX0_placeProcedures_90 rfl (lv_at hl 3 rfl) ?_
          refine xg (ci := 0) S inX0 rfl hK hP cW_39 4 (by decide) rfl kw_4_219 rfl dX0_placeProcedures_91 ?_
          refine yVv (As := [.int (g σ7 40 l1_0), .int (σ7.1 39 4)]) (cw := (cW o u cI cZ cJ T)) (ci := 0) S (v_X0_clear_39 l D cI cZ cJ o u T ra ga σ7 (g σ7 40 l1_0) (σ7.1 39 4) _ H.size hok) mi_X0_clear kw_2_86 rfl rfl ⟨Nat.le_of_ble_eq_true rfl, Nat.le_of_ble_eq_true rfl⟩ hP hD hK hS hA hB cW_39 rfl rfl hl.1 (Nat.le_of_ble_eq_true rfl) ⟨Nat.le_of_ble_eq_true rfl, Nat.le_of_ble_eq_true rfl⟩ dX0_placeProcedures_94 (fun σ8 H locs hok hz hP hD hS => ?_)
          refine lv_aload_n hx hb dX0_placeProcedures_97 rfl (lv_at hl 3 rfl) ?_
          refine lv_aload_n hx hb dX0_placeProcedures_98 rfl (lv_at hl 3 rfl) ?_
          refine xg (ci := 0) S inX0 rfl hK hP cW_39 4 (by decide) rfl kw_4_219 rfl dX0_placeProcedures_99 ?_
          refine lv_iconst (v := 2) hx hb dX0_placeProcedures_102 (by decide) ?_
          refine xisub (v := (σ8.1 39 4) - 2) S dX0_placeProcedures_103 rfl ?_
          refine lv_iconst (v := 1) hx hb dX0_placeProcedures_104 (by decide) ?_
          refine lv_iconst (v := 0) hx hb dX0_placeProcedures_105 (by decide) ?_
          refine lv_iconst (v := 0) hx hb dX0_placeProcedures_106 (by decide) ?_
          refine lv_iconst (v := (-1)) hx hb dX0_placeProcedures_107 (by decide) ?_
          refine yVv (As := [.int ((σ8.1 39 4) - 2), .int 1, .int 0, .int 0, .int (-1)]) (cw := (cW o u cI cZ cJ T)) (ci := 0) S (v_X0_put_39 l D cI cZ cJ o u T ra ga σ8 ((σ8.1 39 4) - 2) 1 0 0 (-1) _ H.size hok) mi_X0_put kw_2_90 rfl rfl ⟨Nat.le_of_ble_eq_true rfl, Nat.le_of_ble_eq_true rfl⟩ hP hD hK hS hA hB cW_39 rfl rfl hl.1 (Nat.le_of_ble_eq_true rfl) ⟨Nat.le_of_ble_eq_true rfl, Nat.le_of_ble_eq_true rfl⟩ dX0_placeProcedures_108 (fun σ9 H locs hok hz hP hD hS => ?_)
          refine lv_aload_n hx hb dX0_placeProcedures_111 rfl (lv_at hl 3 rfl) ?_
          refine lv_aload_n hx hb dX0_placeProcedures_112 rfl (lv_at hl 3 rfl) ?_
          refine xg (ci := 0) S inX0 rfl hK hP cW_39 4 (by decide) rfl kw_4_219 rfl dX0_placeProcedures_113 ?_
          refine lv_iconst (v := 1) hx hb dX0_placeProcedures_116 (by decide) ?_
          refine xisub (v := (σ9.1 39 4) - 1) S dX0_placeProcedures_117 rfl ?_
          refine lv_bipush (v := 15) hx hb dX0_placeProcedures_118 (by decide) ?_
          refine lv_iconst (v := 0) hx hb dX0_placeProcedures_120 (by decide) ?_
          refine lv_iconst (v := 0) hx hb dX0_placeProcedures_121 (by decide) ?_
          refine lv_iconst (v := (-1)) hx hb dX0_placeProcedures_122 (by decide) ?_
          refine yVv (As := [.int ((σ9.1 39 4) - 1), .int 15, .int 0, .int 0, .int (-1)]) (cw := (cW o u cI cZ cJ T)) (ci := 0) S (v_X0_put_39 l D cI cZ cJ o u T ra ga σ9 ((σ9.1 39 4) - 1) 15 0 0 (-1) _ H.size hok) mi_X0_put kw_2_90 rfl rfl ⟨Nat.le_of_ble_eq_true rfl, Nat.le_of_ble_eq_true rfl⟩ hP hD hK hS hA hB cW_39 rfl rfl hl.1 (Nat.le_of_ble_eq_true rfl) ⟨Nat.le_of_ble_eq_true rfl, Nat.le_of_ble_eq_true rfl⟩ dX0_placeProcedures_123 (fun σ10 H locs hok hz hP hD hS => ?_)
          refine lv_iinc (v := l1_0 + 1) (lv' := [(1, .int (l1_0 + 1)), (3, .int x4), (2, .int x2), (0, .ref (u 38))]) hx hb dX0_placeProcedures_126 hl (k := 2) rfl rfl (by decide) rfl (fun ls hl => ?_)
          refine lv_goto (tgt := 7) hx hb dX0_placeProcedures_129 (by decide) ?_
          exact ih7 σ10 (l1_0 + 1) H locs ls hok (lv_sub hl [0, 3] rfl) hP hD hS
        · have hok := hok.2 c_55
          refine lv_aload_n hx hb dX0_placeProcedures_58 rfl (lv_at hl 3 rfl) ?_
          refine xg (ci := 0) S inX0 rfl hK hP cW_39 13 (by decide) rfl kw_5_2 rfl dX0_placeProcedures_59 ?_
          refine lv_iload_n hx hb dX0_placeProcedures_62 rfl (lv_at hl 1 rfl) ?_
          refine lv_aload_n hx hb dX0_placeProcedures_63 rfl (lv_at hl 3 rfl) ?_
          refine xg (ci := 0) S inX0 rfl hK hP cW_39 4 (by decide) rfl kw_4_219 rfl dX0_placeProcedures_64 ?_
          have h_67 := hok.1
          have hok := hok.2
          refine yiast (t0 := 0) (cw := (cW o u cI cZ cJ T)) S hK hP hD hS cW_48 rfl h_67 dX0_placeProcedures_67 cWa_48 (fun σ11 H locs eσ11 hP hD hS => ?_)
          have hok := hok σ11 eσ11
          refine lv_aload_n hx hb dX0_placeProcedures_68 rfl (lv_at hl 3 rfl) ?_
          refine lv_dup hx hb dX0_placeProcedures_69 rfl ?_
          refine xg (ci := 0) S inX0 rfl hK hP cW_39 4 (by decide) rfl kw_4_219 rfl dX0_placeProcedures_70 ?_
          refine lv_aload_n hx hb dX0_placeProcedures_73 rfl (lv_at hl 3 rfl) ?_
          refine xg (ci := 0) S inX0 rfl hK hP cW_39 6 (by decide) rfl kw_4_225 rfl dX0_placeProcedures_74 ?_
          refine lv_iload_n hx hb dX0_placeProcedures_77 rfl (lv_at hl 2 rfl) ?_
          have h_78 := hok.1
          have hok := hok.2
          refine xiald (t0 := 0) (v := (g σ11 41 l1_0)) S hK hP cW_41 rfl h_78 rfl dX0_placeProcedures_78 ?_
          refine xiadd (v := (σ11.1 39 4) + (g σ11 41 l1_0)) S dX0_placeProcedures_79 rfl ?_
          refine yp (ci := 0) (v := .int ((σ11.1 39 4) + (g σ11 41 l1_0))) (cw := (cW o u cI cZ cJ T)) S inX0 tyX0 tyX0_ok nmX0 rfl hK hP hD hS cW_39 4 (by decide) kw_4_219 rfl rfl rfl rfl (Nat.le_of_ble_eq_true rfl) dX0_placeProcedures_80 cWp_39_4 (fun σ12 H locs eσ12 hP hD hS => ?_)
          have hok := hok σ12 eσ12
          refine lv_aload_n hx hb dX0_placeProcedures_83 rfl (lv_at hl 3 rfl) ?_
          refine lv_aload_n hx hb dX0_placeProcedures_84 rfl (lv_at hl 3 rfl) ?_
          refine xg (ci := 0) S inX0 rfl hK hP cW_39 5 (by decide) rfl kw_4_222 rfl dX0_placeProcedures_85 ?_
          refine lv_iload_n hx hb dX0_placeProcedures_88 rfl (lv_at hl 2 rfl) ?_
          have h_89 := hok.1
          have hok := hok.2
          refine xiald (t0 := 0) (v := (g σ12 40 l1_0)) S hK hP cW_40 rfl h_89 rfl dX0_placeProcedures_89 ?_
          refine lv_aload_n hx hb dX0_placeProcedures_90 rfl (lv_at hl 3 rfl) ?_
          refine xg (ci := 0) S inX0 rfl hK hP cW_39 4 (by decide) rfl kw_4_219 rfl dX0_placeProcedures_91 ?_
          refine yVv (As := [.int (g σ12 40 l1_0), .int (σ12.1 39 4)]) (cw := (cW o u cI cZ cJ T)) (ci := 0) S (v_X0_clear_39 l D cI cZ cJ o u T ra ga σ12 (g σ12 40 l1_0) (σ12.1 39 4) _ H.size hok) mi_X0_clear kw_2_86 rfl rfl ⟨Nat.le_of_ble_eq_true rfl, Nat.le_of_ble_eq_true rfl⟩ hP hD hK hS hA hB cW_39 rfl rfl hl.1 (Nat.le_of_ble_eq_true rfl) ⟨Nat.le_of_ble_eq_true rfl, Nat.le_of_ble_eq_true rfl⟩ dX0_placeProcedures_94 (fun σ13 H locs hok hz hP hD hS => ?_)
          refine lv_aload_n hx hb dX0_placeProcedures_97 rfl (lv_at hl 3 rfl) ?_
          refine lv_aload_n hx hb dX0_placeProcedures_98 rfl (lv_at hl 3 rfl) ?_
          refine xg (ci := 0) S inX0 rfl hK hP cW_39 4 (by decide) rfl kw_4_219 rfl dX0_placeProcedures_99 ?_
          refine lv_iconst (v := 2) hx hb dX0_placeProcedures_102 (by decide) ?_
          refine xisub (v := (σ13.1 39 4) - 2) S dX0_placeProcedures_103 rfl ?_
          refine lv_iconst (v := 1) hx hb dX0_placeProcedures_104 (by decide) ?_
          refine lv_iconst (v := 0) hx hb dX0_placeProcedures_105 (by decide) ?_
          refine lv_iconst (v := 0) hx hb dX0_placeProcedures_106 (by decide) ?_
          refine lv_iconst (v := (-1)) hx hb dX0_placeProcedures_107 (by decide) ?_
          refine yVv (As := [.int ((σ13.1 39 4) - 2), .int 1, .int 0, .int 0, .int (-1)]) (cw := (cW o u cI cZ cJ T)) (ci := 0) S (v_X0_put_39 l D cI cZ cJ o u T ra ga σ13 ((σ13.1 39 4) - 2) 1 0 0 (-1) _ H.size hok) mi_X0_put kw_2_90 rfl rfl ⟨Nat.le_of_ble_eq_true rfl, Nat.le_of_ble_eq_true rfl⟩ hP hD hK hS hA hB cW_39 rfl rfl hl.1 (Nat.le_of_ble_eq_true rfl) ⟨Nat.le_of_ble_eq_true rfl, Nat.le_of_ble_eq_true rfl⟩ dX0_placeProcedures_108 (fun σ14 H locs hok hz hP hD hS => ?_)
          refine lv_aload_n hx hb dX0_placeProcedures_111 rfl (lv_at hl 3 rfl) ?_
          refine lv_aload_n hx hb dX0_placeProcedures_112 rfl (lv_at hl 3 rfl) ?_
          refine xg (ci := 0) S inX0 rfl hK hP cW_39 4 (by decide) rfl kw_4_219 rfl dX0_placeProcedures_113 ?_
          refine lv_iconst (v := 1) hx hb dX0_placeProcedures_116 (by decide) ?_
          refine xisub (v := (σ14.1 39 4) - 1) S dX0_placeProcedures_117 rfl ?_
          refine lv_bipush (v := 15) hx hb dX0_placeProcedures_118 (by decide) ?_
          refine lv_iconst (v := 0) hx hb dX0_placeProcedures_120 (by decide) ?_
          refine lv_iconst (v := 0) hx hb dX0_placeProcedures_121 (by decide) ?_
          refine lv_iconst (v := (-1)) hx hb dX0_placeProcedures_122 (by decide) ?_
          refine yVv (As := [.int ((σ14.1 39 4) - 1), .int 15, .int 0, .int 0, .int (-1)]) (cw := (cW o u cI cZ cJ T)) (ci := 0) S (v_X0_put_39 l D cI cZ cJ o u T ra ga σ14 ((σ14.1 39 4) - 1) 15 0 0 (-1) _ H.size hok) mi_X0_put kw_2_90 rfl rfl ⟨Nat.le_of_ble_eq_true rfl, Nat.le_of_ble_eq_true rfl⟩ hP hD hK hS hA hB cW_39 rfl rfl hl.1 (Nat.le_of_ble_eq_true rfl) ⟨Nat.le_of_ble_eq_true rfl, Nat.le_of_ble_eq_true rfl⟩ dX0_placeProcedures_123 (fun σ15 H locs hok hz hP hD hS => ?_)
          refine lv_iinc (v := l1_0 + 1) (lv' := [(1, .int (l1_0 + 1)), (3, .int x4), (2, .int x2), (0, .ref (u 38))]) hx hb dX0_placeProcedures_126 hl (k := 2) rfl rfl (by decide) rfl (fun ls hl => ?_)
          refine lv_goto (tgt := 7) hx hb dX0_placeProcedures_129 (by decide) ?_
          exact ih7 σ15 (l1_0 + 1) H locs ls hok (lv_sub hl [0, 3] rfl) hP hD hS
  refine lp7 _ ?_ FUEL σ1 0 _ _ _ hok (lv_sub hl [0, 1] rfl) hP hD hS
  intro σ16 x17 H locs ls hok hl hP hD hS
  exact yEndv S hr hlocks hP hD hS (Nat.le_of_ble_eq_true rfl) (Nat.le_of_ble_eq_true rfl) dX0_placeProcedures_132 hok

set_option maxHeartbeats 8000000 in
set_option maxRecDepth 100000 in
theorem v_X0_swallow_39 (l : Launch) (D : va_G) (cI cZ cJ : ClassId) (o : Nat) (u : Nat → Nat) (T : Nat) (ra : Nat → Nat) (ga : SG) (σ : FS) (a1 : Int32) (a2 : Int32) (Φ : FS → Prop) (sz : Nat) (hok : (wp_X0_swallow 39 σ a1 a2 Φ)) : Met l yX0_swallow (uW yX0_swallow cX0_swallow 3 none) ({ frames := 0, cells := 0, slots := 0, locals := 0 }) (va_Pc [.ref (u 38), .int a1, .int a2] (aS ra ga D (tyL cI cZ cJ) (cW o u cI cZ cJ T σ) sz)) (yQv Φ D (cW o u cI cZ cJ T) (va_A (cW o u cI cZ cJ T σ) sz)) 0 0 (va_A (cW o u cI cZ cJ T σ) sz) := by
  refine aStart (lv := [(0, .ref (u 38)), (1, .int a1), (2, .int a2)]) (Qc := fun A => yQv Φ D (cW o u cI cZ cJ T) A) (by decide) (Nat.le_of_ble_eq_true rfl) rfl ?_
  intro p e s m args below meth c ls A H S hr hlocks hnm hl hK hP hD hS hA hB
  have hx := S.1
  have hb := S.2.1
  refine lv_iload_n hx hb dX0_swallow_0 rfl (lv_at hl 1 rfl) ?_
  refine lv_iconst (v := (-1)) hx hb dX0_swallow_1 (by decide) ?_
  refine lv_icmp_eq (tgt := 19) hx hb dX0_swallow_2 (by decide) (fun c_2 => ?_) (fun c_2 => ?_)
  · have hok := hok.1 c_2
    exact yEndv S hr hlocks hP hD hS (Nat.le_of_ble_eq_true rfl) (Nat.le_of_ble_eq_true rfl) dX0_swallow_19 hok
  · have hok := hok.2 c_2
    refine lv_aload_n hx hb dX0_swallow_5 rfl (lv_at hl 0 rfl) ?_
    refine xg (ci := 0) S inX0 rfl hK hP cW_39 13 (by decide) rfl kw_5_2 rfl dX0_swallow_6 ?_
    refine lv_iload_n hx hb dX0_swallow_9 rfl (lv_at hl 1 rfl) ?_
    refine lv_iload_n hx hb dX0_swallow_10 rfl (lv_at hl 2 rfl) ?_
    have h_11 := hok.1
    have hok := hok.2
    refine yiast (t0 := 0) (cw := (cW o u cI cZ cJ T)) S hK hP hD hS cW_48 rfl h_11 dX0_swallow_11 cWa_48 (fun σ1 H locs eσ1 hP hD hS => ?_)
    have hok := hok σ1 eσ1
    refine lv_aload_n hx hb dX0_swallow_12 rfl (lv_at hl 0 rfl) ?_
    refine xg (ci := 0) S inX0 rfl hK hP cW_39 16 (by decide) rfl kw_5_8 rfl dX0_swallow_13 ?_
    refine lv_iload_n hx hb dX0_swallow_16 rfl (lv_at hl 1 rfl) ?_
    refine lv_iconst (v := 1) hx hb dX0_swallow_17 (by decide) ?_
    have h_18 := hok.1
    have hok := hok.2
    refine yzast (t0 := 1) (cw := (cW o u cI cZ cJ T)) S hK hP hD hS cW_51 rfl h_18 dX0_swallow_18 (cWa_51 (Or.inr rfl)) (fun σ2 H locs eσ2 hP hD hS => ?_)
    have hok := hok σ2 eσ2
    exact yEndv S hr hlocks hP hD hS (Nat.le_of_ble_eq_true rfl) (Nat.le_of_ble_eq_true rfl) dX0_swallow_19 hok

set_option maxHeartbeats 8000000 in
set_option maxRecDepth 100000 in
theorem v_X0_place_39 (l : Launch) (D : va_G) (cI cZ cJ : ClassId) (o : Nat) (u : Nat → Nat) (T : Nat) (ra : Nat → Nat) (ga : SG) (σ : FS) (a1 : Int32) (a2 : Int32) (Φ : FS → Prop) (sz : Nat) (hok : (wp_X0_place 39 σ a1 a2 Φ)) : Met l yX0_place (uW yX0_place cX0_place 3 none) ({ frames := 0, cells := 0, slots := 0, locals := 0 }) (va_Pc [.ref (u 38), .int a1, .int a2] (aS ra ga D (tyL cI cZ cJ) (cW o u cI cZ cJ T σ) sz)) (yQv Φ D (cW o u cI cZ cJ T) (va_A (cW o u cI cZ cJ T σ) sz)) 0 0 (va_A (cW o u cI cZ cJ T σ) sz) := by
  refine aStart (lv := [(0, .ref (u 38)), (1, .int a1), (2, .int a2)]) (Qc := fun A => yQv Φ D (cW o u cI cZ cJ T) A) (by decide) (Nat.le_of_ble_eq_true rfl) rfl ?_
  intro p e s m args below meth c ls A H S hr hlocks hnm hl hK hP hD hS hA hB
  have hx := S.1
  have hb := S.2.1
  refine lv_iload_n hx hb dX0_place_0 rfl (lv_at hl 1 rfl) ?_
  refine lv_iconst (v := (-1)) hx hb dX0_place_1 (by decide) ?_
  refine lv_icmp_eq (tgt := 12) hx hb dX0_place_2 (by decide) (fun c_2 => ?_) (fun c_2 => ?_)
  · have hok := hok.1 c_2
    exact yEndv S hr hlocks hP hD hS (Nat.le_of_ble_eq_true rfl) (Nat.le_of_ble_eq_true rfl) dX0_place_12 hok
  · have hok := hok.2 c_2
    refine lv_aload_n hx hb dX0_place_5 rfl (lv_at hl 0 rfl) ?_
    refine xg (ci := 0) S inX0 rfl hK hP cW_39 13 (by decide) rfl kw_5_2 rfl dX0_place_6 ?_
    refine lv_iload_n hx hb dX0_place_9 rfl (lv_at hl 1 rfl) ?_
    refine lv_iload_n hx hb dX0_place_10 rfl (lv_at hl 2 rfl) ?_
    have h_11 := hok.1
    have hok := hok.2
    refine yiast (t0 := 0) (cw := (cW o u cI cZ cJ T)) S hK hP hD hS cW_48 rfl h_11 dX0_place_11 cWa_48 (fun σ1 H locs eσ1 hP hD hS => ?_)
    have hok := hok σ1 eσ1
    exact yEndv S hr hlocks hP hD hS (Nat.le_of_ble_eq_true rfl) (Nat.le_of_ble_eq_true rfl) dX0_place_12 hok

set_option maxHeartbeats 8000000 in
set_option maxRecDepth 100000 in
theorem v_X0_placeParts_39 (l : Launch) (D : va_G) (cI cZ cJ : ClassId) (o : Nat) (u : Nat → Nat) (T : Nat) (ra : Nat → Nat) (ga : SG) (σ : FS) (a1 : Int32) (Φ : FS → Prop) (sz : Nat) (hok : (wp_X0_placeParts 39 σ a1 Φ)) : Met l yX0_placeParts (uW yX0_placeParts cX0_placeParts 8 none) ({ frames := 1, cells := 0, slots := 0, locals := 22 }) (va_Pc [.ref (u 38), .int a1] (aS ra ga D (tyL cI cZ cJ) (cW o u cI cZ cJ T σ) sz)) (yQv Φ D (cW o u cI cZ cJ T) (va_A (cW o u cI cZ cJ T σ) sz)) 0 0 (va_A (cW o u cI cZ cJ T σ) sz) := by
  refine aStart (lv := [(0, .ref (u 38)), (1, .int a1)]) (Qc := fun A => yQv Φ D (cW o u cI cZ cJ T) A) (by decide) (Nat.le_of_ble_eq_true rfl) rfl ?_
  intro p e s m args below meth c ls A H S hr hlocks hnm hl hK hP hD hS hA hB
  have hx := S.1
  have hb := S.2.1
  refine lv_aload_n hx hb dX0_placeParts_0 rfl (lv_at hl 0 rfl) ?_
  refine xg (ci := 0) S inX0 rfl hK hP cW_39 13 (by decide) rfl kw_5_2 rfl dX0_placeParts_1 ?_
  refine lv_iload_n hx hb dX0_placeParts_4 rfl (lv_at hl 1 rfl) ?_
  have h_5 := hok.1
  have hok := hok.2
  refine xiald (t0 := 0) (v := (g σ 48 a1)) S hK hP cW_48 rfl h_5 rfl dX0_placeParts_5 ?_
  refine lv_topi (fun x1 ex1 => ?_)
  have hok := hok x1 ex1
  refine lv_istore_n (lv' := [(2, .int x1), (0, .ref (u 38)), (1, .int a1)]) hx hb dX0_placeParts_6 rfl hl (by decide) rfl (fun ls hl => ?_)
  refine lv_aload_n hx hb dX0_placeParts_7 rfl (lv_at hl 1 rfl) ?_
  refine lv_iload_n hx hb dX0_placeParts_8 rfl (lv_at hl 2 rfl) ?_
  refine yVi (As := [.int a1]) (cw := (cW o u cI cZ cJ T)) (ci := 0) S (v_X0_isPushed_39 l D cI cZ cJ o u T ra ga σ a1 _ H.size hok) mi_X0_isPushed kw_2_62 rfl rfl ⟨Nat.le_of_ble_eq_true rfl, Nat.le_of_ble_eq_true rfl⟩ hP hD hK hS hA hB cW_39 rfl rfl hl.1 (Nat.le_of_ble_eq_true rfl) ⟨Nat.le_of_ble_eq_true rfl, Nat.le_of_ble_eq_true rfl⟩ dX0_placeParts_9 (fun x3 σ2 H locs hok hz hP hD hS => ?_)
  refine lv_if_ne (tgt := 24) hx hb dX0_placeParts_12 (by decide) (fun c_12 => ?_) (fun c_12 => ?_)
  · have hok := hok.2 c_12
    refine lv_aload_n hx hb dX0_placeParts_24 rfl (lv_at hl 1 rfl) ?_
    refine lv_aload_n hx hb dX0_placeParts_25 rfl (lv_at hl 1 rfl) ?_
    refine xg (ci := 0) S inX0 rfl hK hP cW_39 1 (by decide) rfl kw_4_216 rfl dX0_placeParts_26 ?_
    refine lv_iload_n hx hb dX0_placeParts_29 rfl (lv_at hl 2 rfl) ?_
    refine yVi (As := [.int a1]) (cw := (cW o u cI cZ cJ T)) (ci := 5) S (v_X5_partB l D cI cZ cJ o u T ra ga σ2 a1 _ H.size hok) mi_X5_partB kw_2_72 rfl rfl ⟨Nat.le_of_ble_eq_true rfl, Nat.le_of_ble_eq_true rfl⟩ hP hD hK hS hA hB cW_13 rfl rfl hl.1 (Nat.le_of_ble_eq_true rfl) ⟨Nat.le_of_ble_eq_true rfl, Nat.le_of_ble_eq_true rfl⟩ dX0_placeParts_30 (fun x5 σ4 H locs hok hz hP hD hS => ?_)
    refine lv_iload_n hx hb dX0_placeParts_33 rfl (lv_at hl 0 rfl) ?_
    refine yVv (As := [.int x5, .int x1]) (cw := (cW o u cI cZ cJ T)) (ci := 0) S (v_X0_swallow_39 l D cI cZ cJ o u T ra ga σ4 x5 x1 _ H.size hok) mi_X0_swallow kw_2_98 rfl rfl ⟨Nat.le_of_ble_eq_true rfl, Nat.le_of_ble_eq_true rfl⟩ hP hD hK hS hA hB cW_39 rfl rfl hl.1 (Nat.le_of_ble_eq_true rfl) ⟨Nat.le_of_ble_eq_true rfl, Nat.le_of_ble_eq_true rfl⟩ dX0_placeParts_34 (fun σ6 H locs hok hz hP hD hS => ?_)
    refine lv_aload_n hx hb dX0_placeParts_37 rfl (lv_at hl 1 rfl) ?_
    refine lv_aload_n hx hb dX0_placeParts_38 rfl (lv_at hl 1 rfl) ?_
    refine xg (ci := 0) S inX0 rfl hK hP cW_39 1 (by decide) rfl kw_4_216 rfl dX0_placeParts_39 ?_
    refine lv_iload_n hx hb dX0_placeParts_42 rfl (lv_at hl 2 rfl) ?_
    refine yVi (As := [.int a1]) (cw := (cW o u cI cZ cJ T)) (ci := 5) S (v_X5_partC l D cI cZ cJ o u T ra ga σ6 a1 _ H.size hok) mi_X5_partC kw_2_73 rfl rfl ⟨Nat.le_of_ble_eq_true rfl, Nat.le_of_ble_eq_true rfl⟩ hP hD hK hS hA hB cW_13 rfl rfl hl.1 (Nat.le_of_ble_eq_true rfl) ⟨Nat.le_of_ble_eq_true rfl, Nat.le_of_ble_eq_true rfl⟩ dX0_placeParts_43 (fun x8 σ7 H locs hok hz hP hD hS => ?_)
    refine lv_iload_n hx hb dX0_placeParts_46 rfl (lv_at hl 0 rfl) ?_
    refine yVv (As := [.int x8, .int x1]) (cw := (cW o u cI cZ cJ T)) (ci := 0) S (v_X0_swallow_39 l D cI cZ cJ o u T ra ga σ7 x8 x1 _ H.size hok) mi_X0_swallow kw_2_98 rfl rfl ⟨Nat.le_of_ble_eq_true rfl, Nat.le_of_ble_eq_true rfl⟩ hP hD hK hS hA hB cW_39 rfl rfl hl.1 (Nat.le_of_ble_eq_true rfl) ⟨Nat.le_of_ble_eq_true rfl, Nat.le_of_ble_eq_true rfl⟩ dX0_placeParts_47 (fun σ9 H locs hok hz hP hD hS => ?_)
    exact yEndv S hr hlocks hP hD hS (Nat.le_of_ble_eq_true rfl) (Nat.le_of_ble_eq_true rfl) dX0_placeParts_50 hok
  · have hok := hok.1 c_12
    refine lv_aload_n hx hb dX0_placeParts_15 rfl (lv_at hl 1 rfl) ?_
    refine xg (ci := 0) S inX0 rfl hK hP cW_39 16 (by decide) rfl kw_5_8 rfl dX0_placeParts_16 ?_
    refine lv_iload_n hx hb dX0_placeParts_19 rfl (lv_at hl 2 rfl) ?_
    have h_20 := hok.1
    have hok := hok.2
    refine xzald (t0 := 1) (v := (g σ2 51 a1)) S hK hP cW_51 rfl h_20 rfl dX0_placeParts_20 ?_
    refine lv_if_eq (tgt := 51) hx hb dX0_placeParts_21 (by decide) (fun c_21 => ?_) (fun c_21 => ?_)
    · have hok := hok.1 c_21
      refine lv_iconst (v := 0) hx hb dX0_placeParts_51 (by decide) ?_
      refine lv_istore_n (lv' := [(3, .int 0), (2, .int x1), (0, .ref (u 38)), (1, .int a1)]) hx hb dX0_placeParts_52 rfl hl (by decide) rfl (fun ls hl => ?_)
      refine lv_iconst (v := 0) hx hb dX0_placeParts_53 (by decide) ?_
      refine lv_istore (lv' := [(4, .int 0), (3, .int 0), (2, .int x1), (0, .ref (u 38)), (1, .int a1)]) hx hb dX0_placeParts_54 hl (by decide) rfl (fun ls hl => ?_)
      refine lv_aload_n hx hb dX0_placeParts_56 rfl (lv_at hl 3 rfl) ?_
      refine xg (ci := 0) S inX0 rfl hK hP cW_39 1 (by decide) rfl kw_4_216 rfl dX0_placeParts_57 ?_
      refine xg (ci := 5) S inX5 rfl hK hP cW_13 1 (by decide) rfl kw_4_44 rfl dX0_placeParts_60 ?_
      refine lv_iload_n hx hb dX0_placeParts_63 rfl (lv_at hl 4 rfl) ?_
      have h_64 := hok.1
      have hok := hok.2
      refine xiald (t0 := 0) (v := (g σ2 14 a1)) S hK hP cW_14 rfl h_64 rfl dX0_placeParts_64 ?_
      refine lv_topi (fun x10 ex10 => ?_)
      have hok := hok x10 ex10
      by_cases k_65_0 : x10 = 9
      · have hok := hok.1 k_65_0
        rw [k_65_0]
        refine lv_lookup (off := 49) (tgt := 114) hx hb dX0_placeParts_65 (by decide) (by decide) (by decide) ?_
        refine lv_aload_n hx hb dX0_placeParts_114 rfl (lv_at hl 3 rfl) ?_
        refine xg (ci := 0) S inX0 rfl hK hP cW_39 2 (by decide) rfl kw_4_217 rfl dX0_placeParts_115 ?_
        refine xg (ci := 4) S inX4 rfl hK hP cW_20 10 (by decide) rfl kw_4_114 rfl dX0_placeParts_118 ?_
        refine lv_iload_n hx hb dX0_placeParts_121 rfl (lv_at hl 4 rfl) ?_
        have h_122 := hok.1
        have hok := hok.2
        refine xiald (t0 := 0) (v := (g σ2 29 a1)) S hK hP cW_29 rfl h_122 rfl dX0_placeParts_122 ?_
        refine lv_iconst (v := 2) hx hb dX0_placeParts_123 (by decide) ?_
        refine lv_icmp_ne (tgt := 131) hx hb dX0_placeParts_124 (by decide) (fun c_124 => ?_) (fun c_124 => ?_)
        · have hok := hok.2 c_124
          refine lv_iconst (v := 0) hx hb dX0_placeParts_131 (by decide) ?_
          refine lv_istore_n (lv' := [(3, .int 0), (4, .int 0), (2, .int x1), (0, .ref (u 38)), (1, .int a1)]) hx hb dX0_placeParts_132 rfl hl (by decide) rfl (fun ls hl => ?_)
          refine lv_iload_n hx hb dX0_placeParts_133 rfl (lv_at hl 0 rfl) ?_
          refine lv_istore (lv' := [(4, .int 0), (3, .int 0), (2, .int x1), (0, .ref (u 38)), (1, .int a1)]) hx hb dX0_placeParts_134 hl (by decide) rfl (fun ls hl => ?_)
          refine lv_goto (tgt := 139) hx hb dX0_placeParts_136 (by decide) ?_
          refine lv_aload_n hx hb dX0_placeParts_139 rfl (lv_at hl 3 rfl) ?_
          refine xg (ci := 0) S inX0 rfl hK hP cW_39 1 (by decide) rfl kw_4_216 rfl dX0_placeParts_140 ?_
          refine lv_iload_n hx hb dX0_placeParts_143 rfl (lv_at hl 4 rfl) ?_
          refine yVi (As := [.int a1]) (cw := (cW o u cI cZ cJ T)) (ci := 5) S (v_X5_partB l D cI cZ cJ o u T ra ga σ2 a1 _ H.size hok) mi_X5_partB kw_2_72 rfl rfl ⟨Nat.le_of_ble_eq_true rfl, Nat.le_of_ble_eq_true rfl⟩ hP hD hK hS hA hB cW_13 rfl rfl hl.1 (Nat.le_of_ble_eq_true rfl) ⟨Nat.le_of_ble_eq_true rfl, Nat.le_of_ble_eq_true rfl⟩ dX0_placeParts_144 (fun x12 σ11 H locs hok hz hP hD hS => ?_)
          refine lv_istore (lv' := [(5, .int x12), (4, .int 0), (3, .int 0), (2, .int x1), (0, .ref (u 38)), (1, .int a1)]) hx hb dX0_placeParts_147 hl (by decide) rfl (fun ls hl => ?_)
          refine lv_iload_n hx hb dX0_placeParts_149 rfl (lv_at hl 3 rfl) ?_
          refine lv_iload_n hx hb dX0_placeParts_150 rfl (lv_at hl 2 rfl) ?_
          refine xiadd (v := x1 + 0) S dX0_placeParts_151 rfl ?_
          refine lv_aload_n hx hb dX0_placeParts_152 rfl (lv_at hl 4 rfl) ?_
          refine lv_iload hx hb dX0_placeParts_153 (lv_at hl 0 rfl) ?_
          refine yVi (As := [.int x12]) (cw := (cW o u cI cZ cJ T)) (ci := 0) S (v_X0_lengthOfPart_39 l D cI cZ cJ o u T ra ga σ11 x12 _ H.size hok) mi_X0_lengthOfPart kw_2_68 rfl rfl ⟨Nat.le_of_ble_eq_true rfl, Nat.le_of_ble_eq_true rfl⟩ hP hD hK hS hA hB cW_39 rfl rfl hl.1 (Nat.le_of_ble_eq_true rfl) ⟨Nat.le_of_ble_eq_true rfl, Nat.le_of_ble_eq_true rfl⟩ dX0_placeParts_155 (fun x14 σ13 H locs hok hz hP hD hS => ?_)
          refine xiadd (v := (x1 + 0) + x14) S dX0_placeParts_158 rfl ?_
          refine lv_iload hx hb dX0_placeParts_159 (lv_at hl 1 rfl) ?_
          refine xiadd (v := ((x1 + 0) + x14) + 0) S dX0_placeParts_161 rfl ?_
          refine lv_topi (fun x15 ex15 => ?_)
          have hok := hok x15 ex15
          refine lv_istore (lv' := [(6, .int x15), (5, .int x12), (4, .int 0), (3, .int 0), (2, .int x1), (0, .ref (u 38)), (1, .int a1)]) hx hb dX0_placeParts_162 hl (by decide) rfl (fun ls hl => ?_)
          refine lv_aload_n hx hb dX0_placeParts_164 rfl (lv_at hl 5 rfl) ?_
          refine xg (ci := 0) S inX0 rfl hK hP cW_39 1 (by decide) rfl kw_4_216 rfl dX0_placeParts_165 ?_
          refine lv_iload_n hx hb dX0_placeParts_168 rfl (lv_at hl 6 rfl) ?_
          refine yVi (As := [.int a1]) (cw := (cW o u cI cZ cJ T)) (ci := 5) S (v_X5_partC l D cI cZ cJ o u T ra ga σ13 a1 _ H.size hok) mi_X5_partC kw_2_73 rfl rfl ⟨Nat.le_of_ble_eq_true rfl, Nat.le_of_ble_eq_true rfl⟩ hP hD hK hS hA hB cW_13 rfl rfl hl.1 (Nat.le_of_ble_eq_true rfl) ⟨Nat.le_of_ble_eq_true rfl, Nat.le_of_ble_eq_true rfl⟩ dX0_placeParts_169 (fun x17 σ16 H locs hok hz hP hD hS => ?_)
          refine lv_istore (lv' := [(7, .int x17), (6, .int x15), (5, .int x12), (4, .int 0), (3, .int 0), (2, .int x1), (0, .ref (u 38)), (1, .int a1)]) hx hb dX0_placeParts_172 hl (by decide) rfl (fun ls hl => ?_)
          refine lv_aload_n hx hb dX0_placeParts_174 rfl (lv_at hl 6 rfl) ?_
          refine lv_iload hx hb dX0_placeParts_175 (lv_at hl 2 rfl) ?_
          refine lv_iload_n hx hb dX0_placeParts_177 rfl (lv_at hl 5 rfl) ?_
          refine lv_iload_n hx hb dX0_placeParts_178 rfl (lv_at hl 4 rfl) ?_
          refine xiadd (v := x1 + 0) S dX0_placeParts_179 rfl ?_
          refine yVv (As := [.int x12, .int (x1 + 0)]) (cw := (cW o u cI cZ cJ T)) (ci := 0) S (v_X0_place_39 l D cI cZ cJ o u T ra ga σ16 x12 (x1 + 0) _ H.size hok) mi_X0_place kw_2_102 rfl rfl ⟨Nat.le_of_ble_eq_true rfl, Nat.le_of_ble_eq_true rfl⟩ hP hD hK hS hA hB cW_39 rfl rfl hl.1 (Nat.le_of_ble_eq_true rfl) ⟨Nat.le_of_ble_eq_true rfl, Nat.le_of_ble_eq_true rfl⟩ dX0_placeParts_180 (fun σ18 H locs hok hz hP hD hS => ?_)
          refine lv_aload_n hx hb dX0_placeParts_183 rfl (lv_at hl 6 rfl) ?_
          refine lv_iload hx hb dX0_placeParts_184 (lv_at hl 0 rfl) ?_
          refine lv_iload hx hb dX0_placeParts_186 (lv_at hl 1 rfl) ?_
          refine yVv (As := [.int x17, .int x15]) (cw := (cW o u cI cZ cJ T)) (ci := 0) S (v_X0_place_39 l D cI cZ cJ o u T ra ga σ18 x17 x15 _ H.size hok) mi_X0_place kw_2_102 rfl rfl ⟨Nat.le_of_ble_eq_true rfl, Nat.le_of_ble_eq_true rfl⟩ hP hD hK hS hA hB cW_39 rfl rfl hl.1 (Nat.le_of_ble_eq_true rfl) ⟨Nat.le_of_ble_eq_true rfl, Nat.le_of_ble_eq_true rfl⟩ dX0_placeParts_188 (fun σ19 H locs hok hz hP hD hS => ?_)
          refine lv_aload_n hx hb dX0_placeParts_191 rfl (lv_at hl 6 rfl) ?_
          refine lv_aload_n hx hb dX0_placeParts_192 rfl (lv_at hl 6 rfl) ?_
          refine xg (ci := 0) S inX0 rfl hK hP cW_39 1 (by decide) rfl kw_4_216 rfl dX0_placeParts_193 ?_
          refine lv_iload_n hx hb dX0_placeParts_196 rfl (lv_at hl 7 rfl) ?_
          refine yVi (As := [.int a1]) (cw := (cW o u cI cZ cJ T)) (ci := 5) S (v_X5_partA l D cI cZ cJ o u T ra ga σ19 a1 _ H.size hok) mi_X5_partA kw_2_67 rfl rfl ⟨Nat.le_of_ble_eq_true rfl, Nat.le_of_ble_eq_true rfl⟩ hP hD hK hS hA hB cW_13 rfl rfl hl.1 (Nat.le_of_ble_eq_true rfl) ⟨Nat.le_of_ble_eq_true rfl, Nat.le_of_ble_eq_true rfl⟩ dX0_placeParts_197 (fun x21 σ20 H locs hok hz hP hD hS => ?_)
          refine lv_iload hx hb dX0_placeParts_200 (lv_at hl 1 rfl) ?_
          refine lv_aload_n hx hb dX0_placeParts_202 rfl (lv_at hl 6 rfl) ?_
          refine lv_iload hx hb dX0_placeParts_203 (lv_at hl 0 rfl) ?_
          refine yVi (As := [.int x17]) (cw := (cW o u cI cZ cJ T)) (ci := 0) S (v_X0_lengthOfPart_39 l D cI cZ cJ o u T ra ga σ20 x17 _ H.size hok) mi_X0_lengthOfPart kw_2_68 rfl rfl ⟨Nat.le_of_ble_eq_true rfl, Nat.le_of_ble_eq_true rfl⟩ hP hD hK hS hA hB cW_39 rfl rfl hl.1 (Nat.le_of_ble_eq_true rfl) ⟨Nat.le_of_ble_eq_true rfl, Nat.le_of_ble_eq_true rfl⟩ dX0_placeParts_205 (fun x23 σ22 H locs hok hz hP hD hS => ?_)
          refine xiadd (v := x15 + x23) S dX0_placeParts_208 rfl ?_
          refine lv_iconst (v := 1) hx hb dX0_placeParts_209 (by decide) ?_
          refine xiadd (v := (x15 + x23) + 1) S dX0_placeParts_210 rfl ?_
          refine yVv (As := [.int x21, .int ((x15 + x23) + 1)]) (cw := (cW o u cI cZ cJ T)) (ci := 0) S (v_X0_place_39 l D cI cZ cJ o u T ra ga σ22 x21 ((x15 + x23) + 1) _ H.size hok) mi_X0_place kw_2_102 rfl rfl ⟨Nat.le_of_ble_eq_true rfl, Nat.le_of_ble_eq_true rfl⟩ hP hD hK hS hA hB cW_39 rfl rfl hl.1 (Nat.le_of_ble_eq_true rfl) ⟨Nat.le_of_ble_eq_true rfl, Nat.le_of_ble_eq_true rfl⟩ dX0_placeParts_211 (fun σ24 H locs hok hz hP hD hS => ?_)
          exact yEndv S hr hlocks hP hD hS (Nat.le_of_ble_eq_true rfl) (Nat.le_of_ble_eq_true rfl) dX0_placeParts_214 hok
        · have hok := hok.1 c_124
          refine lv_iconst (v := 1) hx hb dX0_placeParts_127 (by decide) ?_
          refine lv_goto (tgt := 132) hx hb dX0_placeParts_128 (by decide) ?_
          refine lv_istore_n (lv' := [(3, .int 1), (4, .int 0), (2, .int x1), (0, .ref (u 38)), (1, .int a1)]) hx hb dX0_placeParts_132 rfl hl (by decide) rfl (fun ls hl => ?_)
          refine lv_iload_n hx hb dX0_placeParts_133 rfl (lv_at hl 0 rfl) ?_
          refine lv_istore (lv' := [(4, .int 1), (3, .int 1), (2, .int x1), (0, .ref (u 38)), (1, .int a1)]) hx hb dX0_placeParts_134 hl (by decide) rfl (fun ls hl => ?_)
          refine lv_goto (tgt := 139) hx hb dX0_placeParts_136 (by decide) ?_
          refine lv_aload_n hx hb dX0_placeParts_139 rfl (lv_at hl 3 rfl) ?_
          refine xg (ci := 0) S inX0 rfl hK hP cW_39 1 (by decide) rfl kw_4_216 rfl dX0_placeParts_140 ?_
          refine lv_iload_n hx hb dX0_placeParts_143 rfl (lv_at hl 4 rfl) ?_
          refine yVi (As := [.int a1]) (cw := (cW o u cI cZ cJ T)) (ci := 5) S (v_X5_partB l D cI cZ cJ o u T ra ga σ2 a1 _ H.size hok) mi_X5_partB kw_2_72 rfl rfl ⟨Nat.le_of_ble_eq_true rfl, Nat.le_of_ble_eq_true rfl⟩ hP hD hK hS hA hB cW_13 rfl rfl hl.1 (Nat.le_of_ble_eq_true rfl) ⟨Nat.le_of_ble_eq_true rfl, Nat.le_of_ble_eq_true rfl⟩ dX0_placeParts_144 (fun x26 σ25 H locs hok hz hP hD hS => ?_)
          refine lv_istore (lv' := [(5, .int x26), (4, .int 1), (3, .int 1), (2, .int x1), (0, .ref (u 38)), (1, .int a1)]) hx hb dX0_placeParts_147 hl (by decide) rfl (fun ls hl => ?_)
          refine lv_iload_n hx hb dX0_placeParts_149 rfl (lv_at hl 3 rfl) ?_
          refine lv_iload_n hx hb dX0_placeParts_150 rfl (lv_at hl 2 rfl) ?_
          refine xiadd (v := x1 + 1) S dX0_placeParts_151 rfl ?_
          refine lv_aload_n hx hb dX0_placeParts_152 rfl (lv_at hl 4 rfl) ?_
          refine lv_iload hx hb dX0_placeParts_153 (lv_at hl 0 rfl) ?_
          refine yVi (As := [.int x26]) (cw := (cW o u cI cZ cJ T)) (ci := 0) S (v_X0_lengthOfPart_39 l D cI cZ cJ o u T ra ga σ25 x26 _ H.size hok) mi_X0_lengthOfPart kw_2_68 rfl rfl ⟨Nat.le_of_ble_eq_true rfl, Nat.le_of_ble_eq_true rfl⟩ hP hD hK hS hA hB cW_39 rfl rfl hl.1 (Nat.le_of_ble_eq_true rfl) ⟨Nat.le_of_ble_eq_true rfl, Nat.le_of_ble_eq_true rfl⟩ dX0_placeParts_155 (fun x28 σ27 H locs hok hz hP hD hS => ?_)
          refine xiadd (v := (x1 + 1) + x28) S dX0_placeParts_158 rfl ?_
          refine lv_iload hx hb dX0_placeParts_159 (lv_at hl 1 rfl) ?_
          refine xiadd (v := ((x1 + 1) + x28) + 1) S dX0_placeParts_161 rfl ?_
          refine lv_topi (fun x29 ex29 => ?_)
          have hok := hok x29 ex29
          refine lv_istore (lv' := [(6, .int x29), (5, .int x26), (4, .int 1), (3, .int 1), (2, .int x1), (0, .ref (u 38)), (1, .int a1)]) hx hb dX0_placeParts_162 hl (by decide) rfl (fun ls hl => ?_)
          refine lv_aload_n hx hb dX0_placeParts_164 rfl (lv_at hl 5 rfl) ?_
          refine xg (ci := 0) S inX0 rfl hK hP cW_39 1 (by decide) rfl kw_4_216 rfl dX0_placeParts_165 ?_
          refine lv_iload_n hx hb dX0_placeParts_168 rfl (lv_at hl 6 rfl) ?_
          refine yVi (As := [.int a1]) (cw := (cW o u cI cZ cJ T)) (ci := 5) S (v_X5_partC l D cI cZ cJ o u T ra ga σ27 a1 _ H.size hok) mi_X5_partC kw_2_73 rfl rfl ⟨Nat.le_of_ble_eq_true rfl, Nat.le_of_ble_eq_true rfl⟩ hP hD hK hS hA hB cW_13 rfl rfl hl.1 (Nat.le_of_ble_eq_true rfl) ⟨Nat.le_of_ble_eq_true rfl, Nat.le_of_ble_eq_true rfl⟩ dX0_placeParts_169 (fun x31 σ30 H locs hok hz hP hD hS => ?_)
          refine lv_istore (lv' := [(7, .int x31), (6, .int x29), (5, .int x26), (4, .int 1), (3, .int 1), (2, .int x1), (0, .ref (u 38)), (1, .int a1)]) hx hb dX0_placeParts_172 hl (by decide) rfl (fun ls hl => ?_)
          refine lv_aload_n hx hb dX0_placeParts_174 rfl (lv_at hl 6 rfl) ?_
          refine lv_iload hx hb dX0_placeParts_175 (lv_at hl 2 rfl) ?_
          refine lv_iload_n hx hb dX0_placeParts_177 rfl (lv_at hl 5 rfl) ?_
          refine lv_iload_n hx hb dX0_placeParts_178 rfl (lv_at hl 4 rfl) ?_
          refine xiadd (v := x1 + 1) S dX0_placeParts_179 rfl ?_
          refine yVv (As := [.int x26, .int (x1 + 1)]) (cw := (cW o u cI cZ cJ T)) (ci := 0) S (v_X0_place_39 l D cI cZ cJ o u T ra ga σ30 x26 (x1 + 1) _ H.size hok) mi_X0_place kw_2_102 rfl rfl ⟨Nat.le_of_ble_eq_true rfl, Nat.le_of_ble_eq_true rfl⟩ hP hD hK hS hA hB cW_39 rfl rfl hl.1 (Nat.le_of_ble_eq_true rfl) ⟨Nat.le_of_ble_eq_true rfl, Nat.le_of_ble_eq_true rfl⟩ dX0_placeParts_180 (fun σ32 H locs hok hz hP hD hS => ?_)
          refine lv_aload_n hx hb dX0_placeParts_183 rfl (lv_at hl 6 rfl) ?_
          refine lv_iload hx hb dX0_placeParts_184 (lv_at hl 0 rfl) ?_
          refine lv_iload hx hb dX0_placeParts_186 (lv_at hl 1 rfl) ?_
          refine yVv (As := [.int x31, .int x29]) (cw := (cW o u cI cZ cJ T)) (ci := 0) S (v_X0_place_39 l D cI cZ cJ o u T ra ga σ32 x31 x29 _ H.size hok) mi_X0_place kw_2_102 rfl rfl ⟨Nat.le_of_ble_eq_true rfl, Nat.le_of_ble_eq_true rfl⟩ hP hD hK hS hA hB cW_39 rfl rfl hl.1 (Nat.le_of_ble_eq_true rfl) ⟨Nat.le_of_ble_eq_true rfl, Nat.le_of_ble_eq_true rfl⟩ dX0_placeParts_188 (fun σ33 H locs hok hz hP hD hS => ?_)
          refine lv_aload_n hx hb dX0_placeParts_191 rfl (lv_at hl 6 rfl) ?_
          refine lv_aload_n hx hb dX0_placeParts_192 rfl (lv_at hl 6 rfl) ?_
          refine xg (ci := 0) S inX0 rfl hK hP cW_39 1 (by decide) rfl kw_4_216 rfl dX0_placeParts_193 ?_
          refine lv_iload_n hx hb dX0_placeParts_196 rfl (lv_at hl 7 rfl) ?_
          refine yVi (As := [.int a1]) (cw := (cW o u cI cZ cJ T)) (ci := 5) S (v_X5_partA l D cI cZ cJ o u T ra ga σ33 a1 _ H.size hok) mi_X5_partA kw_2_67 rfl rfl ⟨Nat.le_of_ble_eq_true rfl, Nat.le_of_ble_eq_true rfl⟩ hP hD hK hS hA hB cW_13 rfl rfl hl.1 (Nat.le_of_ble_eq_true rfl) ⟨Nat.le_of_ble_eq_true rfl, Nat.le_of_ble_eq_true rfl⟩ dX0_placeParts_197 (fun x35 σ34 H locs hok hz hP hD hS => ?_)
          refine lv_iload hx hb dX0_placeParts_200 (lv_at hl 1 rfl) ?_
          refine lv_aload_n hx hb dX0_placeParts_202 rfl (lv_at hl 6 rfl) ?_
          refine lv_iload hx hb dX0_placeParts_203 (lv_at hl 0 rfl) ?_
          refine yVi (As := [.int x31]) (cw := (cW o u cI cZ cJ T)) (ci := 0) S (v_X0_lengthOfPart_39 l D cI cZ cJ o u T ra ga σ34 x31 _ H.size hok) mi_X0_lengthOfPart kw_2_68 rfl rfl ⟨Nat.le_of_ble_eq_true rfl, Nat.le_of_ble_eq_true rfl⟩ hP hD hK hS hA hB cW_39 rfl rfl hl.1 (Nat.le_of_ble_eq_true rfl) ⟨Nat.le_of_ble_eq_true rfl, Nat.le_of_ble_eq_true rfl⟩ dX0_placeParts_205 (fun x37 σ36 H locs hok hz hP hD hS => ?_)
          refine xiadd (v := x29 + x37) S dX0_placeParts_208 rfl ?_
          refine lv_iconst (v := 1) hx hb dX0_placeParts_209 (by decide) ?_
          refine xiadd (v := (x29 + x37) + 1) S dX0_placeParts_210 rfl ?_
          refine yVv (As := [.int x35, .int ((x29 + x37) + 1)]) (cw := (cW o u cI cZ cJ T)) (ci := 0) S (v_X0_place_39 l D cI cZ cJ o u T ra ga σ36 x35 ((x29 + x37) + 1) _ H.size hok) mi_X0_place kw_2_102 rfl rfl ⟨Nat.le_of_ble_eq_true rfl, Nat.le_of_ble_eq_true rfl⟩ hP hD hK hS hA hB cW_39 rfl rfl hl.1 (Nat.le_of_ble_eq_true rfl) ⟨Nat.le_of_ble_eq_true rfl, Nat.le_of_ble_eq_true rfl⟩ dX0_placeParts_211 (fun σ38 H locs hok hz hP hD hS => ?_)
          exact yEndv S hr hlocks hP hD hS (Nat.le_of_ble_eq_true rfl) (Nat.le_of_ble_eq_true rfl) dX0_placeParts_214 hok
      · have hok := hok.2 k_65_0
        by_cases k_65_1 : x10 = 15
        · have hok := hok.1 k_65_1
          rw [k_65_1]
          refine lv_lookup (off := 43) (tgt := 108) hx hb dX0_placeParts_65 (by decide) (by decide) (by decide) ?_
          refine lv_iconst (v := 1) hx hb dX0_placeParts_108 (by decide) ?_
          refine lv_istore (lv' := [(4, .int 1), (3, .int 0), (2, .int x1), (0, .ref (u 38)), (1, .int a1)]) hx hb dX0_placeParts_109 hl (by decide) rfl (fun ls hl => ?_)
          refine lv_goto (tgt := 139) hx hb dX0_placeParts_111 (by decide) ?_
          refine lv_aload_n hx hb dX0_placeParts_139 rfl (lv_at hl 3 rfl) ?_
          refine xg (ci := 0) S inX0 rfl hK hP cW_39 1 (by decide) rfl kw_4_216 rfl dX0_placeParts_140 ?_
          refine lv_iload_n hx hb dX0_placeParts_143 rfl (lv_at hl 4 rfl) ?_
          refine yVi (As := [.int a1]) (cw := (cW o u cI cZ cJ T)) (ci := 5) S (v_X5_partB l D cI cZ cJ o u T ra ga σ2 a1 _ H.size hok) mi_X5_partB kw_2_72 rfl rfl ⟨Nat.le_of_ble_eq_true rfl, Nat.le_of_ble_eq_true rfl⟩ hP hD hK hS hA hB cW_13 rfl rfl hl.1 (Nat.le_of_ble_eq_true rfl) ⟨Nat.le_of_ble_eq_true rfl, Nat.le_of_ble_eq_true rfl⟩ dX0_placeParts_144 (fun x40 σ39 H locs hok hz hP hD hS => ?_)
          refine lv_istore (lv' := [(5, .int x40), (4, .int 1), (3, .int 0), (2, .int x1), (0, .ref (u 38)), (1, .int a1)]) hx hb dX0_placeParts_147 hl (by decide) rfl (fun ls hl => ?_)
          refine lv_iload_n hx hb dX0_placeParts_149 rfl (lv_at hl 3 rfl) ?_
          refine lv_iload_n hx hb dX0_placeParts_150 rfl (lv_at hl 2 rfl) ?_
          refine xiadd (v := x1 + 0) S dX0_placeParts_151 rfl ?_
          refine lv_aload_n hx hb dX0_placeParts_152 rfl (lv_at hl 4 rfl) ?_
          refine lv_iload hx hb dX0_placeParts_153 (lv_at hl 0 rfl) ?_
          refine yVi (As := [.int x40]) (cw := (cW o u cI cZ cJ T)) (ci := 0) S (v_X0_lengthOfPart_39 l D cI cZ cJ o u T ra ga σ39 x40 _ H.size hok) mi_X0_lengthOfPart kw_2_68 rfl rfl ⟨Nat.le_of_ble_eq_true rfl, Nat.le_of_ble_eq_true rfl⟩ hP hD hK hS hA hB cW_39 rfl rfl hl.1 (Nat.le_of_ble_eq_true rfl) ⟨Nat.le_of_ble_eq_true rfl, Nat.le_of_ble_eq_true rfl⟩ dX0_placeParts_155 (fun x42 σ41 H locs hok hz hP hD hS => ?_)
          refine xiadd (v := (x1 + 0) + x42) S dX0_placeParts_158 rfl ?_
          refine lv_iload hx hb dX0_placeParts_159 (lv_at hl 1 rfl) ?_
          refine xiadd (v := ((x1 + 0) + x42) + 1) S dX0_placeParts_161 rfl ?_
          refine lv_topi (fun x43 ex43 => ?_)
          have hok := hok x43 ex43
          refine lv_istore (lv' := [(6, .int x43), (5, .int x40), (4, .int 1), (3, .int 0), (2, .int x1), (0, .ref (u 38)), (1, .int a1)]) hx hb dX0_placeParts_162 hl (by decide) rfl (fun ls hl => ?_)
          refine lv_aload_n hx hb dX0_placeParts_164 rfl (lv_at hl 5 rfl) ?_
          refine xg (ci := 0) S inX0 rfl hK hP cW_39 1 (by decide) rfl kw_4_216 rfl dX0_placeParts_165 ?_
          refine lv_iload_n hx hb dX0_placeParts_168 rfl (lv_at hl 6 rfl) ?_
          refine yVi (As := [.int a1]) (cw := (cW o u cI cZ cJ T)) (ci := 5) S (v_X5_partC l D cI cZ cJ o u T ra ga σ41 a1 _ H.size hok) mi_X5_partC kw_2_73 rfl rfl ⟨Nat.le_of_ble_eq_true rfl, Nat.le_of_ble_eq_true rfl⟩ hP hD hK hS hA hB cW_13 rfl rfl hl.1 (Nat.le_of_ble_eq_true rfl) ⟨Nat.le_of_ble_eq_true rfl, Nat.le_of_ble_eq_true rfl⟩ dX0_placeParts_169 (fun x45 σ44 H locs hok hz hP hD hS => ?_)
          refine lv_istore (lv' := [(7, .int x45), (6, .int x43), (5, .int x40), (4, .int 1), (3, .int 0), (2, .int x1), (0, .ref (u 38)), (1, .int a1)]) hx hb dX0_placeParts_172 hl (by decide) rfl (fun ls hl => ?_)
          refine lv_aload_n hx hb dX0_placeParts_174 rfl (lv_at hl 6 rfl) ?_
          refine lv_iload hx hb dX0_placeParts_175 (lv_at hl 2 rfl) ?_
          refine lv_iload_n hx hb dX0_placeParts_177 rfl (lv_at hl 5 rfl) ?_
          refine lv_iload_n hx hb dX0_placeParts_178 rfl (lv_at hl 4 rfl) ?_
          refine xiadd (v := x1 + 0) S dX0_placeParts_179 rfl ?_
          refine yVv (As := [.int x40, .int (x1 + 0)]) (cw := (cW o u cI cZ cJ T)) (ci := 0) S (v_X0_place_39 l D cI cZ cJ o u T ra ga σ44 x40 (x1 + 0) _ H.size hok) mi_X0_place kw_2_102 rfl rfl ⟨Nat.le_of_ble_eq_true rfl, Nat.le_of_ble_eq_true rfl⟩ hP hD hK hS hA hB cW_39 rfl rfl hl.1 (Nat.le_of_ble_eq_true rfl) ⟨Nat.le_of_ble_eq_true rfl, Nat.le_of_ble_eq_true rfl⟩ dX0_placeParts_180 (fun σ46 H locs hok hz hP hD hS => ?_)
          refine lv_aload_n hx hb dX0_placeParts_183 rfl (lv_at hl 6 rfl) ?_
          refine lv_iload hx hb dX0_placeParts_184 (lv_at hl 0 rfl) ?_
          refine lv_iload hx hb dX0_placeParts_186 (lv_at hl 1 rfl) ?_
          refine yVv (As := [.int x45, .int x43]) (cw := (cW o u cI cZ cJ T)) (ci := 0) S (v_X0_place_39 l D cI cZ cJ o u T ra ga σ46 x45 x43 _ H.size hok) mi_X0_place kw_2_102 rfl rfl ⟨Nat.le_of_ble_eq_true rfl, Nat.le_of_ble_eq_true rfl⟩ hP hD hK hS hA hB cW_39 rfl rfl hl.1 (Nat.le_of_ble_eq_true rfl) ⟨Nat.le_of_ble_eq_true rfl, Nat.le_of_ble_eq_true rfl⟩ dX0_placeParts_188 (fun σ47 H locs hok hz hP hD hS => ?_)
          refine lv_aload_n hx hb dX0_placeParts_191 rfl (lv_at hl 6 rfl) ?_
          refine lv_aload_n hx hb dX0_placeParts_192 rfl (lv_at hl 6 rfl) ?_
          refine xg (ci := 0) S inX0 rfl hK hP cW_39 1 (by decide) rfl kw_4_216 rfl dX0_placeParts_193 ?_
          refine lv_iload_n hx hb dX0_placeParts_196 rfl (lv_at hl 7 rfl) ?_
          refine yVi (As := [.int a1]) (cw := (cW o u cI cZ cJ T)) (ci := 5) S (v_X5_partA l D cI cZ cJ o u T ra ga σ47 a1 _ H.size hok) mi_X5_partA kw_2_67 rfl rfl ⟨Nat.le_of_ble_eq_true rfl, Nat.le_of_ble_eq_true rfl⟩ hP hD hK hS hA hB cW_13 rfl rfl hl.1 (Nat.le_of_ble_eq_true rfl) ⟨Nat.le_of_ble_eq_true rfl, Nat.le_of_ble_eq_true rfl⟩ dX0_placeParts_197 (fun x49 σ48 H locs hok hz hP hD hS => ?_)
          refine lv_iload hx hb dX0_placeParts_200 (lv_at hl 1 rfl) ?_
          refine lv_aload_n hx hb dX0_placeParts_202 rfl (lv_at hl 6 rfl) ?_
          refine lv_iload hx hb dX0_placeParts_203 (lv_at hl 0 rfl) ?_
          refine yVi (As := [.int x45]) (cw := (cW o u cI cZ cJ T)) (ci := 0) S (v_X0_lengthOfPart_39 l D cI cZ cJ o u T ra ga σ48 x45 _ H.size hok) mi_X0_lengthOfPart kw_2_68 rfl rfl ⟨Nat.le_of_ble_eq_true rfl, Nat.le_of_ble_eq_true rfl⟩ hP hD hK hS hA hB cW_39 rfl rfl hl.1 (Nat.le_of_ble_eq_true rfl) ⟨Nat.le_of_ble_eq_true rfl, Nat.le_of_ble_eq_true rfl⟩ dX0_placeParts_205 (fun x51 σ50 H locs hok hz hP hD hS => ?_)
          refine xiadd (v := x43 + x51) S dX0_placeParts_208 rfl ?_
          refine lv_iconst (v := 1) hx hb dX0_placeParts_209 (by decide) ?_
          refine xiadd (v := (x43 + x51) + 1) S dX0_placeParts_210 rfl ?_
          refine yVv (As := [.int x49, .int ((x43 + x51) + 1)]) (cw := (cW o u cI cZ cJ T)) (ci := 0) S (v_X0_place_39 l D cI cZ cJ o u T ra ga σ50 x49 ((x43 + x51) + 1) _ H.size hok) mi_X0_place kw_2_102 rfl rfl ⟨Nat.le_of_ble_eq_true rfl, Nat.le_of_ble_eq_true rfl⟩ hP hD hK hS hA hB cW_39 rfl rfl hl.1 (Nat.le_of_ble_eq_true rfl) ⟨Nat.le_of_ble_eq_true rfl, Nat.le_of_ble_eq_true rfl⟩ dX0_placeParts_211 (fun σ52 H locs hok hz hP hD hS => ?_)
          exact yEndv S hr hlocks hP hD hS (Nat.le_of_ble_eq_true rfl) (Nat.le_of_ble_eq_true rfl) dX0_placeParts_214 hok
        · have hok := hok.2 k_65_1
          by_cases k_65_2 : x10 = 16
          · have hok := hok.1 k_65_2
            rw [k_65_2]
            refine lv_lookup (off := 35) (tgt := 100) hx hb dX0_placeParts_65 (by decide) (by decide) (by decide) ?_
            refine lv_iconst (v := 1) hx hb dX0_placeParts_100 (by decide) ?_
            refine lv_istore_n (lv' := [(3, .int 1), (4, .int 0), (2, .int x1), (0, .ref (u 38)), (1, .int a1)]) hx hb dX0_placeParts_101 rfl hl (by decide) rfl (fun ls hl => ?_)
            refine lv_iconst (v := 1) hx hb dX0_placeParts_102 (by decide) ?_
            refine lv_istore (lv' := [(4, .int 1), (3, .int 1), (2, .int x1), (0, .ref (u 38)), (1, .int a1)]) hx hb dX0_placeParts_103 hl (by decide) rfl (fun ls hl => ?_)
            refine lv_goto (tgt := 139) hx hb dX0_placeParts_105 (by decide) ?_
            refine lv_aload_n hx hb dX0_placeParts_139 rfl (lv_at hl 3 rfl) ?_
            refine xg (ci := 0) S inX0 rfl hK hP cW_39 1 (by decide) rfl kw_4_216 rfl dX0_placeParts_140 ?_
            refine lv_iload_n hx hb dX0_placeParts_143 rfl (lv_at hl 4 rfl) ?_
            refine yVi (As := [.int a1]) (cw := (cW o u cI cZ cJ T)) (ci := 5) S (v_X5_partB l D cI cZ cJ o u T ra ga σ2 a1 _ H.size hok) mi_X5_partB kw_2_72 rfl rfl ⟨Nat.le_of_ble_eq_true rfl, Nat.le_of_ble_eq_true rfl⟩ hP hD hK hS hA hB cW_13 rfl rfl hl.1 (Nat.le_of_ble_eq_true rfl) ⟨Nat.le_of_ble_eq_true rfl, Nat.le_of_ble_eq_true rfl⟩ dX0_placeParts_144 (fun x54 σ53 H locs hok hz hP hD hS => ?_)
            refine lv_istore (lv' := [(5, .int x54), (4, .int 1), (3, .int 1), (2, .int x1), (0, .ref (u 38)), (1, .int a1)]) hx hb dX0_placeParts_147 hl (by decide) rfl (fun ls hl => ?_)
            refine lv_iload_n hx hb dX0_placeParts_149 rfl (lv_at hl 3 rfl) ?_
            refine lv_iload_n hx hb dX0_placeParts_150 rfl (lv_at hl 2 rfl) ?_
            refine xiadd (v := x1 + 1) S dX0_placeParts_151 rfl ?_
            refine lv_aload_n hx hb dX0_placeParts_152 rfl (lv_at hl 4 rfl) ?_
            refine lv_iload hx hb dX0_placeParts_153 (lv_at hl 0 rfl) ?_
            refine yVi (As := [.int x54]) (cw := (cW o u cI cZ cJ T)) (ci := 0) S (v_X0_lengthOfPart_39 l D cI cZ cJ o u T ra ga σ53 x54 _ H.size hok) mi_X0_lengthOfPart kw_2_68 rfl rfl ⟨Nat.le_of_ble_eq_true rfl, Nat.le_of_ble_eq_true rfl⟩ hP hD hK hS hA hB cW_39 rfl rfl hl.1 (Nat.le_of_ble_eq_true rfl) ⟨Nat.le_of_ble_eq_true rfl, Nat.le_of_ble_eq_true rfl⟩ dX0_placeParts_155 (fun x56 σ55 H locs hok hz hP hD hS => ?_)
            refine xiadd (v := (x1 + 1) + x56) S dX0_placeParts_158 rfl ?_
            refine lv_iload hx hb dX0_placeParts_159 (lv_at hl 1 rfl) ?_
            refine xiadd (v := ((x1 + 1) + x56) + 1) S dX0_placeParts_161 rfl ?_
            refine lv_topi (fun x57 ex57 => ?_)
            have hok := hok x57 ex57
            refine lv_istore (lv' := [(6, .int x57), (5, .int x54), (4, .int 1), (3, .int 1), (2, .int x1), (0, .ref (u 38)), (1, .int a1)]) hx hb dX0_placeParts_162 hl (by decide) rfl (fun ls hl => ?_)
            refine lv_aload_n hx hb dX0_placeParts_164 rfl (lv_at hl 5 rfl) ?_
            refine xg (ci := 0) S inX0 rfl hK hP cW_39 1 (by decide) rfl kw_4_216 rfl dX0_placeParts_165 ?_
            refine lv_iload_n hx hb dX0_placeParts_168 rfl (lv_at hl 6 rfl) ?_
            refine yVi (As := [.int a1]) (cw := (cW o u cI cZ cJ T)) (ci := 5) S (v_X5_partC l D cI cZ cJ o u T ra ga σ55 a1 _ H.size hok) mi_X5_partC kw_2_73 rfl rfl ⟨Nat.le_of_ble_eq_true rfl, Nat.le_of_ble_eq_true rfl⟩ hP hD hK hS hA hB cW_13 rfl rfl hl.1 (Nat.le_of_ble_eq_true rfl) ⟨Nat.le_of_ble_eq_true rfl, Nat.le_of_ble_eq_true rfl⟩ dX0_placeParts_169 (fun x59 σ58 H locs hok hz hP hD hS => ?_)
            refine lv_istore (lv' := [(7, .int x59), (6, .int x57), (5, .int x54), (4, .int 1), (3, .int 1), (2, .int x1), (0, .ref (u 38)), (1, .int a1)]) hx hb dX0_placeParts_172 hl (by decide) rfl (fun ls hl => ?_)
            refine lv_aload_n hx hb dX0_placeParts_174 rfl (lv_at hl 6 rfl) ?_
            refine lv_iload hx hb dX0_placeParts_175 (lv_at hl 2 rfl) ?_
            refine lv_iload_n hx hb dX0_placeParts_177 rfl (lv_at hl 5 rfl) ?_
            refine lv_iload_n hx hb dX0_placeParts_178 rfl (lv_at hl 4 rfl) ?_
            refine xiadd (v := x1 + 1) S dX0_placeParts_179 rfl ?_
            refine yVv (As := [.int x54, .int (x1 + 1)]) (cw := (cW o u cI cZ cJ T)) (ci := 0) S (v_X0_place_39 l D cI cZ cJ o u T ra ga σ58 x54 (x1 + 1) _ H.size hok) mi_X0_place kw_2_102 rfl rfl ⟨Nat.le_of_ble_eq_true rfl, Nat.le_of_ble_eq_true rfl⟩ hP hD hK hS hA hB cW_39 rfl rfl hl.1 (Nat.le_of_ble_eq_true rfl) ⟨Nat.le_of_ble_eq_true rfl, Nat.le_of_ble_eq_true rfl⟩ dX0_placeParts_180 (fun σ60 H locs hok hz hP hD hS => ?_)
            refine lv_aload_n hx hb dX0_placeParts_183 rfl (lv_at hl 6 rfl) ?_
            refine lv_iload hx hb dX0_placeParts_184 (lv_at hl 0 rfl) ?_
            refine lv_iload hx hb dX0_placeParts_186 (lv_at hl 1 rfl) ?_
            refine yVv (As := [.int x59, .int x57]) (cw := (cW o u cI cZ cJ T)) (ci := 0) S (v_X0_place_39 l D cI cZ cJ o u T ra ga σ60 x59 x57 _ H.size hok) mi_X0_place kw_2_102 rfl rfl ⟨Nat.le_of_ble_eq_true rfl, Nat.le_of_ble_eq_true rfl⟩ hP hD hK hS hA hB cW_39 rfl rfl hl.1 (Nat.le_of_ble_eq_true rfl) ⟨Nat.le_of_ble_eq_true rfl, Nat.le_of_ble_eq_true rfl⟩ dX0_placeParts_188 (fun σ61 H locs hok hz hP hD hS => ?_)
            refine lv_aload_n hx hb dX0_placeParts_191 rfl (lv_at hl 6 rfl) ?_
            refine lv_aload_n hx hb dX0_placeParts_192 rfl (lv_at hl 6 rfl) ?_
            refine xg (ci := 0) S inX0 rfl hK hP cW_39 1 (by decide) rfl kw_4_216 rfl dX0_placeParts_193 ?_
            refine lv_iload_n hx hb dX0_placeParts_196 rfl (lv_at hl 7 rfl) ?_
            refine yVi (As := [.int a1]) (cw := (cW o u cI cZ cJ T)) (ci := 5) S (v_X5_partA l D cI cZ cJ o u T ra ga σ61 a1 _ H.size hok) mi_X5_partA kw_2_67 rfl rfl ⟨Nat.le_of_ble_eq_true rfl, Nat.le_of_ble_eq_true rfl⟩ hP hD hK hS hA hB cW_13 rfl rfl hl.1 (Nat.le_of_ble_eq_true rfl) ⟨Nat.le_of_ble_eq_true rfl, Nat.le_of_ble_eq_true rfl⟩ dX0_placeParts_197 (fun x63 σ62 H locs hok hz hP hD hS => ?_)
            refine lv_iload hx hb dX0_placeParts_200 (lv_at hl 1 rfl) ?_
            refine lv_aload_n hx hb dX0_placeParts_202 rfl (lv_at hl 6 rfl) ?_
            refine lv_iload hx hb dX0_placeParts_203 (lv_at hl 0 rfl) ?_
            refine yVi (As := [.int x59]) (cw := (cW o u cI cZ cJ T)) (ci := 0) S (v_X0_lengthOfPart_39 l D cI cZ cJ o u T ra ga σ62 x59 _ H.size hok) mi_X0_lengthOfPart kw_2_68 rfl rfl ⟨Nat.le_of_ble_eq_true rfl, Nat.le_of_ble_eq_true rfl⟩ hP hD hK hS hA hB cW_39 rfl rfl hl.1 (Nat.le_of_ble_eq_true rfl) ⟨Nat.le_of_ble_eq_true rfl, Nat.le_of_ble_eq_true rfl⟩ dX0_placeParts_205 (fun x65 σ64 H locs hok hz hP hD hS => ?_)
            refine xiadd (v := x57 + x65) S dX0_placeParts_208 rfl ?_
            refine lv_iconst (v := 1) hx hb dX0_placeParts_209 (by decide) ?_
            refine xiadd (v := (x57 + x65) + 1) S dX0_placeParts_210 rfl ?_
            refine yVv (As := [.int x63, .int ((x57 + x65) + 1)]) (cw := (cW o u cI cZ cJ T)) (ci := 0) S (v_X0_place_39 l D cI cZ cJ o u T ra ga σ64 x63 ((x57 + x65) + 1) _ H.size hok) mi_X0_place kw_2_102 rfl rfl ⟨Nat.le_of_ble_eq_true rfl, Nat.le_of_ble_eq_true rfl⟩ hP hD hK hS hA hB cW_39 rfl rfl hl.1 (Nat.le_of_ble_eq_true rfl) ⟨Nat.le_of_ble_eq_true rfl, Nat.le_of_ble_eq_true rfl⟩ dX0_placeParts_211 (fun σ66 H locs hok hz hP hD hS => ?_)
            exact yEndv S hr hlocks hP hD hS (Nat.le_of_ble_eq_true rfl) (Nat.le_of_ble_eq_true rfl) dX0_placeParts_214 hok
          · have hok := hok.2 k_65_2
            have q_65_0 := sw_ni k_65_0 (z := 9) (by decide)
            have q_65_1 := sw_ni k_65_1 (z := 15) (by decide)
            have q_65_2 := sw_ni k_65_2 (z := 16) (by decide)
            refine lv_lookup (off := 74) (tgt := 139) hx hb dX0_placeParts_65 (by decide) (by show (if (9 : Int) = x10.toInt then (49 : Int) else if (15 : Int) = x10.toInt then (43 : Int) else if (16 : Int) = x10.toInt then (35 : Int) else 74) = 74; rw [if_neg (fun h => q_65_0 h.symm), if_neg (fun h => q_65_1 h.symm), if_neg (fun h => q_65_2 h.symm)]) (by decide) ?_
            refine lv_aload_n hx hb dX0_placeParts_139 rfl (lv_at hl 3 rfl) ?_
            refine xg (ci := 0) S inX0 rfl hK hP cW_39 1 (by decide) rfl kw_4_216 rfl dX0_placeParts_140 ?_
            refine lv_iload_n hx hb dX0_placeParts_143 rfl (lv_at hl 4 rfl) ?_
            refine yVi (As := [.int a1]) (cw := (cW o u cI cZ cJ T)) (ci := 5) S (v_X5_partB l D cI cZ cJ o u T ra ga σ2 a1 _ H.size hok) mi_X5_partB kw_2_72 rfl rfl ⟨Nat.le_of_ble_eq_true rfl, Nat.le_of_ble_eq_true rfl⟩ hP hD hK hS hA hB cW_13 rfl rfl hl.1 (Nat.le_of_ble_eq_true rfl) ⟨Nat.le_of_ble_eq_true rfl, Nat.le_of_ble_eq_true rfl⟩ dX0_placeParts_144 (fun x68 σ67 H locs hok hz hP hD hS => ?_)
            refine lv_istore (lv' := [(5, .int x68), (4, .int 0), (3, .int 0), (2, .int x1), (0, .ref (u 38)), (1, .int a1)]) hx hb dX0_placeParts_147 hl (by decide) rfl (fun ls hl => ?_)
            refine lv_iload_n hx hb dX0_placeParts_149 rfl (lv_at hl 3 rfl) ?_
            refine lv_iload_n hx hb dX0_placeParts_150 rfl (lv_at hl 2 rfl) ?_
            refine xiadd (v := x1 + 0) S dX0_placeParts_151 rfl ?_
            refine lv_aload_n hx hb dX0_placeParts_152 rfl (lv_at hl 4 rfl) ?_
            refine lv_iload hx hb dX0_placeParts_153 (lv_at hl 0 rfl) ?_
            refine yVi (As := [.int x68]) (cw := (cW o u cI cZ cJ T)) (ci := 0) S (v_X0_lengthOfPart_39 l D cI cZ cJ o u T ra ga σ67 x68 _ H.size hok) mi_X0_lengthOfPart kw_2_68 rfl rfl ⟨Nat.le_of_ble_eq_true rfl, Nat.le_of_ble_eq_true rfl⟩ hP hD hK hS hA hB cW_39 rfl rfl hl.1 (Nat.le_of_ble_eq_true rfl) ⟨Nat.le_of_ble_eq_true rfl, Nat.le_of_ble_eq_true rfl⟩ dX0_placeParts_155 (fun x70 σ69 H locs hok hz hP hD hS => ?_)
            refine xiadd (v := (x1 + 0) + x70) S dX0_placeParts_158 rfl ?_
            refine lv_iload hx hb dX0_placeParts_159 (lv_at hl 1 rfl) ?_
            refine xiadd (v := ((x1 + 0) + x70) + 0) S dX0_placeParts_161 rfl ?_
            refine lv_topi (fun x71 ex71 => ?_)
            have hok := hok x71 ex71
            refine lv_istore (lv' := [(6, .int x71), (5, .int x68), (4, .int 0), (3, .int 0), (2, .int x1), (0, .ref (u 38)), (1, .int a1)]) hx hb dX0_placeParts_162 hl (by decide) rfl (fun ls hl => ?_)
            refine lv_aload_n hx hb dX0_placeParts_164 rfl (lv_at hl 5 rfl) ?_
            refine xg (ci := 0) S inX0 rfl hK hP cW_39 1 (by decide) rfl kw_4_216 rfl dX0_placeParts_165 ?_
            refine lv_iload_n hx hb dX0_placeParts_168 rfl (lv_at hl 6 rfl) ?_
            refine yVi (As := [.int a1]) (cw := (cW o u cI cZ cJ T)) (ci := 5) S (v_X5_partC l D cI cZ cJ o u T ra ga σ69 a1 _ H.size hok) mi_X5_partC kw_2_73 rfl rfl ⟨Nat.le_of_ble_eq_true rfl, Nat.le_of_ble_eq_true rfl⟩ hP hD hK hS hA hB cW_13 rfl rfl hl.1 (Nat.le_of_ble_eq_true rfl) ⟨Nat.le_of_ble_eq_true rfl, Nat.le_of_ble_eq_true rfl⟩ dX0_placeParts_169 (fun x73 σ72 H locs hok hz hP hD hS => ?_)
            refine lv_istore (lv' := [(7, .int x73), (6, .int x71), (5, .int x68), (4, .int 0), (3, .int 0), (2, .int x1), (0, .ref (u 38)), (1, .int a1)]) hx hb dX0_placeParts_172 hl (by decide) rfl (fun ls hl => ?_)
            refine lv_aload_n hx hb dX0_placeParts_174 rfl (lv_at hl 6 rfl) ?_
            refine lv_iload hx hb dX0_placeParts_175 (lv_at hl 2 rfl) ?_
            refine lv_iload_n hx hb dX0_placeParts_177 rfl (lv_at hl 5 rfl) ?_
            refine lv_iload_n hx hb dX0_placeParts_178 rfl (lv_at hl 4 rfl) ?_
            refine xiadd (v := x1 + 0) S dX0_placeParts_179 rfl ?_
            refine yVv (As := [.int x68, .int (x1 + 0)]) (cw := (cW o u cI cZ cJ T)) (ci := 0) S (v_X0_place_39 l D cI cZ cJ o u T ra ga σ72 x68 (x1 + 0) _ H.size hok) mi_X0_place kw_2_102 rfl rfl ⟨Nat.le_of_ble_eq_true rfl, Nat.le_of_ble_eq_true rfl⟩ hP hD hK hS hA hB cW_39 rfl rfl hl.1 (Nat.le_of_ble_eq_true rfl) ⟨Nat.le_of_ble_eq_true rfl, Nat.le_of_ble_eq_true rfl⟩ dX0_placeParts_180 (fun σ74 H locs hok hz hP hD hS => ?_)
            refine lv_aload_n hx hb dX0_placeParts_183 rfl (lv_at hl 6 rfl) ?_
            refine lv_iload hx hb dX0_placeParts_184 (lv_at hl 0 rfl) ?_
            refine lv_iload hx hb dX0_placeParts_186 (lv_at hl 1 rfl) ?_
            refine yVv (As := [.int x73, .int x71]) (cw := (cW o u cI cZ cJ T)) (ci := 0) S (v_X0_place_39 l D cI cZ cJ o u T ra ga σ74 x73 x71 _ H.size hok) mi_X0_place kw_2_102 rfl rfl ⟨Nat.le_of_ble_eq_true rfl, Nat.le_of_ble_eq_true rfl⟩ hP hD hK hS hA hB cW_39 rfl rfl hl.1 (Nat.le_of_ble_eq_true rfl) ⟨Nat.le_of_ble_eq_true rfl, Nat.le_of_ble_eq_true rfl⟩ dX0_placeParts_188 (fun σ75 H locs hok hz hP hD hS => ?_)
            refine lv_aload_n hx hb dX0_placeParts_191 rfl (lv_at hl 6 rfl) ?_
            refine lv_aload_n hx hb dX0_placeParts_192 rfl (lv_at hl 6 rfl) ?_
            refine xg (ci := 0) S inX0 rfl hK hP cW_39 1 (by decide) rfl kw_4_216 rfl dX0_placeParts_193 ?_
            refine lv_iload_n hx hb dX0_placeParts_196 rfl (lv_at hl 7 rfl) ?_
            refine yVi (As := [.int a1]) (cw := (cW o u cI cZ cJ T)) (ci := 5) S (v_X5_partA l D cI cZ cJ o u T ra ga σ75 a1 _ H.size hok) mi_X5_partA kw_2_67 rfl rfl ⟨Nat.le_of_ble_eq_true rfl, Nat.le_of_ble_eq_true rfl⟩ hP hD hK hS hA hB cW_13 rfl rfl hl.1 (Nat.le_of_ble_eq_true rfl) ⟨Nat.le_of_ble_eq_true rfl, Nat.le_of_ble_eq_true rfl⟩ dX0_placeParts_197 (fun x77 σ76 H locs hok hz hP hD hS => ?_)
            refine lv_iload hx hb dX0_placeParts_200 (lv_at hl 1 rfl) ?_
            refine lv_aload_n hx hb dX0_placeParts_202 rfl (lv_at hl 6 rfl) ?_
            refine lv_iload hx hb dX0_placeParts_203 (lv_at hl 0 rfl) ?_
            refine yVi (As := [.int x73]) (cw := (cW o u cI cZ cJ T)) (ci := 0) S (v_X0_lengthOfPart_39 l D cI cZ cJ o u T ra ga σ76 x73 _ H.size hok) mi_X0_lengthOfPart kw_2_68 rfl rfl ⟨Nat.le_of_ble_eq_true rfl, Nat.le_of_ble_eq_true rfl⟩ hP hD hK hS hA hB cW_39 rfl rfl hl.1 (Nat.le_of_ble_eq_true rfl) ⟨Nat.le_of_ble_eq_true rfl, Nat.le_of_ble_eq_true rfl⟩ dX0_placeParts_205 (fun x79 σ78 H locs hok hz hP hD hS => ?_)
            refine xiadd (v := x71 + x79) S dX0_placeParts_208 rfl ?_
            refine lv_iconst (v := 1) hx hb dX0_placeParts_209 (by decide) ?_
            refine xiadd (v := (x71 + x79) + 1) S dX0_placeParts_210 rfl ?_
            refine yVv (As := [.int x77, .int ((x71 + x79) + 1)]) (cw := (cW o u cI cZ cJ T)) (ci := 0) S (v_X0_place_39 l D cI cZ cJ o u T ra ga σ78 x77 ((x71 + x79) + 1) _ H.size hok) mi_X0_place kw_2_102 rfl rfl ⟨Nat.le_of_ble_eq_true rfl, Nat.le_of_ble_eq_true rfl⟩ hP hD hK hS hA hB cW_39 rfl rfl hl.1 (Nat.le_of_ble_eq_true rfl) ⟨Nat.le_of_ble_eq_true rfl, Nat.le_of_ble_eq_true rfl⟩ dX0_placeParts_211 (fun σ80 H locs hok hz hP hD hS => ?_)
            exact yEndv S hr hlocks hP hD hS (Nat.le_of_ble_eq_true rfl) (Nat.le_of_ble_eq_true rfl) dX0_placeParts_214 hok
    · have hok := hok.2 c_21
      refine lv_aload_n hx hb dX0_placeParts_24 rfl (lv_at hl 1 rfl) ?_
      refine lv_aload_n hx hb dX0_placeParts_25 rfl (lv_at hl 1 rfl) ?_
      refine xg (ci := 0) S inX0 rfl hK hP cW_39 1 (by decide) rfl kw_4_216 rfl dX0_placeParts_26 ?_
      refine lv_iload_n hx hb dX0_placeParts_29 rfl (lv_at hl 2 rfl) ?_
      refine yVi (As := [.int a1]) (cw := (cW o u cI cZ cJ T)) (ci := 5) S (v_X5_partB l D cI cZ cJ o u T ra ga σ2 a1 _ H.size hok) mi_X5_partB kw_2_72 rfl rfl ⟨Nat.le_of_ble_eq_true rfl, Nat.le_of_ble_eq_true rfl⟩ hP hD hK hS hA hB cW_13 rfl rfl hl.1 (Nat.le_of_ble_eq_true rfl) ⟨Nat.le_of_ble_eq_true rfl, Nat.le_of_ble_eq_true rfl⟩ dX0_placeParts_30 (fun x82 σ81 H locs hok hz hP hD hS => ?_)
      refine lv_iload_n hx hb dX0_placeParts_33 rfl (lv_at hl 0 rfl) ?_
      refine yVv (As := [.int x82, .int x1]) (cw := (cW o u cI cZ cJ T)) (ci := 0) S (v_X0_swallow_39 l D cI cZ cJ o u T ra ga σ81 x82 x1 _ H.size hok) mi_X0_swallow kw_2_98 rfl rfl ⟨Nat.le_of_ble_eq_true rfl, Nat.le_of_ble_eq_true rfl⟩ hP hD hK hS hA hB cW_39 rfl rfl hl.1 (Nat.le_of_ble_eq_true rfl) ⟨Nat.le_of_ble_eq_true rfl, Nat.le_of_ble_eq_true rfl⟩ dX0_placeParts_34 (fun σ83 H locs hok hz hP hD hS => ?_)
      refine lv_aload_n hx hb dX0_placeParts_37 rfl (lv_at hl 1 rfl) ?_
      refine lv_aload_n hx hb dX0_placeParts_38 rfl (lv_at hl 1 rfl) ?_
      refine xg (ci := 0) S inX0 rfl hK hP cW_39 1 (by decide) rfl kw_4_216 rfl dX0_placeParts_39 ?_
      refine lv_iload_n hx hb dX0_placeParts_42 rfl (lv_at hl 2 rfl) ?_
      refine yVi (As := [.int a1]) (cw := (cW o u cI cZ cJ T)) (ci := 5) S (v_X5_partC l D cI cZ cJ o u T ra ga σ83 a1 _ H.size hok) mi_X5_partC kw_2_73 rfl rfl ⟨Nat.le_of_ble_eq_true rfl, Nat.le_of_ble_eq_true rfl⟩ hP hD hK hS hA hB cW_13 rfl rfl hl.1 (Nat.le_of_ble_eq_true rfl) ⟨Nat.le_of_ble_eq_true rfl, Nat.le_of_ble_eq_true rfl⟩ dX0_placeParts_43 (fun x85 σ84 H locs hok hz hP hD hS => ?_)
      refine lv_iload_n hx hb dX0_placeParts_46 rfl (lv_at hl 0 rfl) ?_
      refine yVv (As := [.int x85, .int x1]) (cw := (cW o u cI cZ cJ T)) (ci := 0) S (v_X0_swallow_39 l D cI cZ cJ o u T ra ga σ84 x85 x1 _ H.size hok) mi_X0_swallow kw_2_98 rfl rfl ⟨Nat.le_of_ble_eq_true rfl, Nat.le_of_ble_eq_true rfl⟩ hP hD hK hS hA hB cW_39 rfl rfl hl.1 (Nat.le_of_ble_eq_true rfl) ⟨Nat.le_of_ble_eq_true rfl, Nat.le_of_ble_eq_true rfl⟩ dX0_placeParts_47 (fun σ86 H locs hok hz hP hD hS => ?_)
      exact yEndv S hr hlocks hP hD hS (Nat.le_of_ble_eq_true rfl) (Nat.le_of_ble_eq_true rfl) dX0_placeParts_50 hok
