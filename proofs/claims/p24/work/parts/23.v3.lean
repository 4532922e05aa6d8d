set_option maxHeartbeats 8000000 in
set_option maxRecDepth 100000 in
theorem v_X0_noteBegin_39 (l : Launch) (D : va_G) (cI cZ cJ : ClassId) (o : Nat) (u : Nat → Nat) (T : Nat) (ra : Nat → Nat) (ga : SG) (σ : FS) (a1 : Int32) (Φ : FS → Prop) (sz : Nat) (hok : (wp_X0_noteBegin 39 σ a1 Φ)) : Met l yX0_noteBegin (uW yX0_noteBegin cX0_noteBegin 3 none) ({ frames := 0, cells := 0, slots := 0, locals := 0 }) (va_Pc [.ref (u 38), .int a1] (aS ra ga D (tyL cI cZ cJ) (cW o u cI cZ cJ T σ) sz)) (yQv Φ D (cW o u cI cZ cJ T) (va_A (cW o u cI cZ cJ T σ) sz)) 0 0 (va_A (cW o u cI cZ cJ T σ) sz) := by
  refine aStart (lv := [(0, .ref (u 38)), (1, .int a1)]) (Qc := fun A => yQv Φ D (cW o u cI cZ cJ T) A) (by decide) (Nat.le_of_ble_eq_true rfl) rfl ?_
  intro p e s m args below meth c ls A H S hr hlocks hnm hl hK hP hD hS hA hB
  have hx := S.1
  have hb := S.2.1
  refine lv_aload_n hx hb dX0_noteBegin_0 rfl (lv_at hl 0 rfl) ?_
  refine xg (ci := 0) S inX0 rfl hK hP cW_39 13 (by decide) rfl kw_5_2 rfl dX0_noteBegin_1 ?_
  refine lv_iload_n hx hb dX0_noteBegin_4 rfl (lv_at hl 1 rfl) ?_
  have h_5 := hok.1
  have hok := hok.2
  refine xiald (t0 := 0) (v := (g σ 48 a1)) S hK hP cW_48 rfl h_5 rfl dX0_noteBegin_5 ?_
  refine lv_topi (fun x1 ex1 => ?_)
  have hok := hok x1 ex1
  refine lv_istore_n (lv' := [(2, .int x1), (0, .ref (u 38)), (1, .int a1)]) hx hb dX0_noteBegin_6 rfl hl (by decide) rfl (fun ls hl => ?_)
  refine lv_iload_n hx hb dX0_noteBegin_7 rfl (lv_at hl 0 rfl) ?_
  refine lv_if_lt (tgt := 47) hx hb dX0_noteBegin_8 (by decide) (fun c_8 => ?_) (fun c_8 => ?_)
  · have hok := hok.1 c_8
    exact yEndv S hr hlocks hP hD hS (Nat.le_of_ble_eq_true rfl) (Nat.le_of_ble_eq_true rfl) dX0_noteBegin_47 hok
  · have hok := hok.2 c_8
    refine lv_iload_n hx hb dX0_noteBegin_11 rfl (lv_at hl 0 rfl) ?_
    refine lv_sipush (v := 460) hx hb dX0_noteBegin_12 (by decide) ?_
    refine lv_icmp_ge (tgt := 47) hx hb dX0_noteBegin_15 (by decide) (fun c_15 => ?_) (fun c_15 => ?_)
    · have hok := hok.1 c_15
      exact yEndv S hr hlocks hP hD hS (Nat.le_of_ble_eq_true rfl) (Nat.le_of_ble_eq_true rfl) dX0_noteBegin_47 hok
    · have hok := hok.2 c_15
      refine lv_aload_n hx hb dX0_noteBegin_18 rfl (lv_at hl 1 rfl) ?_
      refine xg (ci := 0) S inX0 rfl hK hP cW_39 15 (by decide) rfl kw_5_6 rfl dX0_noteBegin_19 ?_
      refine lv_iload_n hx hb dX0_noteBegin_22 rfl (lv_at hl 2 rfl) ?_
      refine lv_aload_n hx hb dX0_noteBegin_23 rfl (lv_at hl 1 rfl) ?_
      refine xg (ci := 0) S inX0 rfl hK hP cW_39 11 (by decide) rfl kw_4_238 rfl dX0_noteBegin_24 ?_
      refine lv_iload_n hx hb dX0_noteBegin_27 rfl (lv_at hl 0 rfl) ?_
      have h_28 := hok.1
      have hok := hok.2
      refine xiald (t0 := 0) (v := (g σ 46 x1)) S hK hP cW_46 rfl h_28 rfl dX0_noteBegin_28 ?_
      have h_29 := hok.1
      have hok := hok.2
      refine yiast (t0 := 0) (cw := (cW o u cI cZ cJ T)) S hK hP hD hS cW_50 rfl h_29 dX0_noteBegin_29 cWa_50 (fun σ2 H locs eσ2 hP hD hS => ?_)
      have hok := hok σ2 eσ2
      refine lv_aload_n hx hb dX0_noteBegin_30 rfl (lv_at hl 1 rfl) ?_
      refine xg (ci := 0) S inX0 rfl hK hP cW_39 11 (by decide) rfl kw_4_238 rfl dX0_noteBegin_31 ?_
      refine lv_iload_n hx hb dX0_noteBegin_34 rfl (lv_at hl 0 rfl) ?_
      refine lv_iload_n hx hb dX0_noteBegin_35 rfl (lv_at hl 2 rfl) ?_
      have h_36 := hok.1
      have hok := hok.2
      refine yiast (t0 := 0) (cw := (cW o u cI cZ cJ T)) S hK hP hD hS cW_46 rfl h_36 dX0_noteBegin_36 cWa_46 (fun σ3 H locs eσ3 hP hD hS => ?_)
      have hok := hok σ3 eσ3
      refine lv_aload_n hx hb dX0_noteBegin_37 rfl (lv_at hl 1 rfl) ?_
      refine xg (ci := 0) S inX0 rfl hK hP cW_39 12 (by decide) rfl kw_5_0 rfl dX0_noteBegin_38 ?_
      refine lv_iload_n hx hb dX0_noteBegin_41 rfl (lv_at hl 0 rfl) ?_
      refine lv_dup2_11 hx hb dX0_noteBegin_42 rfl rfl ?_
      have h_43 := hok.1
      have hok := hok.2
      refine xiald (t0 := 0) (v := (g σ3 47 x1)) S hK hP cW_47 rfl h_43 rfl dX0_noteBegin_43 ?_
      refine lv_iconst (v := 1) hx hb dX0_noteBegin_44 (by decide) ?_
      refine xiadd (v := (g σ3 47 x1) + 1) S dX0_noteBegin_45 rfl ?_
      have h_46 := hok.1
      have hok := hok.2
      refine yiast (t0 := 0) (cw := (cW o u cI cZ cJ T)) S hK hP hD hS cW_47 rfl h_46 dX0_noteBegin_46 cWa_47 (fun σ4 H locs eσ4 hP hD hS => ?_)
      have hok := hok σ4 eσ4
      exact yEndv S hr hlocks hP hD hS (Nat.le_of_ble_eq_true rfl) (Nat.le_of_ble_eq_true rfl) dX0_noteBegin_47 hok

set_option maxHeartbeats 8000000 in
set_option maxRecDepth 100000 in
theorem v_X0_putNamed_39 (l : Launch) (D : va_G) (cI cZ cJ : ClassId) (o : Nat) (u : Nat → Nat) (T : Nat) (ra : Nat → Nat) (ga : SG) (σ : FS) (a1 : Int32) (a2 : Int32) (a3 : Int32) (Φ : FS → Prop) (sz : Nat) (hok : (wp_X0_putNamed 39 σ a1 a2 a3 Φ)) : Met l yX0_putNamed (uW yX0_putNamed cX0_putNamed 4 none) ({ frames := 1, cells := 0, slots := 0, locals := 25 }) (va_Pc [.ref (u 38), .int a1, .int a2, .int a3] (aS ra ga D (tyL cI cZ cJ) (cW o u cI cZ cJ T σ) sz)) (yQv Φ D (cW o u cI cZ cJ T) (va_A (cW o u cI cZ cJ T σ) sz)) 0 0 (va_A (cW o u cI cZ cJ T σ) sz) := by
  refine aStart (lv := [(0, .ref (u 38)), (1, .int a1), (2, .int a2), (3, .int a3)]) (Qc := fun A => yQv Φ D (cW o u cI cZ cJ T) A) (by decide) (Nat.le_of_ble_eq_true rfl) rfl ?_
  intro p e s m args below meth c ls A H S hr hlocks hnm hl hK hP hD hS hA hB
  have hx := S.1
  have hb := S.2.1
  refine lv_aload_n hx hb dX0_putNamed_0 rfl (lv_at hl 0 rfl) ?_
  refine lv_iload_n hx hb dX0_putNamed_1 rfl (lv_at hl 1 rfl) ?_
  refine lv_iload_n hx hb dX0_putNamed_2 rfl (lv_at hl 2 rfl) ?_
  refine lv_aload_n hx hb dX0_putNamed_3 rfl (lv_at hl 0 rfl) ?_
  refine xg (ci := 0) S inX0 rfl hK hP cW_39 2 (by decide) rfl kw_4_217 rfl dX0_putNamed_4 ?_
  refine xg (ci := 4) S inX4 rfl hK hP cW_20 4 (by decide) rfl kw_4_96 rfl dX0_putNamed_7 ?_
  refine lv_iload_n hx hb dX0_putNamed_10 rfl (lv_at hl 3 rfl) ?_
  have h_11 := hok.1
  have hok := hok.2
  refine xiald (t0 := 0) (v := (g σ 23 a3)) S hK hP cW_23 rfl h_11 rfl dX0_putNamed_11 ?_
  refine lv_aload_n hx hb dX0_putNamed_12 rfl (lv_at hl 0 rfl) ?_
  refine xg (ci := 0) S inX0 rfl hK hP cW_39 2 (by decide) rfl kw_4_217 rfl dX0_putNamed_13 ?_
  refine xg (ci := 4) S inX4 rfl hK hP cW_20 6 (by decide) rfl kw_4_103 rfl dX0_putNamed_16 ?_
  refine lv_iload_n hx hb dX0_putNamed_19 rfl (lv_at hl 3 rfl) ?_
  have h_20 := hok.1
  have hok := hok.2
  refine xiald (t0 := 0) (v := (g σ 25 a3)) S hK hP cW_25 rfl h_20 rfl dX0_putNamed_20 ?_
  refine lv_iload_n hx hb dX0_putNamed_21 rfl (lv_at hl 3 rfl) ?_
  refine yVv (As := [.int a1, .int a2, .int (g σ 23 a3), .int (g σ 25 a3), .int a3]) (cw := (cW o u cI cZ cJ T)) (ci := 0) S (v_X0_put_39 l D cI cZ cJ o u T ra ga σ a1 a2 (g σ 23 a3) (g σ 25 a3) a3 _ H.size hok) mi_X0_put kw_2_90 rfl rfl ⟨Nat.le_of_ble_eq_true rfl, Nat.le_of_ble_eq_true rfl⟩ hP hD hK hS hA hB cW_39 rfl rfl hl.1 (Nat.le_of_ble_eq_true rfl) ⟨Nat.le_of_ble_eq_true rfl, Nat.le_of_ble_eq_true rfl⟩ dX0_putNamed_22 (fun σ1 H locs hok hz hP hD hS => ?_)
  exact yEndv S hr hlocks hP hD hS (Nat.le_of_ble_eq_true rfl) (Nat.le_of_ble_eq_true rfl) dX0_putNamed_25 hok

set_option maxHeartbeats 8000000 in
set_option maxRecDepth 100000 in
theorem v_X0_writeIf_39 (l : Launch) (D : va_G) (cI cZ cJ : ClassId) (o : Nat) (u : Nat → Nat) (T : Nat) (ra : Nat → Nat) (ga : SG) (σ : FS) (a1 : Int32) (Φ : FS → Prop) (sz : Nat) (hok : (wp_X0_writeIf 39 σ a1 Φ)) : Met l yX0_writeIf (uW yX0_writeIf cX0_writeIf 5 none) ({ frames := 1, cells := 0, slots := 0, locals := 25 }) (va_Pc [.ref (u 38), .int a1] (aS ra ga D (tyL cI cZ cJ) (cW o u cI cZ cJ T σ) sz)) (yQv Φ D (cW o u cI cZ cJ T) (va_A (cW o u cI cZ cJ T σ) sz)) 0 0 (va_A (cW o u cI cZ cJ T σ) sz) := by
  refine aStart (lv := [(0, .ref (u 38)), (1, .int a1)]) (Qc := fun A => yQv Φ D (cW o u cI cZ cJ T) A) (by decide) (Nat.le_of_ble_eq_true rfl) rfl ?_
  intro p e s m args below meth c ls A H S hr hlocks hnm hl hK hP hD hS hA hB
  have hx := S.1
  have hb := S.2.1
  refine lv_aload_n hx hb dX0_writeIf_0 rfl (lv_at hl 0 rfl) ?_
  refine xg (ci := 0) S inX0 rfl hK hP cW_39 5 (by decide) rfl kw_4_222 rfl dX0_writeIf_1 ?_
  refine lv_aload_n hx hb dX0_writeIf_4 rfl (lv_at hl 0 rfl) ?_
  refine xg (ci := 0) S inX0 rfl hK hP cW_39 2 (by decide) rfl kw_4_217 rfl dX0_writeIf_5 ?_
  refine xg (ci := 4) S inX4 rfl hK hP cW_20 2 (by decide) rfl kw_4_90 rfl dX0_writeIf_8 ?_
  refine lv_iload_n hx hb dX0_writeIf_11 rfl (lv_at hl 1 rfl) ?_
  have h_12 := hok.1
  have hok := hok.2
  refine xiald (t0 := 0) (v := (g σ 21 a1)) S hK hP cW_21 rfl h_12 rfl dX0_writeIf_12 ?_
  have h_13 := hok.1
  have hok := hok.2
  refine xiald (t0 := 0) (v := (g σ 40 (g σ 21 a1))) S hK hP cW_40 rfl h_13 rfl dX0_writeIf_13 ?_
  refine lv_topi (fun x1 ex1 => ?_)
  have hok := hok x1 ex1
  refine lv_istore_n (lv' := [(2, .int x1), (0, .ref (u 38)), (1, .int a1)]) hx hb dX0_writeIf_14 rfl hl (by decide) rfl (fun ls hl => ?_)
  refine lv_aload_n hx hb dX0_writeIf_15 rfl (lv_at hl 1 rfl) ?_
  refine xg (ci := 0) S inX0 rfl hK hP cW_39 13 (by decide) rfl kw_5_2 rfl dX0_writeIf_16 ?_
  refine lv_aload_n hx hb dX0_writeIf_19 rfl (lv_at hl 1 rfl) ?_
  refine xg (ci := 0) S inX0 rfl hK hP cW_39 1 (by decide) rfl kw_4_216 rfl dX0_writeIf_20 ?_
  refine xg (ci := 5) S inX5 rfl hK hP cW_13 4 (by decide) rfl kw_4_59 rfl dX0_writeIf_23 ?_
  refine lv_iload_n hx hb dX0_writeIf_26 rfl (lv_at hl 2 rfl) ?_
  have h_27 := hok.1
  have hok := hok.2
  refine xiald (t0 := 0) (v := (g σ 17 a1)) S hK hP cW_17 rfl h_27 rfl dX0_writeIf_27 ?_
  have h_28 := hok.1
  have hok := hok.2
  refine xiald (t0 := 0) (v := (g σ 48 (g σ 17 a1))) S hK hP cW_48 rfl h_28 rfl dX0_writeIf_28 ?_
  refine lv_aload_n hx hb dX0_writeIf_29 rfl (lv_at hl 1 rfl) ?_
  refine xg (ci := 0) S inX0 rfl hK hP cW_39 14 (by decide) rfl kw_5_4 rfl dX0_writeIf_30 ?_
  refine lv_aload_n hx hb dX0_writeIf_33 rfl (lv_at hl 1 rfl) ?_
  refine xg (ci := 0) S inX0 rfl hK hP cW_39 1 (by decide) rfl kw_4_216 rfl dX0_writeIf_34 ?_
  refine xg (ci := 5) S inX5 rfl hK hP cW_13 4 (by decide) rfl kw_4_59 rfl dX0_writeIf_37 ?_
  refine lv_iload_n hx hb dX0_writeIf_40 rfl (lv_at hl 2 rfl) ?_
  have h_41 := hok.1
  have hok := hok.2
  refine xiald (t0 := 0) (v := (g σ 17 a1)) S hK hP cW_17 rfl h_41 rfl dX0_writeIf_41 ?_
  have h_42 := hok.1
  have hok := hok.2
  refine xiald (t0 := 0) (v := (g σ 49 (g σ 17 a1))) S hK hP cW_49 rfl h_42 rfl dX0_writeIf_42 ?_
  refine xiadd (v := (g σ 48 (g σ 17 a1)) + (g σ 49 (g σ 17 a1))) S dX0_writeIf_43 rfl ?_
  refine lv_topi (fun x2 ex2 => ?_)
  have hok := hok x2 ex2
  refine lv_istore_n (lv' := [(3, .int x2), (2, .int x1), (0, .ref (u 38)), (1, .int a1)]) hx hb dX0_writeIf_44 rfl hl (by decide) rfl (fun ls hl => ?_)
  refine lv_aload_n hx hb dX0_writeIf_45 rfl (lv_at hl 2 rfl) ?_
  refine xg (ci := 0) S inX0 rfl hK hP cW_39 1 (by decide) rfl kw_4_216 rfl dX0_writeIf_46 ?_
  refine xg (ci := 5) S inX5 rfl hK hP cW_13 2 (by decide) rfl kw_4_48 rfl dX0_writeIf_49 ?_
  refine lv_iload_n hx hb dX0_writeIf_52 rfl (lv_at hl 3 rfl) ?_
  have h_53 := hok.1
  have hok := hok.2
  refine xiald (t0 := 0) (v := (g σ 15 a1)) S hK hP cW_15 rfl h_53 rfl dX0_writeIf_53 ?_
  refine lv_iconst (v := (-1)) hx hb dX0_writeIf_54 (by decide) ?_
  refine lv_icmp_eq (tgt := 62) hx hb dX0_writeIf_55 (by decide) (fun c_55 => ?_) (fun c_55 => ?_)
  · have hok := hok.1 c_55
    refine lv_iconst (v := 0) hx hb dX0_writeIf_62 (by decide) ?_
    refine lv_istore (lv' := [(4, .int 0), (3, .int x2), (2, .int x1), (0, .ref (u 38)), (1, .int a1)]) hx hb dX0_writeIf_63 hl (by decide) rfl (fun ls hl => ?_)
    refine lv_aload_n hx hb dX0_writeIf_65 rfl (lv_at hl 3 rfl) ?_
    refine lv_aload_n hx hb dX0_writeIf_66 rfl (lv_at hl 3 rfl) ?_
    refine xg (ci := 0) S inX0 rfl hK hP cW_39 13 (by decide) rfl kw_5_2 rfl dX0_writeIf_67 ?_
    refine lv_aload_n hx hb dX0_writeIf_70 rfl (lv_at hl 3 rfl) ?_
    refine xg (ci := 0) S inX0 rfl hK hP cW_39 1 (by decide) rfl kw_4_216 rfl dX0_writeIf_71 ?_
    refine xg (ci := 5) S inX5 rfl hK hP cW_13 4 (by decide) rfl kw_4_59 rfl dX0_writeIf_74 ?_
    refine lv_iload_n hx hb dX0_writeIf_77 rfl (lv_at hl 4 rfl) ?_
    have h_78 := hok.1
    have hok := hok.2
    refine xiald (t0 := 0) (v := (g σ 17 a1)) S hK hP cW_17 rfl h_78 rfl dX0_writeIf_78 ?_
    have h_79 := hok.1
    have hok := hok.2
    refine xiald (t0 := 0) (v := (g σ 48 (g σ 17 a1))) S hK hP cW_48 rfl h_79 rfl dX0_writeIf_79 ?_
    refine lv_iconst (v := 1) hx hb dX0_writeIf_80 (by decide) ?_
    refine xisub (v := (g σ 48 (g σ 17 a1)) - 1) S dX0_writeIf_81 rfl ?_
    refine lv_bipush (v := 21) hx hb dX0_writeIf_82 (by decide) ?_
    refine lv_iload_n hx hb dX0_writeIf_84 rfl (lv_at hl 1 rfl) ?_
    refine lv_iload hx hb dX0_writeIf_85 (lv_at hl 0 rfl) ?_
    refine lv_if_eq (tgt := 94) hx hb dX0_writeIf_87 (by decide) (fun _ => ?_) (fun c => absurd c (by decide))
    refine lv_iconst (v := 0) hx hb dX0_writeIf_94 (by decide) ?_
    refine xiadd (v := x2 + 0) S dX0_writeIf_95 rfl ?_
    refine lv_iload_n hx hb dX0_writeIf_96 rfl (lv_at hl 2 rfl) ?_
    refine xisub (v := (x2 + 0) - x1) S dX0_writeIf_97 rfl ?_
    refine lv_iconst (v := 0) hx hb dX0_writeIf_98 (by decide) ?_
    refine lv_iload_n hx hb dX0_writeIf_99 rfl (lv_at hl 4 rfl) ?_
    refine yVv (As := [.int ((g σ 48 (g σ 17 a1)) - 1), .int 21, .int ((x2 + 0) - x1), .int 0, .int a1]) (cw := (cW o u cI cZ cJ T)) (ci := 0) S (v_X0_put_39 l D cI cZ cJ o u T ra ga σ ((g σ 48 (g σ 17 a1)) - 1) 21 ((x2 + 0) - x1) 0 a1 _ H.size hok) mi_X0_put kw_2_90 rfl rfl ⟨Nat.le_of_ble_eq_true rfl, Nat.le_of_ble_eq_true rfl⟩ hP hD hK hS hA hB cW_39 rfl rfl hl.1 (Nat.le_of_ble_eq_true rfl) ⟨Nat.le_of_ble_eq_true rfl, Nat.le_of_ble_eq_true rfl⟩ dX0_writeIf_100 (fun σ3 H locs hok hz hP hD hS => ?_)
    refine lv_iload hx hb dX0_writeIf_103 (lv_at hl 0 rfl) ?_
    refine lv_if_eq (tgt := 132) hx hb dX0_writeIf_105 (by decide) (fun _ => ?_) (fun c => absurd c (by decide))
    exact yEndv S hr hlocks hP hD hS (Nat.le_of_ble_eq_true rfl) (Nat.le_of_ble_eq_true rfl) dX0_writeIf_132 hok
  · have hok := hok.2 c_55
    refine lv_iconst (v := 1) hx hb dX0_writeIf_58 (by decide) ?_
    refine lv_goto (tgt := 63) hx hb dX0_writeIf_59 (by decide) ?_
    refine lv_istore (lv' := [(4, .int 1), (3, .int x2), (2, .int x1), (0, .ref (u 38)), (1, .int a1)]) hx hb dX0_writeIf_63 hl (by decide) rfl (fun ls hl => ?_)
    refine lv_aload_n hx hb dX0_writeIf_65 rfl (lv_at hl 3 rfl) ?_
    refine lv_aload_n hx hb dX0_writeIf_66 rfl (lv_at hl 3 rfl) ?_
    refine xg (ci := 0) S inX0 rfl hK hP cW_39 13 (by decide) rfl kw_5_2 rfl dX0_writeIf_67 ?_
    refine lv_aload_n hx hb dX0_writeIf_70 rfl (lv_at hl 3 rfl) ?_
    refine xg (ci := 0) S inX0 rfl hK hP cW_39 1 (by decide) rfl kw_4_216 rfl dX0_writeIf_71 ?_
    refine xg (ci := 5) S inX5 rfl hK hP cW_13 4 (by decide) rfl kw_4_59 rfl dX0_writeIf_74 ?_
    refine lv_iload_n hx hb dX0_writeIf_77 rfl (lv_at hl 4 rfl) ?_
    have h_78 := hok.1
    have hok := hok.2
    refine xiald (t0 := 0) (v := (g σ 17 a1)) S hK hP cW_17 rfl h_78 rfl dX0_writeIf_78 ?_
    have h_79 := hok.1
    have hok := hok.2
    refine xiald (t0 := 0) (v := (g σ 48 (g σ 17 a1))) S hK hP cW_48 rfl h_79 rfl dX0_writeIf_79 ?_
    refine lv_iconst (v := 1) hx hb dX0_writeIf_80 (by decide) ?_
    refine xisub (v := (g σ 48 (g σ 17 a1)) - 1) S dX0_writeIf_81 rfl ?_
    refine lv_bipush (v := 21) hx hb dX0_writeIf_82 (by decide) ?_
    refine lv_iload_n hx hb dX0_writeIf_84 rfl (lv_at hl 1 rfl) ?_
    refine lv_iload hx hb dX0_writeIf_85 (lv_at hl 0 rfl) ?_
    refine lv_if_eq (tgt := 94) hx hb dX0_writeIf_87 (by decide) (fun c => absurd c (by decide)) (fun _ => ?_)
    refine lv_iconst (v := 1) hx hb dX0_writeIf_90 (by decide) ?_
    refine lv_goto (tgt := 95) hx hb dX0_writeIf_91 (by decide) ?_
    refine xiadd (v := x2 + 1) S dX0_writeIf_95 rfl ?_
    refine lv_iload_n hx hb dX0_writeIf_96 rfl (lv_at hl 2 rfl) ?_
    refine xisub (v := (x2 + 1) - x1) S dX0_writeIf_97 rfl ?_
    refine lv_iconst (v := 0) hx hb dX0_writeIf_98 (by decide) ?_
    refine lv_iload_n hx hb dX0_writeIf_99 rfl (lv_at hl 4 rfl) ?_
    refine yVv (As := [.int ((g σ 48 (g σ 17 a1)) - 1), .int 21, .int ((x2 + 1) - x1), .int 0, .int a1]) (cw := (cW o u cI cZ cJ T)) (ci := 0) S (v_X0_put_39 l D cI cZ cJ o u T ra ga σ ((g σ 48 (g σ 17 a1)) - 1) 21 ((x2 + 1) - x1) 0 a1 _ H.size hok) mi_X0_put kw_2_90 rfl rfl ⟨Nat.le_of_ble_eq_true rfl, Nat.le_of_ble_eq_true rfl⟩ hP hD hK hS hA hB cW_39 rfl rfl hl.1 (Nat.le_of_ble_eq_true rfl) ⟨Nat.le_of_ble_eq_true rfl, Nat.le_of_ble_eq_true rfl⟩ dX0_writeIf_100 (fun σ4 H locs hok hz hP hD hS => ?_)
    refine lv_iload hx hb dX0_writeIf_103 (lv_at hl 0 rfl) ?_
    refine lv_if_eq (tgt := 132) hx hb dX0_writeIf_105 (by decide) (fun c => absurd c (by decide)) (fun _ => ?_)
    refine lv_aload_n hx hb dX0_writeIf_108 rfl (lv_at hl 3 rfl) ?_
    refine lv_iload_n hx hb dX0_writeIf_109 rfl (lv_at hl 1 rfl) ?_
    refine lv_bipush (v := 22) hx hb dX0_writeIf_110 (by decide) ?_
    refine lv_aload_n hx hb dX0_writeIf_112 rfl (lv_at hl 3 rfl) ?_
    refine xg (ci := 0) S inX0 rfl hK hP cW_39 13 (by decide) rfl kw_5_2 rfl dX0_writeIf_113 ?_
    refine lv_iload_n hx hb dX0_writeIf_116 rfl (lv_at hl 4 rfl) ?_
    have h_117 := hok.1
    have hok := hok.2
    refine xiald (t0 := 0) (v := (g σ4 48 a1)) S hK hP cW_48 rfl h_117 rfl dX0_writeIf_117 ?_
    refine lv_aload_n hx hb dX0_writeIf_118 rfl (lv_at hl 3 rfl) ?_
    refine xg (ci := 0) S inX0 rfl hK hP cW_39 14 (by decide) rfl kw_5_4 rfl dX0_writeIf_119 ?_
    refine lv_iload_n hx hb dX0_writeIf_122 rfl (lv_at hl 4 rfl) ?_
    have h_123 := hok.1
    have hok := hok.2
    refine xiald (t0 := 0) (v := (g σ4 49 a1)) S hK hP cW_49 rfl h_123 rfl dX0_writeIf_123 ?_
    refine xiadd (v := (g σ4 48 a1) + (g σ4 49 a1)) S dX0_writeIf_124 rfl ?_
    refine lv_iload_n hx hb dX0_writeIf_125 rfl (lv_at hl 2 rfl) ?_
    refine xisub (v := ((g σ4 48 a1) + (g σ4 49 a1)) - x1) S dX0_writeIf_126 rfl ?_
    refine lv_iconst (v := 0) hx hb dX0_writeIf_127 (by decide) ?_
    refine lv_iload_n hx hb dX0_writeIf_128 rfl (lv_at hl 4 rfl) ?_
    refine yVv (As := [.int x2, .int 22, .int (((g σ4 48 a1) + (g σ4 49 a1)) - x1), .int 0, .int a1]) (cw := (cW o u cI cZ cJ T)) (ci := 0) S (v_X0_put_39 l D cI cZ cJ o u T ra ga σ4 x2 22 (((g σ4 48 a1) + (g σ4 49 a1)) - x1) 0 a1 _ H.size hok) mi_X0_put kw_2_90 rfl rfl ⟨Nat.le_of_ble_eq_true rfl, Nat.le_of_ble_eq_true rfl⟩ hP hD hK hS hA hB cW_39 rfl rfl hl.1 (Nat.le_of_ble_eq_true rfl) ⟨Nat.le_of_ble_eq_true rfl, Nat.le_of_ble_eq_true rfl⟩ dX0_writeIf_129 (fun σ5 H locs hok hz hP hD hS => ?_)
    exact yEndv S hr hlocks hP hD hS (Nat.le_of_ble_eq_true rfl) (Nat.le_of_ble_eq_true rfl) dX0_writeIf_132 hok

set_option maxHeartbeats 8000000 in
set_option maxRecDepth 100000 in
theorem v_X0_writeLoop_39 (l : Launch) (D : va_G) (cI cZ cJ : ClassId) (o : Nat) (u : Nat → Nat) (T : Nat) (ra : Nat → Nat) (ga : SG) (σ : FS) (a1 : Int32) (a2 : Int32) (Φ : FS → Prop) (sz : Nat) (hok : (wp_X0_writeLoop 39 σ a1 a2 Φ)) : Met l yX0_writeLoop (uW yX0_writeLoop cX0_writeLoop 4 none) ({ frames := 1, cells := 0, slots := 0, locals := 25 }) (va_Pc [.ref (u 38), .int a1, .int a2] (aS ra ga D (tyL cI cZ cJ) (cW o u cI cZ cJ T σ) sz)) (yQv Φ D (cW o u cI cZ cJ T) (va_A (cW o u cI cZ cJ T σ) sz)) 0 0 (va_A (cW o u cI cZ cJ T σ) sz) := by
  refine aStart (lv := [(0, .ref (u 38)), (1, .int a1), (2, .int a2)]) (Qc := fun A => yQv Φ D (cW o u cI cZ cJ T) A) (by decide) (Nat.le_of_ble_eq_true rfl) rfl ?_
  intro p e s m args below meth c ls A H S hr hlocks hnm hl hK hP hD hS hA hB
  have hx := S.1
  have hb := S.2.1
  refine lv_aload_n hx hb dX0_writeLoop_0 rfl (lv_at hl 0 rfl) ?_
  refine xg (ci := 0) S inX0 rfl hK hP cW_39 5 (by decide) rfl kw_4_222 rfl dX0_writeLoop_1 ?_
  refine lv_aload_n hx hb dX0_writeLoop_4 rfl (lv_at hl 0 rfl) ?_
  refine xg (ci := 0) S inX0 rfl hK hP cW_39 2 (by decide) rfl kw_4_217 rfl dX0_writeLoop_5 ?_
  refine xg (ci := 4) S inX4 rfl hK hP cW_20 2 (by decide) rfl kw_4_90 rfl dX0_writeLoop_8 ?_
  refine lv_iload_n hx hb dX0_writeLoop_11 rfl (lv_at hl 1 rfl) ?_
  have h_12 := hok.1
  have hok := hok.2
  refine xiald (t0 := 0) (v := (g σ 21 a1)) S hK hP cW_21 rfl h_12 rfl dX0_writeLoop_12 ?_
  have h_13 := hok.1
  have hok := hok.2
  refine xiald (t0 := 0) (v := (g σ 40 (g σ 21 a1))) S hK hP cW_40 rfl h_13 rfl dX0_writeLoop_13 ?_
  refine lv_topi (fun x1 ex1 => ?_)
  have hok := hok x1 ex1
  refine lv_istore_n (lv' := [(3, .int x1), (0, .ref (u 38)), (1, .int a1), (2, .int a2)]) hx hb dX0_writeLoop_14 rfl hl (by decide) rfl (fun ls hl => ?_)
  refine lv_aload_n hx hb dX0_writeLoop_15 rfl (lv_at hl 1 rfl) ?_
  refine lv_aload_n hx hb dX0_writeLoop_16 rfl (lv_at hl 1 rfl) ?_
  refine xg (ci := 0) S inX0 rfl hK hP cW_39 13 (by decide) rfl kw_5_2 rfl dX0_writeLoop_17 ?_
  refine lv_iload_n hx hb dX0_writeLoop_20 rfl (lv_at hl 2 rfl) ?_
  have h_21 := hok.1
  have hok := hok.2
  refine xiald (t0 := 0) (v := (g σ 48 a1)) S hK hP cW_48 rfl h_21 rfl dX0_writeLoop_21 ?_
  refine lv_bipush (v := 23) hx hb dX0_writeLoop_22 (by decide) ?_
  refine lv_aload_n hx hb dX0_writeLoop_24 rfl (lv_at hl 1 rfl) ?_
  refine xg (ci := 0) S inX0 rfl hK hP cW_39 1 (by decide) rfl kw_4_216 rfl dX0_writeLoop_25 ?_
  refine xg (ci := 5) S inX5 rfl hK hP cW_13 2 (by decide) rfl kw_4_48 rfl dX0_writeLoop_28 ?_
  refine lv_iload_n hx hb dX0_writeLoop_31 rfl (lv_at hl 2 rfl) ?_
  have h_32 := hok.1
  have hok := hok.2
  refine xiald (t0 := 0) (v := (g σ 15 a1)) S hK hP cW_15 rfl h_32 rfl dX0_writeLoop_32 ?_
  refine lv_iconst (v := 0) hx hb dX0_writeLoop_33 (by decide) ?_
  refine lv_iload_n hx hb dX0_writeLoop_34 rfl (lv_at hl 2 rfl) ?_
  refine yVv (As := [.int (g σ 48 a1), .int 23, .int (g σ 15 a1), .int 0, .int a1]) (cw := (cW o u cI cZ cJ T)) (ci := 0) S (v_X0_put_39 l D cI cZ cJ o u T ra ga σ (g σ 48 a1) 23 (g σ 15 a1) 0 a1 _ H.size hok) mi_X0_put kw_2_90 rfl rfl ⟨Nat.le_of_ble_eq_true rfl, Nat.le_of_ble_eq_true rfl⟩ hP hD hK hS hA hB cW_39 rfl rfl hl.1 (Nat.le_of_ble_eq_true rfl) ⟨Nat.le_of_ble_eq_true rfl, Nat.le_of_ble_eq_true rfl⟩ dX0_writeLoop_35 (fun σ2 H locs hok hz hP hD hS => ?_)
  refine lv_aload_n hx hb dX0_writeLoop_38 rfl (lv_at hl 1 rfl) ?_
  refine lv_aload_n hx hb dX0_writeLoop_39 rfl (lv_at hl 1 rfl) ?_
  refine xg (ci := 0) S inX0 rfl hK hP cW_39 13 (by decide) rfl kw_5_2 rfl dX0_writeLoop_40 ?_
  refine lv_aload_n hx hb dX0_writeLoop_43 rfl (lv_at hl 1 rfl) ?_
  refine xg (ci := 0) S inX0 rfl hK hP cW_39 1 (by decide) rfl kw_4_216 rfl dX0_writeLoop_44 ?_
  refine xg (ci := 5) S inX5 rfl hK hP cW_13 4 (by decide) rfl kw_4_59 rfl dX0_writeLoop_47 ?_
  refine lv_iload_n hx hb dX0_writeLoop_50 rfl (lv_at hl 2 rfl) ?_
  have h_51 := hok.1
  have hok := hok.2
  refine xiald (t0 := 0) (v := (g σ2 17 a1)) S hK hP cW_17 rfl h_51 rfl dX0_writeLoop_51 ?_
  have h_52 := hok.1
  have hok := hok.2
  refine xiald (t0 := 0) (v := (g σ2 48 (g σ2 17 a1))) S hK hP cW_48 rfl h_52 rfl dX0_writeLoop_52 ?_
  refine lv_iconst (v := 1) hx hb dX0_writeLoop_53 (by decide) ?_
  refine xisub (v := (g σ2 48 (g σ2 17 a1)) - 1) S dX0_writeLoop_54 rfl ?_
  refine lv_bipush (v := 21) hx hb dX0_writeLoop_55 (by decide) ?_
  refine lv_iload_n hx hb dX0_writeLoop_57 rfl (lv_at hl 3 rfl) ?_
  refine lv_iload_n hx hb dX0_writeLoop_58 rfl (lv_at hl 0 rfl) ?_
  refine xisub (v := a2 - x1) S dX0_writeLoop_59 rfl ?_
  refine lv_iconst (v := 0) hx hb dX0_writeLoop_60 (by decide) ?_
  refine lv_iload_n hx hb dX0_writeLoop_61 rfl (lv_at hl 2 rfl) ?_
  refine yVv (As := [.int ((g σ2 48 (g σ2 17 a1)) - 1), .int 21, .int (a2 - x1), .int 0, .int a1]) (cw := (cW o u cI cZ cJ T)) (ci := 0) S (v_X0_put_39 l D cI cZ cJ o u T ra ga σ2 ((g σ2 48 (g σ2 17 a1)) - 1) 21 (a2 - x1) 0 a1 _ H.size hok) mi_X0_put kw_2_90 rfl rfl ⟨Nat.le_of_ble_eq_true rfl, Nat.le_of_ble_eq_true rfl⟩ hP hD hK hS hA hB cW_39 rfl rfl hl.1 (Nat.le_of_ble_eq_true rfl) ⟨Nat.le_of_ble_eq_true rfl, Nat.le_of_ble_eq_true rfl⟩ dX0_writeLoop_62 (fun σ3 H locs hok hz hP hD hS => ?_)
  refine lv_aload_n hx hb dX0_writeLoop_65 rfl (lv_at hl 1 rfl) ?_
  refine lv_iload_n hx hb dX0_writeLoop_66 rfl (lv_at hl 3 rfl) ?_
  refine lv_iconst (v := 1) hx hb dX0_writeLoop_67 (by decide) ?_
  refine xisub (v := a2 - 1) S dX0_writeLoop_68 rfl ?_
  refine lv_bipush (v := 22) hx hb dX0_writeLoop_69 (by decide) ?_
  refine lv_aload_n hx hb dX0_writeLoop_71 rfl (lv_at hl 1 rfl) ?_
  refine xg (ci := 0) S inX0 rfl hK hP cW_39 13 (by decide) rfl kw_5_2 rfl dX0_writeLoop_72 ?_
  refine lv_aload_n hx hb dX0_writeLoop_75 rfl (lv_at hl 1 rfl) ?_
  refine xg (ci := 0) S inX0 rfl hK hP cW_39 1 (by decide) rfl kw_4_216 rfl dX0_writeLoop_76 ?_
  refine xg (ci := 5) S inX5 rfl hK hP cW_13 3 (by decide) rfl kw_4_54 rfl dX0_writeLoop_79 ?_
  refine lv_iload_n hx hb dX0_writeLoop_82 rfl (lv_at hl 2 rfl) ?_
  have h_83 := hok.1
  have hok := hok.2
  refine xiald (t0 := 0) (v := (g σ3 16 a1)) S hK hP cW_16 rfl h_83 rfl dX0_writeLoop_83 ?_
  have h_84 := hok.1
  have hok := hok.2
  refine xiald (t0 := 0) (v := (g σ3 48 (g σ3 16 a1))) S hK hP cW_48 rfl h_84 rfl dX0_writeLoop_84 ?_
  refine lv_iload_n hx hb dX0_writeLoop_85 rfl (lv_at hl 0 rfl) ?_
  refine xisub (v := (g σ3 48 (g σ3 16 a1)) - x1) S dX0_writeLoop_86 rfl ?_
  refine lv_iconst (v := 0) hx hb dX0_writeLoop_87 (by decide) ?_
  refine lv_iload_n hx hb dX0_writeLoop_88 rfl (lv_at hl 2 rfl) ?_
  refine yVv (As := [.int (a2 - 1), .int 22, .int ((g σ3 48 (g σ3 16 a1)) - x1), .int 0, .int a1]) (cw := (cW o u cI cZ cJ T)) (ci := 0) S (v_X0_put_39 l D cI cZ cJ o u T ra ga σ3 (a2 - 1) 22 ((g σ3 48 (g σ3 16 a1)) - x1) 0 a1 _ H.size hok) mi_X0_put kw_2_90 rfl rfl ⟨Nat.le_of_ble_eq_true rfl, Nat.le_of_ble_eq_true rfl⟩ hP hD hK hS hA hB cW_39 rfl rfl hl.1 (Nat.le_of_ble_eq_true rfl) ⟨Nat.le_of_ble_eq_true rfl, Nat.le_of_ble_eq_true rfl⟩ dX0_writeLoop_89 (fun σ4 H locs hok hz hP hD hS => ?_)
  refine lv_aload_n hx hb dX0_writeLoop_92 rfl (lv_at hl 1 rfl) ?_
  refine lv_iload_n hx hb dX0_writeLoop_93 rfl (lv_at hl 3 rfl) ?_
  refine lv_bipush (v := 24) hx hb dX0_writeLoop_94 (by decide) ?_
  refine lv_iconst (v := 0) hx hb dX0_writeLoop_96 (by decide) ?_
  refine lv_iconst (v := 0) hx hb dX0_writeLoop_97 (by decide) ?_
  refine lv_iload_n hx hb dX0_writeLoop_98 rfl (lv_at hl 2 rfl) ?_
  refine yVv (As := [.int a2, .int 24, .int 0, .int 0, .int a1]) (cw := (cW o u cI cZ cJ T)) (ci := 0) S (v_X0_put_39 l D cI cZ cJ o u T ra ga σ4 a2 24 0 0 a1 _ H.size hok) mi_X0_put kw_2_90 rfl rfl ⟨Nat.le_of_ble_eq_true rfl, Nat.le_of_ble_eq_true rfl⟩ hP hD hK hS hA hB cW_39 rfl rfl hl.1 (Nat.le_of_ble_eq_true rfl) ⟨Nat.le_of_ble_eq_true rfl, Nat.le_of_ble_eq_true rfl⟩ dX0_writeLoop_99 (fun σ5 H locs hok hz hP hD hS => ?_)
  exact yEndv S hr hlocks hP hD hS (Nat.le_of_ble_eq_true rfl) (Nat.le_of_ble_eq_true rfl) dX0_writeLoop_102 hok

set_option maxHeartbeats 8000000 in
set_option maxRecDepth 100000 in
theorem v_X0_writeStatement_39 (l : Launch) (D : va_G) (cI cZ cJ : ClassId) (o : Nat) (u : Nat → Nat) (T : Nat) (ra : Nat → Nat) (ga : SG) (σ : FS) (a1 : Int32) (a2 : Int32) (a3 : Int32) (Φ : FS → Prop) (sz : Nat) (hok : (wp_X0_writeStatement 39 σ a1 a2 a3 Φ)) : Met l yX0_writeStatement (uW yX0_writeStatement cX0_writeStatement 4 none) ({ frames := 2, cells := 0, slots := 0, locals := 49 }) (va_Pc [.ref (u 38), .int a1, .int a2, .int a3] (aS ra ga D (tyL cI cZ cJ) (cW o u cI cZ cJ T σ) sz)) (yQv Φ D (cW o u cI cZ cJ T) (va_A (cW o u cI cZ cJ T σ) sz)) 0 0 (va_A (cW o u cI cZ cJ T σ) sz) := by
  refine aStart (lv := [(0, .ref (u 38)), (1, .int a1), (2, .int a2), (3, .int a3)]) (Qc := fun A => yQv Φ D (cW o u cI cZ cJ T) A) (by decide) (Nat.le_of_ble_eq_true rfl) rfl ?_
  intro p e s m args below meth c ls A H S hr hlocks hnm hl hK hP hD hS hA hB
  have hx := S.1
  have hb := S.2.1
  refine lv_iload_n hx hb dX0_writeStatement_0 rfl (lv_at hl 2 rfl) ?_
  by_cases k_1_0 : a2 = 13
  · have hok := hok.1 k_1_0
    rw [k_1_0]
    refine lv_tableIn (off := 51) (tgt := 52) hx hb dX0_writeStatement_1 (by decide) (by decide) (by decide) (by decide) ?_
    refine lv_aload_n hx hb dX0_writeStatement_52 rfl (lv_at hl 0 rfl) ?_
    refine lv_iload_n hx hb dX0_writeStatement_53 rfl (lv_at hl 3 rfl) ?_
    refine lv_bipush (v := 19) hx hb dX0_writeStatement_54 (by decide) ?_
    refine lv_iload_n hx hb dX0_writeStatement_56 rfl (lv_at hl 1 rfl) ?_
    refine yVv (As := [.int a3, .int 19, .int a1]) (cw := (cW o u cI cZ cJ T)) (ci := 0) S (v_X0_putNamed_39 l D cI cZ cJ o u T ra ga σ a3 19 a1 _ H.size hok) mi_X0_putNamed kw_2_122 rfl rfl ⟨Nat.le_of_ble_eq_true rfl, Nat.le_of_ble_eq_true rfl⟩ hP hD hK hS hA hB cW_39 rfl rfl hl.1 (Nat.le_of_ble_eq_true rfl) ⟨Nat.le_of_ble_eq_true rfl, Nat.le_of_ble_eq_true rfl⟩ dX0_writeStatement_57 (fun σ1 H locs hok hz hP hD hS => ?_)
    refine lv_goto (tgt := 167) hx hb dX0_writeStatement_60 (by decide) ?_
    exact yEndv S hr hlocks hP hD hS (Nat.le_of_ble_eq_true rfl) (Nat.le_of_ble_eq_true rfl) dX0_writeStatement_167 hok
  · have hok := hok.2 k_1_0
    by_cases k_1_1 : a2 = 14
    · have hok := hok.1 k_1_1
      rw [k_1_1]
      refine lv_tableIn (off := 62) (tgt := 63) hx hb dX0_writeStatement_1 (by decide) (by decide) (by decide) (by decide) ?_
      refine lv_aload_n hx hb dX0_writeStatement_63 rfl (lv_at hl 0 rfl) ?_
      refine lv_iload_n hx hb dX0_writeStatement_64 rfl (lv_at hl 3 rfl) ?_
      refine lv_bipush (v := 20) hx hb dX0_writeStatement_65 (by decide) ?_
      refine lv_iload_n hx hb dX0_writeStatement_67 rfl (lv_at hl 1 rfl) ?_
      refine yVv (As := [.int a3, .int 20, .int a1]) (cw := (cW o u cI cZ cJ T)) (ci := 0) S (v_X0_putNamed_39 l D cI cZ cJ o u T ra ga σ a3 20 a1 _ H.size hok) mi_X0_putNamed kw_2_122 rfl rfl ⟨Nat.le_of_ble_eq_true rfl, Nat.le_of_ble_eq_true rfl⟩ hP hD hK hS hA hB cW_39 rfl rfl hl.1 (Nat.le_of_ble_eq_true rfl) ⟨Nat.le_of_ble_eq_true rfl, Nat.le_of_ble_eq_true rfl⟩ dX0_writeStatement_68 (fun σ2 H locs hok hz hP hD hS => ?_)
      refine lv_goto (tgt := 167) hx hb dX0_writeStatement_71 (by decide) ?_
      exact yEndv S hr hlocks hP hD hS (Nat.le_of_ble_eq_true rfl) (Nat.le_of_ble_eq_true rfl) dX0_writeStatement_167 hok
    · have hok := hok.2 k_1_1
      by_cases k_1_2 : a2 = 15
      · have hok := hok.1 k_1_2
        rw [k_1_2]
        refine lv_tableIn (off := 73) (tgt := 74) hx hb dX0_writeStatement_1 (by decide) (by decide) (by decide) (by decide) ?_
        refine lv_aload_n hx hb dX0_writeStatement_74 rfl (lv_at hl 0 rfl) ?_
        refine lv_iload_n hx hb dX0_writeStatement_75 rfl (lv_at hl 1 rfl) ?_
        refine yVv (As := [.int a1]) (cw := (cW o u cI cZ cJ T)) (ci := 0) S (v_X0_writeIf_39 l D cI cZ cJ o u T ra ga σ a1 _ H.size hok) mi_X0_writeIf kw_2_134 rfl rfl ⟨Nat.le_of_ble_eq_true rfl, Nat.le_of_ble_eq_true rfl⟩ hP hD hK hS hA hB cW_39 rfl rfl hl.1 (Nat.le_of_ble_eq_true rfl) ⟨Nat.le_of_ble_eq_true rfl, Nat.le_of_ble_eq_true rfl⟩ dX0_writeStatement_76 (fun σ3 H locs hok hz hP hD hS => ?_)
        refine lv_goto (tgt := 167) hx hb dX0_writeStatement_79 (by decide) ?_
        exact yEndv S hr hlocks hP hD hS (Nat.le_of_ble_eq_true rfl) (Nat.le_of_ble_eq_true rfl) dX0_writeStatement_167 hok
      · have hok := hok.2 k_1_2
        by_cases k_1_3 : a2 = 16
        · have hok := hok.1 k_1_3
          rw [k_1_3]
          refine lv_tableIn (off := 81) (tgt := 82) hx hb dX0_writeStatement_1 (by decide) (by decide) (by decide) (by decide) ?_
          refine lv_aload_n hx hb dX0_writeStatement_82 rfl (lv_at hl 0 rfl) ?_
          refine lv_iload_n hx hb dX0_writeStatement_83 rfl (lv_at hl 1 rfl) ?_
          refine lv_iload_n hx hb dX0_writeStatement_84 rfl (lv_at hl 3 rfl) ?_
          refine yVv (As := [.int a1, .int a3]) (cw := (cW o u cI cZ cJ T)) (ci := 0) S (v_X0_writeLoop_39 l D cI cZ cJ o u T ra ga σ a1 a3 _ H.size hok) mi_X0_writeLoop kw_2_138 rfl rfl ⟨Nat.le_of_ble_eq_true rfl, Nat.le_of_ble_eq_true rfl⟩ hP hD hK hS hA hB cW_39 rfl rfl hl.1 (Nat.le_of_ble_eq_true rfl) ⟨Nat.le_of_ble_eq_true rfl, Nat.le_of_ble_eq_true rfl⟩ dX0_writeStatement_85 (fun σ4 H locs hok hz hP hD hS => ?_)
          refine lv_goto (tgt := 167) hx hb dX0_writeStatement_88 (by decide) ?_
          exact yEndv S hr hlocks hP hD hS (Nat.le_of_ble_eq_true rfl) (Nat.le_of_ble_eq_true rfl) dX0_writeStatement_167 hok
        · have hok := hok.2 k_1_3
          by_cases k_1_4 : a2 = 17
          · have hok := hok.1 k_1_4
            rw [k_1_4]
            refine lv_tableIn (off := 90) (tgt := 91) hx hb dX0_writeStatement_1 (by decide) (by decide) (by decide) (by decide) ?_
            refine lv_aload_n hx hb dX0_writeStatement_91 rfl (lv_at hl 0 rfl) ?_
            refine lv_iload_n hx hb dX0_writeStatement_92 rfl (lv_at hl 3 rfl) ?_
            refine lv_bipush (v := 25) hx hb dX0_writeStatement_93 (by decide) ?_
            refine lv_aload_n hx hb dX0_writeStatement_95 rfl (lv_at hl 0 rfl) ?_
            refine xg (ci := 0) S inX0 rfl hK hP cW_39 2 (by decide) rfl kw_4_217 rfl dX0_writeStatement_96 ?_
            refine xg (ci := 4) S inX4 rfl hK hP cW_20 11 (by decide) rfl kw_4_118 rfl dX0_writeStatement_99 ?_
            refine lv_iload_n hx hb dX0_writeStatement_102 rfl (lv_at hl 1 rfl) ?_
            have h_103 := hok.1
            have hok := hok.2
            refine xiald (t0 := 0) (v := (g σ 30 a1)) S hK hP cW_30 rfl h_103 rfl dX0_writeStatement_103 ?_
            refine lv_aload_n hx hb dX0_writeStatement_104 rfl (lv_at hl 0 rfl) ?_
            refine xg (ci := 0) S inX0 rfl hK hP cW_39 1 (by decide) rfl kw_4_216 rfl dX0_writeStatement_105 ?_
            refine xg (ci := 5) S inX5 rfl hK hP cW_13 2 (by decide) rfl kw_4_48 rfl dX0_writeStatement_108 ?_
            refine lv_iload_n hx hb dX0_writeStatement_111 rfl (lv_at hl 1 rfl) ?_
            have h_112 := hok.1
            have hok := hok.2
            refine xiald (t0 := 0) (v := (g σ 15 a1)) S hK hP cW_15 rfl h_112 rfl dX0_writeStatement_112 ?_
            refine lv_iload_n hx hb dX0_writeStatement_113 rfl (lv_at hl 1 rfl) ?_
            refine yVv (As := [.int a3, .int 25, .int (g σ 30 a1), .int (g σ 15 a1), .int a1]) (cw := (cW o u cI cZ cJ T)) (ci := 0) S (v_X0_put_39 l D cI cZ cJ o u T ra ga σ a3 25 (g σ 30 a1) (g σ 15 a1) a1 _ H.size hok) mi_X0_put kw_2_90 rfl rfl ⟨Nat.le_of_ble_eq_true rfl, Nat.le_of_ble_eq_true rfl⟩ hP hD hK hS hA hB cW_39 rfl rfl hl.1 (Nat.le_of_ble_eq_true rfl) ⟨Nat.le_of_ble_eq_true rfl, Nat.le_of_ble_eq_true rfl⟩ dX0_writeStatement_114 (fun σ5 H locs hok hz hP hD hS => ?_)
            refine lv_goto (tgt := 167) hx hb dX0_writeStatement_117 (by decide) ?_
            exact yEndv S hr hlocks hP hD hS (Nat.le_of_ble_eq_true rfl) (Nat.le_of_ble_eq_true rfl) dX0_writeStatement_167 hok
          · have hok := hok.2 k_1_4
            by_cases k_1_5 : a2 = 18
            · have hok := hok.1 k_1_5
              rw [k_1_5]
              refine lv_tableIn (off := 119) (tgt := 120) hx hb dX0_writeStatement_1 (by decide) (by decide) (by decide) (by decide) ?_
              refine lv_aload_n hx hb dX0_writeStatement_120 rfl (lv_at hl 0 rfl) ?_
              refine lv_iload_n hx hb dX0_writeStatement_121 rfl (lv_at hl 1 rfl) ?_
              refine yVi (As := [.int a1]) (cw := (cW o u cI cZ cJ T)) (ci := 0) S (v_X0_isJump_39 l D cI cZ cJ o u T ra ga σ a1 _ H.size hok) mi_X0_isJump kw_2_78 rfl rfl ⟨Nat.le_of_ble_eq_true rfl, Nat.le_of_ble_eq_true rfl⟩ hP hD hK hS hA hB cW_39 rfl rfl hl.1 (Nat.le_of_ble_eq_true rfl) ⟨Nat.le_of_ble_eq_true rfl, Nat.le_of_ble_eq_true rfl⟩ dX0_writeStatement_122 (fun x7 σ6 H locs hok hz hP hD hS => ?_)
              refine lv_if_ne (tgt := 167) hx hb dX0_writeStatement_125 (by decide) (fun c_125 => ?_) (fun c_125 => ?_)
              · have hok := hok.2 c_125
                exact yEndv S hr hlocks hP hD hS (Nat.le_of_ble_eq_true rfl) (Nat.le_of_ble_eq_true rfl) dX0_writeStatement_167 hok
              · have hok := hok.1 c_125
                refine lv_aload_n hx hb dX0_writeStatement_128 rfl (lv_at hl 0 rfl) ?_
                refine lv_iload_n hx hb dX0_writeStatement_129 rfl (lv_at hl 3 rfl) ?_
                refine lv_bipush (v := 15) hx hb dX0_writeStatement_130 (by decide) ?_
                refine lv_iconst (v := 0) hx hb dX0_writeStatement_132 (by decide) ?_
                refine lv_iconst (v := 0) hx hb dX0_writeStatement_133 (by decide) ?_
                refine lv_iload_n hx hb dX0_writeStatement_134 rfl (lv_at hl 1 rfl) ?_
                refine yVv (As := [.int a3, .int 15, .int 0, .int 0, .int a1]) (cw := (cW o u cI cZ cJ T)) (ci := 0) S (v_X0_put_39 l D cI cZ cJ o u T ra ga σ6 a3 15 0 0 a1 _ H.size hok) mi_X0_put kw_2_90 rfl rfl ⟨Nat.le_of_ble_eq_true rfl, Nat.le_of_ble_eq_true rfl⟩ hP hD hK hS hA hB cW_39 rfl rfl hl.1 (Nat.le_of_ble_eq_true rfl) ⟨Nat.le_of_ble_eq_true rfl, Nat.le_of_ble_eq_true rfl⟩ dX0_writeStatement_135 (fun σ8 H locs hok hz hP hD hS => ?_)
                refine lv_goto (tgt := 167) hx hb dX0_writeStatement_138 (by decide) ?_
                exact yEndv S hr hlocks hP hD hS (Nat.le_of_ble_eq_true rfl) (Nat.le_of_ble_eq_true rfl) dX0_writeStatement_167 hok
            · have hok := hok.2 k_1_5
              by_cases k_1_6 : a2 = 19
              · have hok := hok.1 k_1_6
                rw [k_1_6]
                refine lv_tableIn (off := 140) (tgt := 141) hx hb dX0_writeStatement_1 (by decide) (by decide) (by decide) (by decide) ?_
                refine lv_aload_n hx hb dX0_writeStatement_141 rfl (lv_at hl 0 rfl) ?_
                refine lv_iload_n hx hb dX0_writeStatement_142 rfl (lv_at hl 3 rfl) ?_
                refine lv_bipush (v := 26) hx hb dX0_writeStatement_143 (by decide) ?_
                refine lv_iconst (v := 0) hx hb dX0_writeStatement_145 (by decide) ?_
                refine lv_iconst (v := 0) hx hb dX0_writeStatement_146 (by decide) ?_
                refine lv_iload_n hx hb dX0_writeStatement_147 rfl (lv_at hl 1 rfl) ?_
                refine yVv (As := [.int a3, .int 26, .int 0, .int 0, .int a1]) (cw := (cW o u cI cZ cJ T)) (ci := 0) S (v_X0_put_39 l D cI cZ cJ o u T ra ga σ a3 26 0 0 a1 _ H.size hok) mi_X0_put kw_2_90 rfl rfl ⟨Nat.le_of_ble_eq_true rfl, Nat.le_of_ble_eq_true rfl⟩ hP hD hK hS hA hB cW_39 rfl rfl hl.1 (Nat.le_of_ble_eq_true rfl) ⟨Nat.le_of_ble_eq_true rfl, Nat.le_of_ble_eq_true rfl⟩ dX0_writeStatement_148 (fun σ9 H locs hok hz hP hD hS => ?_)
                refine lv_goto (tgt := 167) hx hb dX0_writeStatement_151 (by decide) ?_
                exact yEndv S hr hlocks hP hD hS (Nat.le_of_ble_eq_true rfl) (Nat.le_of_ble_eq_true rfl) dX0_writeStatement_167 hok
              · have hok := hok.2 k_1_6
                by_cases k_1_7 : a2 = 20
                · have hok := hok.1 k_1_7
                  rw [k_1_7]
                  refine lv_tableIn (off := 153) (tgt := 154) hx hb dX0_writeStatement_1 (by decide) (by decide) (by decide) (by decide) ?_
                  refine lv_aload_n hx hb dX0_writeStatement_154 rfl (lv_at hl 0 rfl) ?_
                  refine lv_iload_n hx hb dX0_writeStatement_155 rfl (lv_at hl 3 rfl) ?_
                  refine lv_bipush (v := 27) hx hb dX0_writeStatement_156 (by decide) ?_
                  refine lv_iconst (v := 0) hx hb dX0_writeStatement_158 (by decide) ?_
                  refine lv_iconst (v := 0) hx hb dX0_writeStatement_159 (by decide) ?_
                  refine lv_iload_n hx hb dX0_writeStatement_160 rfl (lv_at hl 1 rfl) ?_
                  refine yVv (As := [.int a3, .int 27, .int 0, .int 0, .int a1]) (cw := (cW o u cI cZ cJ T)) (ci := 0) S (v_X0_put_39 l D cI cZ cJ o u T ra ga σ a3 27 0 0 a1 _ H.size hok) mi_X0_put kw_2_90 rfl rfl ⟨Nat.le_of_ble_eq_true rfl, Nat.le_of_ble_eq_true rfl⟩ hP hD hK hS hA hB cW_39 rfl rfl hl.1 (Nat.le_of_ble_eq_true rfl) ⟨Nat.le_of_ble_eq_true rfl, Nat.le_of_ble_eq_true rfl⟩ dX0_writeStatement_161 (fun σ10 H locs hok hz hP hD hS => ?_)
                  refine lv_goto (tgt := 167) hx hb dX0_writeStatement_164 (by decide) ?_
                  exact yEndv S hr hlocks hP hD hS (Nat.le_of_ble_eq_true rfl) (Nat.le_of_ble_eq_true rfl) dX0_writeStatement_167 hok
                · have hok := hok.2 k_1_7
                  by_cases k_1_8 : a2 = 21
                  · have hok := hok.1 k_1_8
                    rw [k_1_8]
                    refine lv_tableIn (off := 51) (tgt := 52) hx hb dX0_writeStatement_1 (by decide) (by decide) (by decide) (by decide) ?_
                    refine lv_aload_n hx hb dX0_writeStatement_52 rfl (lv_at hl 0 rfl) ?_
                    refine lv_iload_n hx hb dX0_writeStatement_53 rfl (lv_at hl 3 rfl) ?_
                    refine lv_bipush (v := 19) hx hb dX0_writeStatement_54 (by decide) ?_
                    refine lv_iload_n hx hb dX0_writeStatement_56 rfl (lv_at hl 1 rfl) ?_
                    refine yVv (As := [.int a3, .int 19, .int a1]) (cw := (cW o u cI cZ cJ T)) (ci := 0) S (v_X0_putNamed_39 l D cI cZ cJ o u T ra ga σ a3 19 a1 _ H.size hok) mi_X0_putNamed kw_2_122 rfl rfl ⟨Nat.le_of_ble_eq_true rfl, Nat.le_of_ble_eq_true rfl⟩ hP hD hK hS hA hB cW_39 rfl rfl hl.1 (Nat.le_of_ble_eq_true rfl) ⟨Nat.le_of_ble_eq_true rfl, Nat.le_of_ble_eq_true rfl⟩ dX0_writeStatement_57 (fun σ11 H locs hok hz hP hD hS => ?_)
                    refine lv_goto (tgt := 167) hx hb dX0_writeStatement_60 (by decide) ?_
                    exact yEndv S hr hlocks hP hD hS (Nat.le_of_ble_eq_true rfl) (Nat.le_of_ble_eq_true rfl) dX0_writeStatement_167 hok
                  · have hok := hok.2 k_1_8
                    have q_1_0 := sw_ni k_1_0 (z := 13) (by decide)
                    have q_1_1 := sw_ni k_1_1 (z := 14) (by decide)
                    have q_1_2 := sw_ni k_1_2 (z := 15) (by decide)
                    have q_1_3 := sw_ni k_1_3 (z := 16) (by decide)
                    have q_1_4 := sw_ni k_1_4 (z := 17) (by decide)
                    have q_1_5 := sw_ni k_1_5 (z := 18) (by decide)
                    have q_1_6 := sw_ni k_1_6 (z := 19) (by decide)
                    have q_1_7 := sw_ni k_1_7 (z := 20) (by decide)
                    have q_1_8 := sw_ni k_1_8 (z := 21) (by decide)
                    refine lv_tableOut (tgt := 167) hx hb dX0_writeStatement_1 (by omega) (by decide) ?_
                    exact yEndv S hr hlocks hP hD hS (Nat.le_of_ble_eq_true rfl) (Nat.le_of_ble_eq_true rfl) dX0_writeStatement_167 hok

set_option maxHeartbeats 8000000 in
set_option maxRecDepth 100000 in
theorem v_X4_modeOfPart (l : Launch) (D : va_G) (cI cZ cJ : ClassId) (o : Nat) (u : Nat → Nat) (T : Nat) (ra : Nat → Nat) (ga : SG) (σ : FS) (a1 : Int32) (Φ : Int32 → FS → Prop) (sz : Nat) (hok : (wp_X4_modeOfPart σ a1 Φ)) : Met l yX4_modeOfPart (uW yX4_modeOfPart cX4_modeOfPart 3 (some .int)) ({ frames := 0, cells := 0, slots := 0, locals := 0 }) (va_Pc [.ref (u 19), .int a1] (aS ra ga D (tyL cI cZ cJ) (cW o u cI cZ cJ T σ) sz)) (yQi Φ D (cW o u cI cZ cJ T) (va_A (cW o u cI cZ cJ T σ) sz)) 0 0 (va_A (cW o u cI cZ cJ T σ) sz) := by
  refine aStart (lv := [(0, .ref (u 19)), (1, .int a1)]) (Qc := fun A => yQi Φ D (cW o u cI cZ cJ T) A) (by decide) (Nat.le_of_ble_eq_true rfl) rfl ?_
  intro p e s m args below meth c ls A H S hr hlocks hnm hl hK hP hD hS hA hB
  have hx := S.1
  have hb := S.2.1
  refine lv_aload_n hx hb dX4_modeOfPart_0 rfl (lv_at hl 0 rfl) ?_
  refine xg (ci := 4) S inX4 rfl hK hP cW_20 1 (by decide) rfl kw_4_88 rfl dX4_modeOfPart_1 ?_
  refine xg (ci := 5) S inX5 rfl hK hP cW_13 5 (by decide) rfl kw_4_61 rfl dX4_modeOfPart_4 ?_
  refine lv_iload_n hx hb dX4_modeOfPart_7 rfl (lv_at hl 1 rfl) ?_
  have h_8 := hok.1
  have hok := hok.2
  refine xiald (t0 := 0) (v := (g σ 18 a1)) S hK hP cW_18 rfl h_8 rfl dX4_modeOfPart_8 ?_
  refine lv_topi (fun x1 ex1 => ?_)
  have hok := hok x1 ex1
  refine lv_istore_n (lv' := [(2, .int x1), (0, .ref (u 19)), (1, .int a1)]) hx hb dX4_modeOfPart_9 rfl hl (by decide) rfl (fun ls hl => ?_)
  refine lv_iload_n hx hb dX4_modeOfPart_10 rfl (lv_at hl 0 rfl) ?_
  refine lv_iconst (v := (-1)) hx hb dX4_modeOfPart_11 (by decide) ?_
  refine lv_icmp_eq (tgt := 38) hx hb dX4_modeOfPart_12 (by decide) (fun c_12 => ?_) (fun c_12 => ?_)
  · have hok := hok.1 c_12
    refine lv_iconst (v := 0) hx hb dX4_modeOfPart_38 (by decide) ?_
    exact yEnd S hr hlocks hP hD hS (Nat.le_of_ble_eq_true rfl) (Nat.le_of_ble_eq_true rfl) dX4_modeOfPart_39 hok
  · have hok := hok.2 c_12
    refine lv_aload_n hx hb dX4_modeOfPart_15 rfl (lv_at hl 1 rfl) ?_
    refine xg (ci := 4) S inX4 rfl hK hP cW_20 1 (by decide) rfl kw_4_88 rfl dX4_modeOfPart_16 ?_
    refine xg (ci := 5) S inX5 rfl hK hP cW_13 1 (by decide) rfl kw_4_42 rfl dX4_modeOfPart_19 ?_
    refine lv_iload_n hx hb dX4_modeOfPart_22 rfl (lv_at hl 0 rfl) ?_
    have h_23 := hok.1
    have hok := hok.2
    refine xiald (t0 := 0) (v := (g σ 14 x1)) S hK hP cW_14 rfl h_23 rfl dX4_modeOfPart_23 ?_
    refine lv_bipush (v := 9) hx hb dX4_modeOfPart_24 (by decide) ?_
    refine lv_icmp_ne (tgt := 38) hx hb dX4_modeOfPart_26 (by decide) (fun c_26 => ?_) (fun c_26 => ?_)
    · have hok := hok.2 c_26
      refine lv_iconst (v := 0) hx hb dX4_modeOfPart_38 (by decide) ?_
      exact yEnd S hr hlocks hP hD hS (Nat.le_of_ble_eq_true rfl) (Nat.le_of_ble_eq_true rfl) dX4_modeOfPart_39 hok
    · have hok := hok.1 c_26
      refine lv_aload_n hx hb dX4_modeOfPart_29 rfl (lv_at hl 1 rfl) ?_
      refine xg (ci := 4) S inX4 rfl hK hP cW_20 10 (by decide) rfl kw_4_113 rfl dX4_modeOfPart_30 ?_
      refine lv_iload_n hx hb dX4_modeOfPart_33 rfl (lv_at hl 0 rfl) ?_
      have h_34 := hok.1
      have hok := hok.2
      refine xiald (t0 := 0) (v := (g σ 29 x1)) S hK hP cW_29 rfl h_34 rfl dX4_modeOfPart_34 ?_
      refine lv_goto (tgt := 39) hx hb dX4_modeOfPart_35 (by decide) ?_
      exact yEnd S hr hlocks hP hD hS (Nat.le_of_ble_eq_true rfl) (Nat.le_of_ble_eq_true rfl) dX4_modeOfPart_39 hok

set_option maxHeartbeats 8000000 in
set_option maxRecDepth 100000 in
theorem v_X0_writeCall_39 (l : Launch) (D : va_G) (cI cZ cJ : ClassId) (o : Nat) (u : Nat → Nat) (T : Nat) (ra : Nat → Nat) (ga : SG) (σ : FS) (a1 : Int32) (a2 : Int32) (a3 : Int32) (Φ : FS → Prop) (sz : Nat) (hok : (wp_X0_writeCall 39 σ a1 a2 a3 Φ)) : Met l yX0_writeCall (uW yX0_writeCall cX0_writeCall 6 none) ({ frames := 2, cells := 0, slots := 0, locals := 48 }) (va_Pc [.ref (u 38), .int a1, .int a2, .int a3] (aS ra ga D (tyL cI cZ cJ) (cW o u cI cZ cJ T σ) sz)) (yQv Φ D (cW o u cI cZ cJ T) (va_A (cW o u cI cZ cJ T σ) sz)) 0 0 (va_A (cW o u cI cZ cJ T σ) sz) := by
  refine aStart (lv := [(0, .ref (u 38)), (1, .int a1), (2, .int a2), (3, .int a3)]) (Qc := fun A => yQv Φ D (cW o u cI cZ cJ T) A) (by decide) (Nat.le_of_ble_eq_true rfl) rfl ?_
  intro p e s m args below meth c ls A H S hr hlocks hnm hl hK hP hD hS hA hB
  have hx := S.1
  have hb := S.2.1
  refine lv_aload_n hx hb dX0_writeCall_0 rfl (lv_at hl 0 rfl) ?_
  refine xg (ci := 0) S inX0 rfl hK hP cW_39 2 (by decide) rfl kw_4_217 rfl dX0_writeCall_1 ?_
  refine xg (ci := 4) S inX4 rfl hK hP cW_20 5 (by decide) rfl kw_4_100 rfl dX0_writeCall_4 ?_
  refine lv_iload_n hx hb dX0_writeCall_7 rfl (lv_at hl 1 rfl) ?_
  have h_8 := hok.1
  have hok := hok.2
  refine xiald (t0 := 0) (v := (g σ 24 a1)) S hK hP cW_24 rfl h_8 rfl dX0_writeCall_8 ?_
  refine lv_bipush (v := 10) hx hb dX0_writeCall_9 (by decide) ?_
  refine lv_icmp_ne (tgt := 18) hx hb dX0_writeCall_11 (by decide) (fun c_11 => ?_) (fun c_11 => ?_)
  · have hok := hok.2 c_11
    refine lv_iconst (v := 0) hx hb dX0_writeCall_18 (by decide) ?_
    refine lv_istore (lv' := [(4, .int 0), (0, .ref (u 38)), (1, .int a1), (2, .int a2), (3, .int a3)]) hx hb dX0_writeCall_19 hl (by decide) rfl (fun ls hl => ?_)
    refine lv_iload_n hx hb dX0_writeCall_21 rfl (lv_at hl 3 rfl) ?_
    refine lv_bipush (v := 8) hx hb dX0_writeCall_22 (by decide) ?_
    refine lv_icmp_ne (tgt := 74) hx hb dX0_writeCall_24 (by decide) (fun c_24 => ?_) (fun c_24 => ?_)
    · have hok := hok.2 c_24
      refine lv_iload_n hx hb dX0_writeCall_74 rfl (lv_at hl 3 rfl) ?_
      refine lv_bipush (v := 8) hx hb dX0_writeCall_75 (by decide) ?_
      refine lv_icmp_ne (tgt := 91) hx hb dX0_writeCall_77 (by decide) (fun c_77 => ?_) (fun c_77 => ?_)
      · have hok := hok.2 c_77
        refine lv_iload_n hx hb dX0_writeCall_91 rfl (lv_at hl 3 rfl) ?_
        refine lv_bipush (v := 10) hx hb dX0_writeCall_92 (by decide) ?_
        refine lv_icmp_ne (tgt := 117) hx hb dX0_writeCall_94 (by decide) (fun c_94 => ?_) (fun c_94 => ?_)
        · have hok := hok.2 c_94
          refine lv_iload_n hx hb dX0_writeCall_117 rfl (lv_at hl 3 rfl) ?_
          refine lv_bipush (v := 11) hx hb dX0_writeCall_118 (by decide) ?_
          refine lv_icmp_ne (tgt := 151) hx hb dX0_writeCall_120 (by decide) (fun c_120 => ?_) (fun c_120 => ?_)
          · have hok := hok.2 c_120
            refine lv_aload_n hx hb dX0_writeCall_151 rfl (lv_at hl 1 rfl) ?_
            refine xg (ci := 0) S inX0 rfl hK hP cW_39 2 (by decide) rfl kw_4_217 rfl dX0_writeCall_152 ?_
            refine xg (ci := 4) S inX4 rfl hK hP cW_20 10 (by decide) rfl kw_4_114 rfl dX0_writeCall_155 ?_
            refine lv_iload_n hx hb dX0_writeCall_158 rfl (lv_at hl 2 rfl) ?_
            have h_159 := hok.1
            have hok := hok.2
            refine xiald (t0 := 0) (v := (g σ 29 a1)) S hK hP cW_29 rfl h_159 rfl dX0_writeCall_159 ?_
            refine lv_iconst (v := 2) hx hb dX0_writeCall_160 (by decide) ?_
            refine lv_icmp_ne (tgt := 233) hx hb dX0_writeCall_161 (by decide) (fun c_161 => ?_) (fun c_161 => ?_)
            · have hok := hok.2 c_161
              exact yEndv S hr hlocks hP hD hS (Nat.le_of_ble_eq_true rfl) (Nat.le_of_ble_eq_true rfl) dX0_writeCall_233 hok
            · have hok := hok.1 c_161
              refine lv_aload_n hx hb dX0_writeCall_164 rfl (lv_at hl 1 rfl) ?_
              refine xg (ci := 0) S inX0 rfl hK hP cW_39 13 (by decide) rfl kw_5_2 rfl dX0_writeCall_165 ?_
              refine lv_iload_n hx hb dX0_writeCall_168 rfl (lv_at hl 2 rfl) ?_
              have h_169 := hok.1
              have hok := hok.2
              refine xiald (t0 := 0) (v := (g σ 48 a1)) S hK hP cW_48 rfl h_169 rfl dX0_writeCall_169 ?_
              refine lv_iconst (v := 1) hx hb dX0_writeCall_170 (by decide) ?_
              refine xiadd (v := (g σ 48 a1) + 1) S dX0_writeCall_171 rfl ?_
              refine lv_aload_n hx hb dX0_writeCall_172 rfl (lv_at hl 1 rfl) ?_
              refine xg (ci := 0) S inX0 rfl hK hP cW_39 14 (by decide) rfl kw_5_4 rfl dX0_writeCall_173 ?_
              refine lv_aload_n hx hb dX0_writeCall_176 rfl (lv_at hl 1 rfl) ?_
              refine xg (ci := 0) S inX0 rfl hK hP cW_39 1 (by decide) rfl kw_4_216 rfl dX0_writeCall_177 ?_
              refine xg (ci := 5) S inX5 rfl hK hP cW_13 3 (by decide) rfl kw_4_54 rfl dX0_writeCall_180 ?_
              refine lv_iload_n hx hb dX0_writeCall_183 rfl (lv_at hl 2 rfl) ?_
              have h_184 := hok.1
              have hok := hok.2
              refine xiald (t0 := 0) (v := (g σ 16 a1)) S hK hP cW_16 rfl h_184 rfl dX0_writeCall_184 ?_
              have h_185 := hok.1
              have hok := hok.2
              refine xiald (t0 := 0) (v := (g σ 49 (g σ 16 a1))) S hK hP cW_49 rfl h_185 rfl dX0_writeCall_185 ?_
              refine xiadd (v := ((g σ 48 a1) + 1) + (g σ 49 (g σ 16 a1))) S dX0_writeCall_186 rfl ?_
              refine lv_topi (fun x1 ex1 => ?_)
              have hok := hok x1 ex1
              refine lv_istore (lv' := [(5, .int x1), (4, .int 0), (0, .ref (u 38)), (1, .int a1), (2, .int a2), (3, .int a3)]) hx hb dX0_writeCall_187 hl (by decide) rfl (fun ls hl => ?_)
              refine lv_aload_n hx hb dX0_writeCall_189 rfl (lv_at hl 2 rfl) ?_
              refine lv_aload_n hx hb dX0_writeCall_190 rfl (lv_at hl 2 rfl) ?_
              refine xg (ci := 0) S inX0 rfl hK hP cW_39 13 (by decide) rfl kw_5_2 rfl dX0_writeCall_191 ?_
              refine lv_iload_n hx hb dX0_writeCall_194 rfl (lv_at hl 3 rfl) ?_
              have h_195 := hok.1
              have hok := hok.2
              refine xiald (t0 := 0) (v := (g σ 48 a1)) S hK hP cW_48 rfl h_195 rfl dX0_writeCall_195 ?_
              refine lv_bipush (v := 14) hx hb dX0_writeCall_196 (by decide) ?_
              refine lv_iload hx hb dX0_writeCall_198 (lv_at hl 0 rfl) ?_
              refine lv_iconst (v := 1) hx hb dX0_writeCall_200 (by decide) ?_
              refine xiadd (v := x1 + 1) S dX0_writeCall_201 rfl ?_
              refine lv_aload_n hx hb dX0_writeCall_202 rfl (lv_at hl 2 rfl) ?_
              refine xg (ci := 0) S inX0 rfl hK hP cW_39 5 (by decide) rfl kw_4_222 rfl dX0_writeCall_203 ?_
              refine lv_aload_n hx hb dX0_writeCall_206 rfl (lv_at hl 2 rfl) ?_
              refine xg (ci := 0) S inX0 rfl hK hP cW_39 2 (by decide) rfl kw_4_217 rfl dX0_writeCall_207 ?_
              refine xg (ci := 4) S inX4 rfl hK hP cW_20 2 (by decide) rfl kw_4_90 rfl dX0_writeCall_210 ?_
              refine lv_iload_n hx hb dX0_writeCall_213 rfl (lv_at hl 3 rfl) ?_
              have h_214 := hok.1
              have hok := hok.2
              refine xiald (t0 := 0) (v := (g σ 21 a1)) S hK hP cW_21 rfl h_214 rfl dX0_writeCall_214 ?_
              have h_215 := hok.1
              have hok := hok.2
              refine xiald (t0 := 0) (v := (g σ 40 (g σ 21 a1))) S hK hP cW_40 rfl h_215 rfl dX0_writeCall_215 ?_
              refine xisub (v := (x1 + 1) - (g σ 40 (g σ 21 a1))) S dX0_writeCall_216 rfl ?_
              refine lv_iconst (v := 0) hx hb dX0_writeCall_217 (by decide) ?_
              refine lv_iload_n hx hb dX0_writeCall_218 rfl (lv_at hl 3 rfl) ?_
              refine yVv (As := [.int (g σ 48 a1), .int 14, .int ((x1 + 1) - (g σ 40 (g σ 21 a1))), .int 0, .int a1]) (cw := (cW o u cI cZ cJ T)) (ci := 0) S (v_X0_put_39 l D cI cZ cJ o u T ra ga σ (g σ 48 a1) 14 ((x1 + 1) - (g σ 40 (g σ 21 a1))) 0 a1 _ H.size hok) mi_X0_put kw_2_90 rfl rfl ⟨Nat.le_of_ble_eq_true rfl, Nat.le_of_ble_eq_true rfl⟩ hP hD hK hS hA hB cW_39 rfl rfl hl.1 (Nat.le_of_ble_eq_true rfl) ⟨Nat.le_of_ble_eq_true rfl, Nat.le_of_ble_eq_true rfl⟩ dX0_writeCall_219 (fun σ2 H locs hok hz hP hD hS => ?_)
              refine lv_aload_n hx hb dX0_writeCall_222 rfl (lv_at hl 2 rfl) ?_
              refine lv_iload hx hb dX0_writeCall_223 (lv_at hl 0 rfl) ?_
              refine lv_bipush (v := 15) hx hb dX0_writeCall_225 (by decide) ?_
              refine lv_iconst (v := 0) hx hb dX0_writeCall_227 (by decide) ?_
              refine lv_iconst (v := 0) hx hb dX0_writeCall_228 (by decide) ?_
              refine lv_iload_n hx hb dX0_writeCall_229 rfl (lv_at hl 3 rfl) ?_
              refine yVv (As := [.int x1, .int 15, .int 0, .int 0, .int a1]) (cw := (cW o u cI cZ cJ T)) (ci := 0) S (v_X0_put_39 l D cI cZ cJ o u T ra ga σ2 x1 15 0 0 a1 _ H.size hok) mi_X0_put kw_2_90 rfl rfl ⟨Nat.le_of_ble_eq_true rfl, Nat.le_of_ble_eq_true rfl⟩ hP hD hK hS hA hB cW_39 rfl rfl hl.1 (Nat.le_of_ble_eq_true rfl) ⟨Nat.le_of_ble_eq_true rfl, Nat.le_of_ble_eq_true rfl⟩ dX0_writeCall_230 (fun σ3 H locs hok hz hP hD hS => ?_)
              exact yEndv S hr hlocks hP hD hS (Nat.le_of_ble_eq_true rfl) (Nat.le_of_ble_eq_true rfl) dX0_writeCall_233 hok
          · have hok := hok.1 c_120
            refine lv_aload_n hx hb dX0_writeCall_123 rfl (lv_at hl 1 rfl) ?_
            refine lv_iload_n hx hb dX0_writeCall_124 rfl (lv_at hl 4 rfl) ?_
            refine lv_aload_n hx hb dX0_writeCall_125 rfl (lv_at hl 1 rfl) ?_
            refine xg (ci := 0) S inX0 rfl hK hP cW_39 2 (by decide) rfl kw_4_217 rfl dX0_writeCall_126 ?_
            refine lv_iload_n hx hb dX0_writeCall_129 rfl (lv_at hl 2 rfl) ?_
            refine yVi (As := [.int a1]) (cw := (cW o u cI cZ cJ T)) (ci := 4) S (v_X4_modeOfPart l D cI cZ cJ o u T ra ga σ a1 _ H.size hok) mi_X4_modeOfPart kw_2_118 rfl rfl ⟨Nat.le_of_ble_eq_true rfl, Nat.le_of_ble_eq_true rfl⟩ hP hD hK hS hA hB cW_20 rfl rfl hl.1 (Nat.le_of_ble_eq_true rfl) ⟨Nat.le_of_ble_eq_true rfl, Nat.le_of_ble_eq_true rfl⟩ dX0_writeCall_130 (fun x5 σ4 H locs hok hz hP hD hS => ?_)
            refine lv_iconst (v := 3) hx hb dX0_writeCall_133 (by decide) ?_
            refine lv_icmp_ne (tgt := 142) hx hb dX0_writeCall_134 (by decide) (fun c_134 => ?_) (fun c_134 => ?_)
            · have hok := hok.2 c_134
              refine lv_bipush (v := 17) hx hb dX0_writeCall_142 (by decide) ?_
              refine lv_iload_n hx hb dX0_writeCall_144 rfl (lv_at hl 2 rfl) ?_
              refine yVv (As := [.int a3, .int 17, .int a1]) (cw := (cW o u cI cZ cJ T)) (ci := 0) S (v_X0_putNamed_39 l D cI cZ cJ o u T ra ga σ4 a3 17 a1 _ H.size hok) mi_X0_putNamed kw_2_122 rfl rfl ⟨Nat.le_of_ble_eq_true rfl, Nat.le_of_ble_eq_true rfl⟩ hP hD hK hS hA hB cW_39 rfl rfl hl.1 (Nat.le_of_ble_eq_true rfl) ⟨Nat.le_of_ble_eq_true rfl, Nat.le_of_ble_eq_true rfl⟩ dX0_writeCall_145 (fun σ6 H locs hok hz hP hD hS => ?_)
              refine lv_goto (tgt := 233) hx hb dX0_writeCall_148 (by decide) ?_
              exact yEndv S hr hlocks hP hD hS (Nat.le_of_ble_eq_true rfl) (Nat.le_of_ble_eq_true rfl) dX0_writeCall_233 hok
            · have hok := hok.1 c_134
              refine lv_bipush (v := 16) hx hb dX0_writeCall_137 (by decide) ?_
              refine lv_goto (tgt := 144) hx hb dX0_writeCall_139 (by decide) ?_
              refine lv_iload_n hx hb dX0_writeCall_144 rfl (lv_at hl 2 rfl) ?_
              refine yVv (As := [.int a3, .int 16, .int a1]) (cw := (cW o u cI cZ cJ T)) (ci := 0) S (v_X0_putNamed_39 l D cI cZ cJ o u T ra ga σ4 a3 16 a1 _ H.size hok) mi_X0_putNamed kw_2_122 rfl rfl ⟨Nat.le_of_ble_eq_true rfl, Nat.le_of_ble_eq_true rfl⟩ hP hD hK hS hA hB cW_39 rfl rfl hl.1 (Nat.le_of_ble_eq_true rfl) ⟨Nat.le_of_ble_eq_true rfl, Nat.le_of_ble_eq_true rfl⟩ dX0_writeCall_145 (fun σ7 H locs hok hz hP hD hS => ?_)
              refine lv_goto (tgt := 233) hx hb dX0_writeCall_148 (by decide) ?_
              exact yEndv S hr hlocks hP hD hS (Nat.le_of_ble_eq_true rfl) (Nat.le_of_ble_eq_true rfl) dX0_writeCall_233 hok
        · have hok := hok.1 c_94
          refine lv_aload_n hx hb dX0_writeCall_97 rfl (lv_at hl 1 rfl) ?_
          refine lv_iload_n hx hb dX0_writeCall_98 rfl (lv_at hl 4 rfl) ?_
          refine lv_iload hx hb dX0_writeCall_99 (lv_at hl 0 rfl) ?_
          refine lv_if_eq (tgt := 109) hx hb dX0_writeCall_101 (by decide) (fun _ => ?_) (fun c => absurd c (by decide))
          refine lv_iconst (v := 2) hx hb dX0_writeCall_109 (by decide) ?_
          refine lv_iload_n hx hb dX0_writeCall_110 rfl (lv_at hl 2 rfl) ?_
          refine yVv (As := [.int a3, .int 2, .int a1]) (cw := (cW o u cI cZ cJ T)) (ci := 0) S (v_X0_putNamed_39 l D cI cZ cJ o u T ra ga σ a3 2 a1 _ H.size hok) mi_X0_putNamed kw_2_122 rfl rfl ⟨Nat.le_of_ble_eq_true rfl, Nat.le_of_ble_eq_true rfl⟩ hP hD hK hS hA hB cW_39 rfl rfl hl.1 (Nat.le_of_ble_eq_true rfl) ⟨Nat.le_of_ble_eq_true rfl, Nat.le_of_ble_eq_true rfl⟩ dX0_writeCall_111 (fun σ8 H locs hok hz hP hD hS => ?_)
          refine lv_goto (tgt := 233) hx hb dX0_writeCall_114 (by decide) ?_
          exact yEndv S hr hlocks hP hD hS (Nat.le_of_ble_eq_true rfl) (Nat.le_of_ble_eq_true rfl) dX0_writeCall_233 hok
      · have hok := hok.1 c_77
        refine lv_aload_n hx hb dX0_writeCall_80 rfl (lv_at hl 1 rfl) ?_
        refine lv_iload_n hx hb dX0_writeCall_81 rfl (lv_at hl 4 rfl) ?_
        refine lv_bipush (v := 10) hx hb dX0_writeCall_82 (by decide) ?_
        refine lv_iload_n hx hb dX0_writeCall_84 rfl (lv_at hl 2 rfl) ?_
        refine yVv (As := [.int a3, .int 10, .int a1]) (cw := (cW o u cI cZ cJ T)) (ci := 0) S (v_X0_putNamed_39 l D cI cZ cJ o u T ra ga σ a3 10 a1 _ H.size hok) mi_X0_putNamed kw_2_122 rfl rfl ⟨Nat.le_of_ble_eq_true rfl, Nat.le_of_ble_eq_true rfl⟩ hP hD hK hS hA hB cW_39 rfl rfl hl.1 (Nat.le_of_ble_eq_true rfl) ⟨Nat.le_of_ble_eq_true rfl, Nat.le_of_ble_eq_true rfl⟩ dX0_writeCall_85 (fun σ9 H locs hok hz hP hD hS => ?_)
        refine lv_goto (tgt := 233) hx hb dX0_writeCall_88 (by decide) ?_
        exact yEndv S hr hlocks hP hD hS (Nat.le_of_ble_eq_true rfl) (Nat.le_of_ble_eq_true rfl) dX0_writeCall_233 hok
    · have hok := hok.1 c_24
      refine lv_iload hx hb dX0_writeCall_27 (lv_at hl 0 rfl) ?_
      refine lv_if_eq (tgt := 74) hx hb dX0_writeCall_29 (by decide) (fun _ => ?_) (fun c => absurd c (by decide))
      refine lv_iload_n hx hb dX0_writeCall_74 rfl (lv_at hl 3 rfl) ?_
      refine lv_bipush (v := 8) hx hb dX0_writeCall_75 (by decide) ?_
      refine lv_icmp_ne (tgt := 91) hx hb dX0_writeCall_77 (by decide) (fun c_77 => ?_) (fun c_77 => ?_)
      · have hok := hok.2 c_77
        refine lv_iload_n hx hb dX0_writeCall_91 rfl (lv_at hl 3 rfl) ?_
        refine lv_bipush (v := 10) hx hb dX0_writeCall_92 (by decide) ?_
        refine lv_icmp_ne (tgt := 117) hx hb dX0_writeCall_94 (by decide) (fun c_94 => ?_) (fun c_94 => ?_)
        · have hok := hok.2 c_94
          refine lv_iload_n hx hb dX0_writeCall_117 rfl (lv_at hl 3 rfl) ?_
          refine lv_bipush (v := 11) hx hb dX0_writeCall_118 (by decide) ?_
          refine lv_icmp_ne (tgt := 151) hx hb dX0_writeCall_120 (by decide) (fun c_120 => ?_) (fun c_120 => ?_)
          · have hok := hok.2 c_120
            refine lv_aload_n hx hb dX0_writeCall_151 rfl (lv_at hl 1 rfl) ?_
            refine xg (ci := 0) S inX0 rfl hK hP cW_39 2 (by decide) rfl kw_4_217 rfl dX0_writeCall_152 ?_
            refine xg (ci := 4) S inX4 rfl hK hP cW_20 10 (by decide) rfl kw_4_114 rfl dX0_writeCall_155 ?_
            refine lv_iload_n hx hb dX0_writeCall_158 rfl (lv_at hl 2 rfl) ?_
            have h_159 := hok.1
            have hok := hok.2
            refine xiald (t0 := 0) (v := (g σ 29 a1)) S hK hP cW_29 rfl h_159 rfl dX0_writeCall_159 ?_
            refine lv_iconst (v := 2) hx hb dX0_writeCall_160 (by decide) ?_
            refine lv_icmp_ne (tgt := 233) hx hb dX0_writeCall_161 (by decide) (fun c_161 => ?_) (fun c_161 => ?_)
            · have hok := hok.2 c_161
              exact yEndv S hr hlocks hP hD hS (Nat.le_of_ble_eq_true rfl) (Nat.le_of_ble_eq_true rfl) dX0_writeCall_233 hok
            · have hok := hok.1 c_161
              refine lv_aload_n hx hb dX0_writeCall_164 rfl (lv_at hl 1 rfl) ?_
              refine xg (ci := 0) S inX0 rfl hK hP cW_39 13 (by decide) rfl kw_5_2 rfl dX0_writeCall_165 ?_
              refine lv_iload_n hx hb dX0_writeCall_168 rfl (lv_at hl 2 rfl) ?_
              have h_169 := hok.1
              have hok := hok.2
              refine xiald (t0 := 0) (v := (g σ 48 a1)) S hK hP cW_48 rfl h_169 rfl dX0_writeCall_169 ?_
              refine lv_iconst (v := 1) hx hb dX0_writeCall_170 (by decide) ?_
              refine xiadd (v := (g σ 48 a1) + 1) S dX0_writeCall_171 rfl ?_
              refine lv_aload_n hx hb dX0_writeCall_172 rfl (lv_at hl 1 rfl) ?_
              refine xg (ci := 0) S inX0 rfl hK hP cW_39 14 (by decide) rfl kw_5_4 rfl dX0_writeCall_173 ?_
              refine lv_aload_n hx hb dX0_writeCall_176 rfl (lv_at hl 1 rfl) ?_
              refine xg (ci := 0) S inX0 rfl hK hP cW_39 1 (by decide) rfl kw_4_216 rfl dX0_writeCall_177 ?_
              refine xg (ci := 5) S inX5 rfl hK hP cW_13 3 (by decide) rfl kw_4_54 rfl dX0_writeCall_180 ?_
              refine lv_iload_n hx hb dX0_writeCall_183 rfl (lv_at hl 2 rfl) ?_
              have h_184 := hok.1
              have hok := hok.2
              refine xiald (t0 := 0) (v := (g σ 16 a1)) S hK hP cW_16 rfl h_184 rfl dX0_writeCall_184 ?_
              have h_185 := hok.1
              have hok := hok.2
              refine xiald (t0 := 0) (v := (g σ 49 (g σ 16 a1))) S hK hP cW_49 rfl h_185 rfl dX0_writeCall_185 ?_
              refine xiadd (v := ((g σ 48 a1) + 1) + (g σ 49 (g σ 16 a1))) S dX0_writeCall_186 rfl ?_
              refine lv_topi (fun x10 ex10 => ?_)
              have hok := hok x10 ex10
              refine lv_istore (lv' := [(5, .int x10), (4, .int 0), (0, .ref (u 38)), (1, .int a1), (2, .int a2), (3, .int a3)]) hx hb dX0_writeCall_187 hl (by decide) rfl (fun ls hl => ?_)
              refine lv_aload_n hx hb dX0_writeCall_189 rfl (lv_at hl 2 rfl) ?_
              refine lv_aload_n hx hb dX0_writeCall_190 rfl (lv_at hl 2 rfl) ?_
              refine xg (ci := 0) S inX0 rfl hK hP cW_39 13 (by decide) rfl kw_5_2 rfl dX0_writeCall_191 ?_
              refine lv_iload_n hx hb dX0_writeCall_194 rfl (lv_at hl 3 rfl) ?_
              have h_195 := hok.1
              have hok := hok.2
              refine xiald (t0 := 0) (v := (g σ 48 a1)) S hK hP cW_48 rfl h_195 rfl dX0_writeCall_195 ?_
              refine lv_bipush (v := 14) hx hb dX0_writeCall_196 (by decide) ?_
              refine lv_iload hx hb dX0_writeCall_198 (lv_at hl 0 rfl) ?_
              refine lv_iconst (v := 1) hx hb dX0_writeCall_200 (by decide) ?_
              refine xiadd (v := x10 + 1) S dX0_writeCall_201 rfl ?_
              refine lv_aload_n hx hb dX0_writeCall_202 rfl (lv_at hl 2 rfl) ?_
              refine xg (ci := 0) S inX0 rfl hK hP cW_39 5 (by decide) rfl kw_4_222 rfl dX0_writeCall_203 ?_
              refine lv_aload_n hx hb dX0_writeCall_206 rfl (lv_at hl 2 rfl) ?_
              refine xg (ci := 0) S inX0 rfl hK hP cW_39 2 (by decide) rfl kw_4_217 rfl dX0_writeCall_207 ?_
              refine xg (ci := 4) S inX4 rfl hK hP cW_20 2 (by decide) rfl kw_4_90 rfl dX0_writeCall_210 ?_
              refine lv_iload_n hx hb dX0_writeCall_213 rfl (lv_at hl 3 rfl) ?_
              have h_214 := hok.1
              have hok := hok.2
              refine xiald (t0 := 0) (v := (g σ 21 a1)) S hK hP cW_21 rfl h_214 rfl dX0_writeCall_214 ?_
              have h_215 := hok.1
              have hok := hok.2
              refine xiald (t0 := 0) (v := (g σ 40 (g σ 21 a1))) S hK hP cW_40 rfl h_215 rfl dX0_writeCall_215 ?_
              refine xisub (v := (x10 + 1) - (g σ 40 (g σ 21 a1))) S dX0_writeCall_216 rfl ?_
              refine lv_iconst (v := 0) hx hb dX0_writeCall_217 (by decide) ?_
              refine lv_iload_n hx hb dX0_writeCall_218 rfl (lv_at hl 3 rfl) ?_
              refine yVv (As := [.int (g σ 48 a1), .int 14, .int ((x10 + 1) - (g σ 40 (g σ 21 a1))), .int 0, .int a1]) (cw := (cW o u cI cZ cJ T)) (ci := 0) S (v_X0_put_39 l D cI cZ cJ o u T ra ga σ (g σ 48 a1) 14 ((x10 + 1) - (g σ 40 (g σ 21 a1))) 0 a1 _ H.size hok) mi_X0_put kw_2_90 rfl rfl ⟨Nat.le_of_ble_eq_true rfl, Nat.le_of_ble_eq_true rfl⟩ hP hD hK hS hA hB cW_39 rfl rfl hl.1 (Nat.le_of_ble_eq_true rfl) ⟨Nat.le_of_ble_eq_true rfl, Nat.le_of_ble_eq_true rfl⟩ dX0_writeCall_219 (fun σ11 H locs hok hz hP hD hS => ?_)
              refine lv_aload_n hx hb dX0_writeCall_222 rfl (lv_at hl 2 rfl) ?_
              refine lv_iload hx hb dX0_writeCall_223 (lv_at hl 0 rfl) ?_
              refine lv_bipush (v := 15) hx hb dX0_writeCall_225 (by decide) ?_
              refine lv_iconst (v := 0) hx hb dX0_writeCall_227 (by decide) ?_
              refine lv_iconst (v := 0) hx hb dX0_writeCall_228 (by decide) ?_
              refine lv_iload_n hx hb dX0_writeCall_229 rfl (lv_at hl 3 rfl) ?_
              refine yVv (As := [.int x10, .int 15, .int 0, .int 0, .int a1]) (cw := (cW o u cI cZ cJ T)) (ci := 0) S (v_X0_put_39 l D cI cZ cJ o u T ra ga σ11 x10 15 0 0 a1 _ H.size hok) mi_X0_put kw_2_90 rfl rfl ⟨Nat.le_of_ble_eq_true rfl, Nat.le_of_ble_eq_true rfl⟩ hP hD hK hS hA hB cW_39 rfl rfl hl.1 (Nat.le_of_ble_eq_true rfl) ⟨Nat.le_of_ble_eq_true rfl, Nat.le_of_ble_eq_true rfl⟩ dX0_writeCall_230 (fun σ12 H locs hok hz hP hD hS => ?_)
              exact yEndv S hr hlocks hP hD hS (Nat.le_of_ble_eq_true rfl) (Nat.le_of_ble_eq_true rfl) dX0_writeCall_233 hok
          · have hok := hok.1 c_120
            refine lv_aload_n hx hb dX0_writeCall_123 rfl (lv_at hl 1 rfl) ?_
            refine lv_iload_n hx hb dX0_writeCall_124 rfl (lv_at hl 4 rfl) ?_
            refine lv_aload_n hx hb dX0_writeCall_125 rfl (lv_at hl 1 rfl) ?_
            refine xg (ci := 0) S inX0 rfl hK hP cW_39 2 (by decide) rfl kw_4_217 rfl dX0_writeCall_126 ?_
            refine lv_iload_n hx hb dX0_writeCall_129 rfl (lv_at hl 2 rfl) ?_
            refine yVi (As := [.int a1]) (cw := (cW o u cI cZ cJ T)) (ci := 4) S (v_X4_modeOfPart l D cI cZ cJ o u T ra ga σ a1 _ H.size hok) mi_X4_modeOfPart kw_2_118 rfl rfl ⟨Nat.le_of_ble_eq_true rfl, Nat.le_of_ble_eq_true rfl⟩ hP hD hK hS hA hB cW_20 rfl rfl hl.1 (Nat.le_of_ble_eq_true rfl) ⟨Nat.le_of_ble_eq_true rfl, Nat.le_of_ble_eq_true rfl⟩ dX0_writeCall_130 (fun x14 σ13 H locs hok hz hP hD hS => ?_)
            refine lv_iconst (v := 3) hx hb dX0_writeCall_133 (by decide) ?_
            refine lv_icmp_ne (tgt := 142) hx hb dX0_writeCall_134 (by decide) (fun c_134 => ?_) (fun c_134 => ?_)
            · have hok := hok.2 c_134
              refine lv_bipush (v := 17) hx hb dX0_writeCall_142 (by decide) ?_
              refine lv_iload_n hx hb dX0_writeCall_144 rfl (lv_at hl 2 rfl) ?_
              refine yVv (As := [.int a3, .int 17, .int a1]) (cw := (cW o u cI cZ cJ T)) (ci := 0) S (v_X0_putNamed_39 l D cI cZ cJ o u T ra ga σ13 a3 17 a1 _ H.size hok) mi_X0_putNamed kw_2_122 rfl rfl ⟨Nat.le_of_ble_eq_true rfl, Nat.le_of_ble_eq_true rfl⟩ hP hD hK hS hA hB cW_39 rfl rfl hl.1 (Nat.le_of_ble_eq_true rfl) ⟨Nat.le_of_ble_eq_true rfl, Nat.le_of_ble_eq_true rfl⟩ dX0_writeCall_145 (fun σ15 H locs hok hz hP hD hS => ?_)
              refine lv_goto (tgt := 233) hx hb dX0_writeCall_148 (by decide) ?_
              exact yEndv S hr hlocks hP hD hS (Nat.le_of_ble_eq_true rfl) (Nat.le_of_ble_eq_true rfl) dX0_writeCall_233 hok
            · have hok := hok.1 c_134
              refine lv_bipush (v := 16) hx hb dX0_writeCall_137 (by decide) ?_
              refine lv_goto (tgt := 144) hx hb dX0_writeCall_139 (by decide) ?_
              refine lv_iload_n hx hb dX0_writeCall_144 rfl (lv_at hl 2 rfl) ?_
              refine yVv (As := [.int a3, .int 16, .int a1]) (cw := (cW o u cI cZ cJ T)) (ci := 0) S (v_X0_putNamed_39 l D cI cZ cJ o u T ra ga σ13 a3 16 a1 _ H.size hok) mi_X0_putNamed kw_2_122 rfl rfl ⟨Nat.le_of_ble_eq_true rfl, Nat.le_of_ble_eq_true rfl⟩ hP hD hK hS hA hB cW_39 rfl rfl hl.1 (Nat.le_of_ble_eq_true rfl) ⟨Nat.le_of_ble_eq_true rfl, Nat.le_of_ble_eq_true rfl⟩ dX0_writeCall_145 (fun σ16 H locs hok hz hP hD hS => ?_)
              refine lv_goto (tgt := 233) hx hb dX0_writeCall_148 (by decide) ?_
              exact yEndv S hr hlocks hP hD hS (Nat.le_of_ble_eq_true rfl) (Nat.le_of_ble_eq_true rfl) dX0_writeCall_233 hok
        · have hok := hok.1 c_94
          refine lv_aload_n hx hb dX0_writeCall_97 rfl (lv_at hl 1 rfl) ?_
          refine lv_iload_n hx hb dX0_writeCall_98 rfl (lv_at hl 4 rfl) ?_
          refine lv_iload hx hb dX0_writeCall_99 (lv_at hl 0 rfl) ?_
          refine lv_if_eq (tgt := 109) hx hb dX0_writeCall_101 (by decide) (fun _ => ?_) (fun c => absurd c (by decide))
          refine lv_iconst (v := 2) hx hb dX0_writeCall_109 (by decide) ?_
          refine lv_iload_n hx hb dX0_writeCall_110 rfl (lv_at hl 2 rfl) ?_
          refine yVv (As := [.int a3, .int 2, .int a1]) (cw := (cW o u cI cZ cJ T)) (ci := 0) S (v_X0_putNamed_39 l D cI cZ cJ o u T ra ga σ a3 2 a1 _ H.size hok) mi_X0_putNamed kw_2_122 rfl rfl ⟨Nat.le_of_ble_eq_true rfl, Nat.le_of_ble_eq_true rfl⟩ hP hD hK hS hA hB cW_39 rfl rfl hl.1 (Nat.le_of_ble_eq_true rfl) ⟨Nat.le_of_ble_eq_true rfl, Nat.le_of_ble_eq_true rfl⟩ dX0_writeCall_111 (fun σ17 H locs hok hz hP hD hS => ?_)
          refine lv_goto (tgt := 233) hx hb dX0_writeCall_114 (by decide) ?_
          exact yEndv S hr hlocks hP hD hS (Nat.le_of_ble_eq_true rfl) (Nat.le_of_ble_eq_true rfl) dX0_writeCall_233 hok
      · have hok := hok.1 c_77
        refine lv_aload_n hx hb dX0_writeCall_80 rfl (lv_at hl 1 rfl) ?_
        refine lv_iload_n hx hb dX0_writeCall_81 rfl (lv_at hl 4 rfl) ?_
        refine lv_bipush (v := 10) hx hb dX0_writeCall_82 (by decide) ?_
        refine lv_iload_n hx hb dX0_writeCall_84 rfl (lv_at hl 2 rfl) ?_
        refine yVv (As := [.int a3, .int 10, .int a1]) (cw := (cW o u cI cZ cJ T)) (ci := 0) S (v_X0_putNamed_39 l D cI cZ cJ o u T ra ga σ a3 10 a1 _ H.size hok) mi_X0_putNamed kw_2_122 rfl rfl ⟨Nat.le_of_ble_eq_true rfl, Nat.le_of_ble_eq_true rfl⟩ hP hD hK hS hA hB cW_39 rfl rfl hl.1 (Nat.le_of_ble_eq_true rfl) ⟨Nat.le_of_ble_eq_true rfl, Nat.le_of_ble_eq_true rfl⟩ dX0_writeCall_85 (fun σ18 H locs hok hz hP hD hS => ?_)
        refine lv_goto (tgt := 233) hx hb dX0_writeCall_88 (by decide) ?_
        exact yEndv S hr hlocks hP hD hS (Nat.le_of_ble_eq_true rfl) (Nat.le_of_ble_eq_true rfl) dX0_writeCall_233 hok
  · have hok := hok.1 c_11
    refine lv_iconst (v := 1) hx hb dX0_writeCall_14 (by decide) ?_
    refine lv_goto (tgt := 19) hx hb dX0_writeCall_15 (by decide) ?_
    refine lv_istore (lv' := [(4, .int 1), (0, .ref (u 38)), (1, .int a1), (2, .int a2), (3, .int a3)]) hx hb dX0_writeCall_19 hl (by decide) rfl (fun ls hl => ?_)
    refine lv_iload_n hx hb dX0_writeCall_21 rfl (lv_at hl 3 rfl) ?_
    refine lv_bipush (v := 8) hx hb dX0_writeCall_22 (by decide) ?_
    refine lv_icmp_ne (tgt := 74) hx hb dX0_writeCall_24 (by decide) (fun c_24 => ?_) (fun c_24 => ?_)
    · have hok := hok.2 c_24
      refine lv_iload_n hx hb dX0_writeCall_74 rfl (lv_at hl 3 rfl) ?_
      refine lv_bipush (v := 8) hx hb dX0_writeCall_75 (by decide) ?_
      refine lv_icmp_ne (tgt := 91) hx hb dX0_writeCall_77 (by decide) (fun c_77 => ?_) (fun c_77 => ?_)
      · have hok := hok.2 c_77
        refine lv_iload_n hx hb dX0_writeCall_91 rfl (lv_at hl 3 rfl) ?_
        refine lv_bipush (v := 10) hx hb dX0_writeCall_92 (by decide) ?_
        refine lv_icmp_ne (tgt := 117) hx hb dX0_writeCall_94 (by decide) (fun c_94 => ?_) (fun c_94 => ?_)
        · have hok := hok.2 c_94
          refine lv_iload_n hx hb dX0_writeCall_117 rfl (lv_at hl 3 rfl) ?_
          refine lv_bipush (v := 11) hx hb dX0_writeCall_118 (by decide) ?_
          refine lv_icmp_ne (tgt := 151) hx hb dX0_writeCall_120 (by decide) (fun c_120 => ?_) (fun c_120 => ?_)
          · have hok := hok.2 c_120
            refine lv_aload_n hx hb dX0_writeCall_151 rfl (lv_at hl 1 rfl) ?_
            refine xg (ci := 0) S inX0 rfl hK hP cW_39 2 (by decide) rfl kw_4_217 rfl dX0_writeCall_152 ?_
            refine xg (ci := 4) S inX4 rfl hK hP cW_20 10 (by decide) rfl kw_4_114 rfl dX0_writeCall_155 ?_
            refine lv_iload_n hx hb dX0_writeCall_158 rfl (lv_at hl 2 rfl) ?_
            have h_159 := hok.1
            have hok := hok.2
            refine xiald (t0 := 0) (v := (g σ 29 a1)) S hK hP cW_29 rfl h_159 rfl dX0_writeCall_159 ?_
            refine lv_iconst (v := 2) hx hb dX0_writeCall_160 (by decide) ?_
            refine lv_icmp_ne (tgt := 233) hx hb dX0_writeCall_161 (by decide) (fun c_161 => ?_) (fun c_161 => ?_)
            · have hok := hok.2 c_161
              exact yEndv S hr hlocks hP hD hS (Nat.le_of_ble_eq_true rfl) (Nat.le_of_ble_eq_true rfl) dX0_writeCall_233 hok
            · have hok := hok.1 c_161
              refine lv_aload_n hx hb dX0_writeCall_164 rfl (lv_at hl 1 rfl) ?_
              refine xg (ci := 0) S inX0 rfl hK hP cW_39 13 (by decide) rfl kw_5_2 rfl dX0_writeCall_165 ?_
              refine lv_iload_n hx hb dX0_writeCall_168 rfl (lv_at hl 2 rfl) ?_
              have h_169 := hok.1
              have hok := hok.2
              refine xiald (t0 := 0) (v := (g σ 48 a1)) S hK hP cW_48 rfl h_169 rfl dX0_writeCall_169 ?_
              refine lv_iconst (v := 1) hx hb dX0_writeCall_170 (by decide) ?_
              refine xiadd (v := (g σ 48 a1) + 1) S dX0_writeCall_171 rfl ?_
              refine lv_aload_n hx hb dX0_writeCall_172 rfl (lv_at hl 1 rfl) ?_
              refine xg (ci := 0) S inX0 rfl hK hP cW_39 14 (by decide) rfl kw_5_4 rfl dX0_writeCall_173 ?_
              refine lv_aload_n hx hb dX0_writeCall_176 rfl (lv_at hl 1 rfl) ?_
              refine xg (ci := 0) S inX0 rfl hK hP cW_39 1 (by decide) rfl kw_4_216 rfl dX0_writeCall_177 ?_
              refine xg (ci := 5) S inX5 rfl hK hP cW_13 3 (by decide) rfl kw_4_54 rfl dX0_writeCall_180 ?_
              refine lv_iload_n hx hb dX0_writeCall_183 rfl (lv_at hl 2 rfl) ?_
              have h_184 := hok.1
              have hok := hok.2
              refine xiald (t0 := 0) (v := (g σ 16 a1)) S hK hP cW_16 rfl h_184 rfl dX0_writeCall_184 ?_
              have h_185 := hok.1
              have hok := hok.2
              refine xiald (t0 := 0) (v := (g σ 49 (g σ 16 a1))) S hK hP cW_49 rfl h_185 rfl dX0_writeCall_185 ?_
              refine xiadd (v := ((g σ 48 a1) + 1) + (g σ 49 (g σ 16 a1))) S dX0_writeCall_186 rfl ?_
              refine lv_topi (fun x19 ex19 => ?_)
              have hok := hok x19 ex19
              refine lv_istore (lv' := [(5, .int x19), (4, .int 1), (0, .ref (u 38)), (1, .int a1), (2, .int a2), (3, .int a3)]) hx hb dX0_writeCall_187 hl (by decide) rfl (fun ls hl => ?_)
              refine lv_aload_n hx hb dX0_writeCall_189 rfl (lv_at hl 2 rfl) ?_
              refine lv_aload_n hx hb dX0_writeCall_190 rfl (lv_at hl 2 rfl) ?_
              refine xg (ci := 0) S inX0 rfl hK hP cW_39 13 (by decide) rfl kw_5_2 rfl dX0_writeCall_191 ?_
              refine lv_iload_n hx hb dX0_writeCall_194 rfl (lv_at hl 3 rfl) ?_
              have h_195 := hok.1
              have hok := hok.2
              refine xiald (t0 := 0) (v := (g σ 48 a1)) S hK hP cW_48 rfl h_195 rfl dX0_writeCall_195 ?_
              refine lv_bipush (v := 14) hx hb dX0_writeCall_196 (by decide) ?_
              refine lv_iload hx hb dX0_writeCall_198 (lv_at hl 0 rfl) ?_
              refine lv_iconst (v := 1) hx hb dX0_writeCall_200 (by decide) ?_
              refine xiadd (v := x19 + 1) S dX0_writeCall_201 rfl ?_
              refine lv_aload_n hx hb dX0_writeCall_202 rfl (lv_at hl 2 rfl) ?_
              refine xg (ci := 0) S inX0 rfl hK hP cW_39 5 (by decide) rfl kw_4_222 rfl dX0_writeCall_203 ?_
              refine lv_aload_n hx hb dX0_writeCall_206 rfl (lv_at hl 2 rfl) ?_
              refine xg (ci := 0) S inX0 rfl hK hP cW_39 2 (by decide) rfl kw_4_217 rfl dX0_writeCall_207 ?_
              refine xg (ci := 4) S inX4 rfl hK hP cW_20 2 (by decide) rfl kw_4_90 rfl dX0_writeCall_210 ?_
              refine lv_iload_n hx hb dX0_writeCall_213 rfl (lv_at hl 3 rfl) ?_
              have h_214 := hok.1
              have hok := hok.2
              refine xiald (t0 := 0) (v := (g σ 21 a1)) S hK hP cW_21 rfl h_214 rfl dX0_writeCall_214 ?_
              have h_215 := hok.1
              have hok := hok.2
              refine xiald (t0 := 0) (v := (g σ 40 (g σ 21 a1))) S hK hP cW_40 rfl h_215 rfl dX0_writeCall_215 ?_
              refine xisub (v := (x19 + 1) - (g σ 40 (g σ 21 a1))) S dX0_writeCall_216 rfl ?_
              refine lv_iconst (v := 0) hx hb dX0_writeCall_217 (by decide) ?_
              refine lv_iload_n hx hb dX0_writeCall_218 rfl (lv_at hl 3 rfl) ?_
              refine yVv (As := [.int (g σ 48 a1), .int 14, .int ((x19 + 1) - (g σ 40 (g σ 21 a1))), .int 0, .int a1]) (cw := (cW o u cI cZ cJ T)) (ci := 0) S (v_X0_put_39 l D cI cZ cJ o u T ra ga σ (g σ 48 a1) 14 ((x19 + 1) - (g σ 40 (g σ 21 a1))) 0 a1 _ H.size hok) mi_X0_put kw_2_90 rfl rfl ⟨Nat.le_of_ble_eq_true rfl, Nat.le_of_ble_eq_true rfl⟩ hP hD hK hS hA hB cW_39 rfl rfl hl.1 (Nat.le_of_ble_eq_true rfl) ⟨Nat.le_of_ble_eq_true rfl, Nat.le_of_ble_eq_true rfl⟩ dX0_writeCall_219 (fun σ20 H locs hok hz hP hD hS => ?_)
              refine lv_aload_n hx hb dX0_writeCall_222 rfl (lv_at hl 2 rfl) ?_
              refine lv_iload hx hb dX0_writeCall_223 (lv_at hl 0 rfl) ?_
              refine lv_bipush (v := 15) hx hb dX0_writeCall_225 (by decide) ?_
              refine lv_iconst (v := 0) hx hb dX0_writeCall_227 (by decide) ?_
              refine lv_iconst (v := 0) hx hb dX0_writeCall_228 (by decide) ?_
              refine lv_iload_n hx hb dX0_writeCall_229 rfl (lv_at hl 3 rfl) ?_
              refine yVv (As := [.int x19, .int 15, .int 0, .int 0, .int a1]) (cw := (cW o u cI cZ cJ T)) (ci := 0) S (v_X0_put_39 l D cI cZ cJ o u T ra ga σ20 x19 15 0 0 a1 _ H.size hok) mi_X0_put kw_2_90 rfl rfl ⟨Nat.le_of_ble_eq_true rfl, Nat.le_of_ble_eq_true rfl⟩ hP hD hK hS hA hB cW_39 rfl rfl hl.1 (Nat.le_of_ble_eq_true rfl) ⟨Nat.le_of_ble_eq_true rfl, Nat.le_of_ble_eq_true rfl⟩ dX0_writeCall_230 (fun σ21 H locs hok hz hP hD hS => ?_)
              exact yEndv S hr hlocks hP hD hS (Nat.le_of_ble_eq_true rfl) (Nat.le_of_ble_eq_true rfl) dX0_writeCall_233 hok
          · have hok := hok.1 c_120
            refine lv_aload_n hx hb dX0_writeCall_123 rfl (lv_at hl 1 rfl) ?_
            refine lv_iload_n hx hb dX0_writeCall_124 rfl (lv_at hl 4 rfl) ?_
            refine lv_aload_n hx hb dX0_writeCall_125 rfl (lv_at hl 1 rfl) ?_
            refine xg (ci := 0) S inX0 rfl hK hP cW_39 2 (by decide) rfl kw_4_217 rfl dX0_writeCall_126 ?_
            refine lv_iload_n hx hb dX0_writeCall_129 rfl (lv_at hl 2 rfl) ?_
            refine yVi (As := [.int a1]) (cw := (cW o u cI cZ cJ T)) (ci := 4) S (v_X4_modeOfPart l D cI cZ cJ o u T ra ga σ a1 _ H.size hok) mi_X4_modeOfPart kw_2_118 rfl rfl ⟨Nat.le_of_ble_eq_true rfl, Nat.le_of_ble_eq_true rfl⟩ hP hD hK hS hA hB cW_20 rfl rfl hl.1 (Nat.le_of_ble_eq_true rfl) ⟨Nat.le_of_ble_eq_true rfl, Nat.le_of_ble_eq_true rfl⟩ dX0_writeCall_130 (fun x23 σ22 H locs hok hz hP hD hS => ?_)
            refine lv_iconst (v := 3) hx hb dX0_writeCall_133 (by decide) ?_
            refine lv_icmp_ne (tgt := 142) hx hb dX0_writeCall_134 (by decide) (fun c_134 => ?_) (fun c_134 => ?_)
            · have hok := hok.2 c_134
              refine lv_bipush (v := 17) hx hb dX0_writeCall_142 (by decide) ?_
              refine lv_iload_n hx hb dX0_writeCall_144 rfl (lv_at hl 2 rfl) ?_
              refine yVv (As := [.int a3, .int 17, .int a1]) (cw := (cW o u cI cZ cJ T)) (ci := 0) S (v_X0_putNamed_39 l D cI cZ cJ o u T ra ga σ22 a3 17 a1 _ H.size hok) mi_X0_putNamed kw_2_122 rfl rfl ⟨Nat.le_of_ble_eq_true rfl, Nat.le_of_ble_eq_true rfl⟩ hP hD hK hS hA hB cW_39 rfl rfl hl.1 (Nat.le_of_ble_eq_true rfl) ⟨Nat.le_of_ble_eq_true rfl, Nat.le_of_ble_eq_true rfl⟩ dX0_writeCall_145 (fun σ24 H locs hok hz hP hD hS => ?_)
              refine lv_goto (tgt := 233) hx hb dX0_writeCall_148 (by decide) ?_
              exact yEndv S hr hlocks hP hD hS (Nat.le_of_ble_eq_true rfl) (Nat.le_of_ble_eq_true rfl) dX0_writeCall_233 hok
            · have hok := hok.1 c_134
              refine lv_bipush (v := 16) hx hb dX0_writeCall_137 (by decide) ?_
              refine lv_goto (tgt := 144) hx hb dX0_writeCall_139 (by decide) ?_
              refine lv_iload_n hx hb dX0_writeCall_144 rfl (lv_at hl 2 rfl) ?_
              refine yVv (As := [.int a3, .int 16, .int a1]) (cw := (cW o u cI cZ cJ T)) (ci := 0) S (v_X0_putNamed_39 l D cI cZ cJ o u T ra ga σ22 a3 16 a1 _ H.size hok) mi_X0_putNamed kw_2_122 rfl rfl ⟨Nat.le_of_ble_eq_true rfl, Nat.le_of_ble_eq_true rfl⟩ hP hD hK hS hA hB cW_39 rfl rfl hl.1 (Nat.le_of_ble_eq_true rfl) ⟨Nat.le_of_ble_eq_true rfl, Nat.le_of_ble_eq_true rfl⟩ dX0_writeCall_145 (fun σ25 H locs hok hz hP hD hS => ?_)
              refine lv_goto (tgt := 233) hx hb dX0_writeCall_148 (by decide) ?_
              exact yEndv S hr hlocks hP hD hS (Nat.le_of_ble_eq_true rfl) (Nat.le_of_ble_eq_true rfl) dX0_writeCall_233 hok
        · have hok := hok.1 c_94
          refine lv_aload_n hx hb dX0_writeCall_97 rfl (lv_at hl 1 rfl) ?_
          refine lv_iload_n hx hb dX0_writeCall_98 rfl (lv_at hl 4 rfl) ?_
          refine lv_iload hx hb dX0_writeCall_99 (lv_at hl 0 rfl) ?_
          refine lv_if_eq (tgt := 109) hx hb dX0_writeCall_101 (by decide) (fun c => absurd c (by decide)) (fun _ => ?_)
          refine lv_bipush (v := 18) hx hb dX0_writeCall_104 (by decide) ?_
          refine lv_goto (tgt := 110) hx hb dX0_writeCall_106 (by decide) ?_
          refine lv_iload_n hx hb dX0_writeCall_110 rfl (lv_at hl 2 rfl) ?_
          refine yVv (As := [.int a3, .int 18, .int a1]) (cw := (cW o u cI cZ cJ T)) (ci := 0) S (v_X0_putNamed_39 l D cI cZ cJ o u T ra ga σ a3 18 a1 _ H.size hok) mi_X0_putNamed kw_2_122 rfl rfl ⟨Nat.le_of_ble_eq_true rfl, Nat.le_of_ble_eq_true rfl⟩ hP hD hK hS hA hB cW_39 rfl rfl hl.1 (Nat.le_of_ble_eq_true rfl) ⟨Nat.le_of_ble_eq_true rfl, Nat.le_of_ble_eq_true rfl⟩ dX0_writeCall_111 (fun σ26 H locs hok hz hP hD hS => ?_)
          refine lv_goto (tgt := 233) hx hb dX0_writeCall_114 (by decide) ?_
          exact yEndv S hr hlocks hP hD hS (Nat.le_of_ble_eq_true rfl) (Nat.le_of_ble_eq_true rfl) dX0_writeCall_233 hok
      · have hok := hok.1 c_77
        refine lv_aload_n hx hb dX0_writeCall_80 rfl (lv_at hl 1 rfl) ?_
        refine lv_iload_n hx hb dX0_writeCall_81 rfl (lv_at hl 4 rfl) ?_
        refine lv_bipush (v := 10) hx hb dX0_writeCall_82 (by decide) ?_
        refine lv_iload_n hx hb dX0_writeCall_84 rfl (lv_at hl 2 rfl) ?_
        refine yVv (As := [.int a3, .int 10, .int a1]) (cw := (cW o u cI cZ cJ T)) (ci := 0) S (v_X0_putNamed_39 l D cI cZ cJ o u T ra ga σ a3 10 a1 _ H.size hok) mi_X0_putNamed kw_2_122 rfl rfl ⟨Nat.le_of_ble_eq_true rfl, Nat.le_of_ble_eq_true rfl⟩ hP hD hK hS hA hB cW_39 rfl rfl hl.1 (Nat.le_of_ble_eq_true rfl) ⟨Nat.le_of_ble_eq_true rfl, Nat.le_of_ble_eq_true rfl⟩ dX0_writeCall_85 (fun σ27 H locs hok hz hP hD hS => ?_)
        refine lv_goto (tgt := 233) hx hb dX0_writeCall_88 (by decide) ?_
        exact yEndv S hr hlocks hP hD hS (Nat.le_of_ble_eq_true rfl) (Nat.le_of_ble_eq_true rfl) dX0_writeCall_233 hok
    · have hok := hok.1 c_24
      refine lv_iload hx hb dX0_writeCall_27 (lv_at hl 0 rfl) ?_
      refine lv_if_eq (tgt := 74) hx hb dX0_writeCall_29 (by decide) (fun c => absurd c (by decide)) (fun _ => ?_)
      refine lv_aload_n hx hb dX0_writeCall_32 rfl (lv_at hl 1 rfl) ?_
      refine xg (ci := 0) S inX0 rfl hK hP cW_39 1 (by decide) rfl kw_4_216 rfl dX0_writeCall_33 ?_
      refine xg (ci := 5) S inX5 rfl hK hP cW_13 5 (by decide) rfl kw_4_62 rfl dX0_writeCall_36 ?_
      refine lv_iload_n hx hb dX0_writeCall_39 rfl (lv_at hl 2 rfl) ?_
      have h_40 := hok.1
      have hok := hok.2
      refine xiald (t0 := 0) (v := (g σ 18 a1)) S hK hP cW_18 rfl h_40 rfl dX0_writeCall_40 ?_
      refine lv_topi (fun x28 ex28 => ?_)
      have hok := hok x28 ex28
      refine lv_istore (lv' := [(5, .int x28), (4, .int 1), (0, .ref (u 38)), (1, .int a1), (2, .int a2), (3, .int a3)]) hx hb dX0_writeCall_41 hl (by decide) rfl (fun ls hl => ?_)
      refine lv_aload_n hx hb dX0_writeCall_43 rfl (lv_at hl 2 rfl) ?_
      refine lv_iload_n hx hb dX0_writeCall_44 rfl (lv_at hl 5 rfl) ?_
      refine lv_iload hx hb dX0_writeCall_45 (lv_at hl 0 rfl) ?_
      refine lv_iconst (v := (-1)) hx hb dX0_writeCall_47 (by decide) ?_
      refine lv_icmp_eq (tgt := 65) hx hb dX0_writeCall_48 (by decide) (fun c_48 => ?_) (fun c_48 => ?_)
      · have hok := hok.1 c_48
        refine lv_bipush (v := 9) hx hb dX0_writeCall_65 (by decide) ?_
        refine lv_iload_n hx hb dX0_writeCall_67 rfl (lv_at hl 3 rfl) ?_
        refine yVv (As := [.int a3, .int 9, .int a1]) (cw := (cW o u cI cZ cJ T)) (ci := 0) S (v_X0_putNamed_39 l D cI cZ cJ o u T ra ga σ a3 9 a1 _ H.size hok) mi_X0_putNamed kw_2_122 rfl rfl ⟨Nat.le_of_ble_eq_true rfl, Nat.le_of_ble_eq_true rfl⟩ hP hD hK hS hA hB cW_39 rfl rfl hl.1 (Nat.le_of_ble_eq_true rfl) ⟨Nat.le_of_ble_eq_true rfl, Nat.le_of_ble_eq_true rfl⟩ dX0_writeCall_68 (fun σ29 H locs hok hz hP hD hS => ?_)
        refine lv_goto (tgt := 233) hx hb dX0_writeCall_71 (by decide) ?_
        exact yEndv S hr hlocks hP hD hS (Nat.le_of_ble_eq_true rfl) (Nat.le_of_ble_eq_true rfl) dX0_writeCall_233 hok
      · have hok := hok.2 c_48
        refine lv_aload_n hx hb dX0_writeCall_51 rfl (lv_at hl 2 rfl) ?_
        refine lv_iload hx hb dX0_writeCall_52 (lv_at hl 0 rfl) ?_
        refine yVi (As := [.int x28]) (cw := (cW o u cI cZ cJ T)) (ci := 0) S (v_X0_isJump_39 l D cI cZ cJ o u T ra ga σ x28 _ H.size hok) mi_X0_isJump kw_2_78 rfl rfl ⟨Nat.le_of_ble_eq_true rfl, Nat.le_of_ble_eq_true rfl⟩ hP hD hK hS hA hB cW_39 rfl rfl hl.1 (Nat.le_of_ble_eq_true rfl) ⟨Nat.le_of_ble_eq_true rfl, Nat.le_of_ble_eq_true rfl⟩ dX0_writeCall_54 (fun x31 σ30 H locs hok hz hP hD hS => ?_)
        refine lv_if_eq (tgt := 65) hx hb dX0_writeCall_57 (by decide) (fun c_57 => ?_) (fun c_57 => ?_)
        · have hok := hok.1 c_57
          refine lv_bipush (v := 9) hx hb dX0_writeCall_65 (by decide) ?_
          refine lv_iload_n hx hb dX0_writeCall_67 rfl (lv_at hl 3 rfl) ?_
          refine yVv (As := [.int a3, .int 9, .int a1]) (cw := (cW o u cI cZ cJ T)) (ci := 0) S (v_X0_putNamed_39 l D cI cZ cJ o u T ra ga σ30 a3 9 a1 _ H.size hok) mi_X0_putNamed kw_2_122 rfl rfl ⟨Nat.le_of_ble_eq_true rfl, Nat.le_of_ble_eq_true rfl⟩ hP hD hK hS hA hB cW_39 rfl rfl hl.1 (Nat.le_of_ble_eq_true rfl) ⟨Nat.le_of_ble_eq_true rfl, Nat.le_of_ble_eq_true rfl⟩ dX0_writeCall_68 (fun σ32 H locs hok hz hP hD hS => ?_)
          refine lv_goto (tgt := 233) hx hb dX0_writeCall_71 (by decide) ?_
          exact yEndv S hr hlocks hP hD hS (Nat.le_of_ble_eq_true rfl) (Nat.le_of_ble_eq_true rfl) dX0_writeCall_233 hok
        · have hok := hok.2 c_57
          refine lv_bipush (v := 11) hx hb dX0_writeCall_60 (by decide) ?_
          refine lv_goto (tgt := 67) hx hb dX0_writeCall_62 (by decide) ?_
          refine lv_iload_n hx hb dX0_writeCall_67 rfl (lv_at hl 3 rfl) ?_
          refine yVv (As := [.int a3, .int 11, .int a1]) (cw := (cW o u cI cZ cJ T)) (ci := 0) S (v_X0_putNamed_39 l D cI cZ cJ o u T ra ga σ30 a3 11 a1 _ H.size hok) mi_X0_putNamed kw_2_122 rfl rfl ⟨Nat.le_of_ble_eq_true rfl, Nat.le_of_ble_eq_true rfl⟩ hP hD hK hS hA hB cW_39 rfl rfl hl.1 (Nat.le_of_ble_eq_true rfl) ⟨Nat.le_of_ble_eq_true rfl, Nat.le_of_ble_eq_true rfl⟩ dX0_writeCall_68 (fun σ33 H locs hok hz hP hD hS => ?_)
          refine lv_goto (tgt := 233) hx hb dX0_writeCall_71 (by decide) ?_
          exact yEndv S hr hlocks hP hD hS (Nat.le_of_ble_eq_true rfl) (Nat.le_of_ble_eq_true rfl) dX0_writeCall_233 hok

set_option maxHeartbeats 8000000 in
set_option maxRecDepth 100000 in
theorem v_X0_writeExpression_39 (l : Launch) (D : va_G) (cI cZ cJ : ClassId) (o : Nat) (u : Nat → Nat) (T : Nat) (ra : Nat → Nat) (ga : SG) (σ : FS) (a1 : Int32) (a2 : Int32) (a3 : Int32) (Φ : FS → Prop) (sz : Nat) (hok : (wp_X0_writeExpression 39 σ a1 a2 a3 Φ)) : Met l yX0_writeExpression (uW yX0_writeExpression cX0_writeExpression 5 none) ({ frames := 2, cells := 0, slots := 0, locals := 48 }) (va_Pc [.ref (u 38), .int a1, .int a2, .int a3] (aS ra ga D (tyL cI cZ cJ) (cW o u cI cZ cJ T σ) sz)) (yQv Φ D (cW o u cI cZ cJ T) (va_A (cW o u cI cZ cJ T σ) sz)) 0 0 (va_A (cW o u cI cZ cJ T σ) sz) := by
  refine aStart (lv := [(0, .ref (u 38)), (1, .int a1), (2, .int a2), (3, .int a3)]) (Qc := fun A => yQv Φ D (cW o u cI cZ cJ T) A) (by decide) (Nat.le_of_ble_eq_true rfl) rfl ?_
  intro p e s m args below meth c ls A H S hr hlocks hnm hl hK hP hD hS hA hB
  have hx := S.1
  have hb := S.2.1
  refine lv_aload_n hx hb dX0_writeExpression_0 rfl (lv_at hl 0 rfl) ?_
  refine xg (ci := 0) S inX0 rfl hK hP cW_39 2 (by decide) rfl kw_4_217 rfl dX0_writeExpression_1 ?_
  refine lv_iload_n hx hb dX0_writeExpression_4 rfl (lv_at hl 1 rfl) ?_
  refine yVi (As := [.int a1]) (cw := (cW o u cI cZ cJ T)) (ci := 4) S (v_X4_modeOfPart l D cI cZ cJ o u T ra ga σ a1 _ H.size hok) mi_X4_modeOfPart kw_2_118 rfl rfl ⟨Nat.le_of_ble_eq_true rfl, Nat.le_of_ble_eq_true rfl⟩ hP hD hK hS hA hB cW_20 rfl rfl hl.1 (Nat.le_of_ble_eq_true rfl) ⟨Nat.le_of_ble_eq_true rfl, Nat.le_of_ble_eq_true rfl⟩ dX0_writeExpression_5 (fun x2 σ1 H locs hok hz hP hD hS => ?_)
  refine lv_iconst (v := 1) hx hb dX0_writeExpression_8 (by decide) ?_
  refine lv_icmp_ne (tgt := 16) hx hb dX0_writeExpression_9 (by decide) (fun c_9 => ?_) (fun c_9 => ?_)
  · have hok := hok.2 c_9
    refine lv_iconst (v := 0) hx hb dX0_writeExpression_16 (by decide) ?_
    refine lv_istore (lv' := [(4, .int 0), (0, .ref (u 38)), (1, .int a1), (2, .int a2), (3, .int a3)]) hx hb dX0_writeExpression_17 hl (by decide) rfl (fun ls hl => ?_)
    refine lv_iload_n hx hb dX0_writeExpression_19 rfl (lv_at hl 3 rfl) ?_
    refine lv_if_ne (tgt := 43) hx hb dX0_writeExpression_20 (by decide) (fun c_20 => ?_) (fun c_20 => ?_)
    · have hok := hok.2 c_20
      refine lv_iload_n hx hb dX0_writeExpression_43 rfl (lv_at hl 3 rfl) ?_
      refine lv_iconst (v := 1) hx hb dX0_writeExpression_44 (by decide) ?_
      refine lv_icmp_ne (tgt := 82) hx hb dX0_writeExpression_45 (by decide) (fun c_45 => ?_) (fun c_45 => ?_)
      · have hok := hok.2 c_45
        refine lv_iload_n hx hb dX0_writeExpression_82 rfl (lv_at hl 3 rfl) ?_
        refine lv_iconst (v := 1) hx hb dX0_writeExpression_83 (by decide) ?_
        refine lv_icmp_ne (tgt := 107) hx hb dX0_writeExpression_84 (by decide) (fun c_84 => ?_) (fun c_84 => ?_)
        · have hok := hok.2 c_84
          refine lv_iload_n hx hb dX0_writeExpression_107 rfl (lv_at hl 3 rfl) ?_
          refine lv_iconst (v := 2) hx hb dX0_writeExpression_108 (by decide) ?_
          refine lv_icmp_ne (tgt := 132) hx hb dX0_writeExpression_109 (by decide) (fun c_109 => ?_) (fun c_109 => ?_)
          · have hok := hok.2 c_109
            refine lv_aload_n hx hb dX0_writeExpression_132 rfl (lv_at hl 1 rfl) ?_
            refine lv_iload_n hx hb dX0_writeExpression_133 rfl (lv_at hl 4 rfl) ?_
            refine lv_iload_n hx hb dX0_writeExpression_134 rfl (lv_at hl 3 rfl) ?_
            refine lv_iconst (v := 1) hx hb dX0_writeExpression_135 (by decide) ?_
            refine xiadd (v := a2 + 1) S dX0_writeExpression_136 rfl ?_
            refine lv_iconst (v := 0) hx hb dX0_writeExpression_137 (by decide) ?_
            refine lv_iconst (v := 0) hx hb dX0_writeExpression_138 (by decide) ?_
            refine lv_iload_n hx hb dX0_writeExpression_139 rfl (lv_at hl 2 rfl) ?_
            refine yVv (As := [.int a3, .int (a2 + 1), .int 0, .int 0, .int a1]) (cw := (cW o u cI cZ cJ T)) (ci := 0) S (v_X0_put_39 l D cI cZ cJ o u T ra ga σ1 a3 (a2 + 1) 0 0 a1 _ H.size hok) mi_X0_put kw_2_90 rfl rfl ⟨Nat.le_of_ble_eq_true rfl, Nat.le_of_ble_eq_true rfl⟩ hP hD hK hS hA hB cW_39 rfl rfl hl.1 (Nat.le_of_ble_eq_true rfl) ⟨Nat.le_of_ble_eq_true rfl, Nat.le_of_ble_eq_true rfl⟩ dX0_writeExpression_140 (fun σ3 H locs hok hz hP hD hS => ?_)
            exact yEndv S hr hlocks hP hD hS (Nat.le_of_ble_eq_true rfl) (Nat.le_of_ble_eq_true rfl) dX0_writeExpression_143 hok
          · have hok := hok.1 c_109
            refine lv_aload_n hx hb dX0_writeExpression_112 rfl (lv_at hl 1 rfl) ?_
            refine lv_iload_n hx hb dX0_writeExpression_113 rfl (lv_at hl 4 rfl) ?_
            refine lv_iload hx hb dX0_writeExpression_114 (lv_at hl 0 rfl) ?_
            refine lv_if_eq (tgt := 124) hx hb dX0_writeExpression_116 (by decide) (fun _ => ?_) (fun c => absurd c (by decide))
            refine lv_iconst (v := 3) hx hb dX0_writeExpression_124 (by decide) ?_
            refine lv_iload_n hx hb dX0_writeExpression_125 rfl (lv_at hl 2 rfl) ?_
            refine yVv (As := [.int a3, .int 3, .int a1]) (cw := (cW o u cI cZ cJ T)) (ci := 0) S (v_X0_putNamed_39 l D cI cZ cJ o u T ra ga σ1 a3 3 a1 _ H.size hok) mi_X0_putNamed kw_2_122 rfl rfl ⟨Nat.le_of_ble_eq_true rfl, Nat.le_of_ble_eq_true rfl⟩ hP hD hK hS hA hB cW_39 rfl rfl hl.1 (Nat.le_of_ble_eq_true rfl) ⟨Nat.le_of_ble_eq_true rfl, Nat.le_of_ble_eq_true rfl⟩ dX0_writeExpression_126 (fun σ4 H locs hok hz hP hD hS => ?_)
            refine lv_goto (tgt := 143) hx hb dX0_writeExpression_129 (by decide) ?_
            exact yEndv S hr hlocks hP hD hS (Nat.le_of_ble_eq_true rfl) (Nat.le_of_ble_eq_true rfl) dX0_writeExpression_143 hok
        · have hok := hok.1 c_84
          refine lv_aload_n hx hb dX0_writeExpression_87 rfl (lv_at hl 1 rfl) ?_
          refine lv_iload_n hx hb dX0_writeExpression_88 rfl (lv_at hl 4 rfl) ?_
          refine lv_iload hx hb dX0_writeExpression_89 (lv_at hl 0 rfl) ?_
          refine lv_if_eq (tgt := 99) hx hb dX0_writeExpression_91 (by decide) (fun _ => ?_) (fun c => absurd c (by decide))
          refine lv_iconst (v := 2) hx hb dX0_writeExpression_99 (by decide) ?_
          refine lv_iload_n hx hb dX0_writeExpression_100 rfl (lv_at hl 2 rfl) ?_
          refine yVv (As := [.int a3, .int 2, .int a1]) (cw := (cW o u cI cZ cJ T)) (ci := 0) S (v_X0_putNamed_39 l D cI cZ cJ o u T ra ga σ1 a3 2 a1 _ H.size hok) mi_X0_putNamed kw_2_122 rfl rfl ⟨Nat.le_of_ble_eq_true rfl, Nat.le_of_ble_eq_true rfl⟩ hP hD hK hS hA hB cW_39 rfl rfl hl.1 (Nat.le_of_ble_eq_true rfl) ⟨Nat.le_of_ble_eq_true rfl, Nat.le_of_ble_eq_true rfl⟩ dX0_writeExpression_101 (fun σ5 H locs hok hz hP hD hS => ?_)
          refine lv_goto (tgt := 143) hx hb dX0_writeExpression_104 (by decide) ?_
          exact yEndv S hr hlocks hP hD hS (Nat.le_of_ble_eq_true rfl) (Nat.le_of_ble_eq_true rfl) dX0_writeExpression_143 hok
      · have hok := hok.1 c_45
        refine lv_aload_n hx hb dX0_writeExpression_48 rfl (lv_at hl 1 rfl) ?_
        refine xg (ci := 0) S inX0 rfl hK hP cW_39 2 (by decide) rfl kw_4_217 rfl dX0_writeExpression_49 ?_
        refine xg (ci := 4) S inX4 rfl hK hP cW_20 5 (by decide) rfl kw_4_100 rfl dX0_writeExpression_52 ?_
        refine lv_iload_n hx hb dX0_writeExpression_55 rfl (lv_at hl 2 rfl) ?_
        have h_56 := hok.1
        have hok := hok.2
        refine xiald (t0 := 0) (v := (g σ1 24 a1)) S hK hP cW_24 rfl h_56 rfl dX0_writeExpression_56 ?_
        refine lv_bipush (v := 9) hx hb dX0_writeExpression_57 (by decide) ?_
        refine lv_icmp_ne (tgt := 82) hx hb dX0_writeExpression_59 (by decide) (fun c_59 => ?_) (fun c_59 => ?_)
        · have hok := hok.2 c_59
          refine lv_iload_n hx hb dX0_writeExpression_82 rfl (lv_at hl 3 rfl) ?_
          refine lv_iconst (v := 1) hx hb dX0_writeExpression_83 (by decide) ?_
          refine lv_icmp_ne (tgt := 107) hx hb dX0_writeExpression_84 (by decide) (fun c_84 => ?_) (fun c_84 => ?_)
          · have hok := hok.2 c_84
            refine lv_iload_n hx hb dX0_writeExpression_107 rfl (lv_at hl 3 rfl) ?_
            refine lv_iconst (v := 2) hx hb dX0_writeExpression_108 (by decide) ?_
            refine lv_icmp_ne (tgt := 132) hx hb dX0_writeExpression_109 (by decide) (fun c_109 => ?_) (fun c_109 => ?_)
            · have hok := hok.2 c_109
              refine lv_aload_n hx hb dX0_writeExpression_132 rfl (lv_at hl 1 rfl) ?_
              refine lv_iload_n hx hb dX0_writeExpression_133 rfl (lv_at hl 4 rfl) ?_
              refine lv_iload_n hx hb dX0_writeExpression_134 rfl (lv_at hl 3 rfl) ?_
              refine lv_iconst (v := 1) hx hb dX0_writeExpression_135 (by decide) ?_
              refine xiadd (v := a2 + 1) S dX0_writeExpression_136 rfl ?_
              refine lv_iconst (v := 0) hx hb dX0_writeExpression_137 (by decide) ?_
              refine lv_iconst (v := 0) hx hb dX0_writeExpression_138 (by decide) ?_
              refine lv_iload_n hx hb dX0_writeExpression_139 rfl (lv_at hl 2 rfl) ?_
              refine yVv (As := [.int a3, .int (a2 + 1), .int 0, .int 0, .int a1]) (cw := (cW o u cI cZ cJ T)) (ci := 0) S (v_X0_put_39 l D cI cZ cJ o u T ra ga σ1 a3 (a2 + 1) 0 0 a1 _ H.size hok) mi_X0_put kw_2_90 rfl rfl ⟨Nat.le_of_ble_eq_true rfl, Nat.le_of_ble_eq_true rfl⟩ hP hD hK hS hA hB cW_39 rfl rfl hl.1 (Nat.le_of_ble_eq_true rfl) ⟨Nat.le_of_ble_eq_true rfl, Nat.le_of_ble_eq_true rfl⟩ dX0_writeExpression_140 (fun σ6 H locs hok hz hP hD hS => ?_)
              exact yEndv S hr hlocks hP hD hS (Nat.le_of_ble_eq_true rfl) (Nat.le_of_ble_eq_true rfl) dX0_writeExpression_143 hok
            · have hok := hok.1 c_109
              refine lv_aload_n hx hb dX0_writeExpression_112 rfl (lv_at hl 1 rfl) ?_
              refine lv_iload_n hx hb dX0_writeExpression_113 rfl (lv_at hl 4 rfl) ?_
              refine lv_iload hx hb dX0_writeExpression_114 (lv_at hl 0 rfl) ?_
              refine lv_if_eq (tgt := 124) hx hb dX0_writeExpression_116 (by decide) (fun _ => ?_) (fun c => absurd c (by decide))
              refine lv_iconst (v := 3) hx hb dX0_writeExpression_124 (by decide) ?_
              refine lv_iload_n hx hb dX0_writeExpression_125 rfl (lv_at hl 2 rfl) ?_
              refine yVv (As := [.int a3, .int 3, .int a1]) (cw := (cW o u cI cZ cJ T)) (ci := 0) S (v_X0_putNamed_39 l D cI cZ cJ o u T ra ga σ1 a3 3 a1 _ H.size hok) mi_X0_putNamed kw_2_122 rfl rfl ⟨Nat.le_of_ble_eq_true rfl, Nat.le_of_ble_eq_true rfl⟩ hP hD hK hS hA hB cW_39 rfl rfl hl.1 (Nat.le_of_ble_eq_true rfl) ⟨Nat.le_of_ble_eq_true rfl, Nat.le_of_ble_eq_true rfl⟩ dX0_writeExpression_126 (fun σ7 H locs hok hz hP hD hS => ?_)
              refine lv_goto (tgt := 143) hx hb dX0_writeExpression_129 (by decide) ?_
              exact yEndv S hr hlocks hP hD hS (Nat.le_of_ble_eq_true rfl) (Nat.le_of_ble_eq_true rfl) dX0_writeExpression_143 hok
          · have hok := hok.1 c_84
            refine lv_aload_n hx hb dX0_writeExpression_87 rfl (lv_at hl 1 rfl) ?_
            refine lv_iload_n hx hb dX0_writeExpression_88 rfl (lv_at hl 4 rfl) ?_
            refine lv_iload hx hb dX0_writeExpression_89 (lv_at hl 0 rfl) ?_
            refine lv_if_eq (tgt := 99) hx hb dX0_writeExpression_91 (by decide) (fun _ => ?_) (fun c => absurd c (by decide))
            refine lv_iconst (v := 2) hx hb dX0_writeExpression_99 (by decide) ?_
            refine lv_iload_n hx hb dX0_writeExpression_100 rfl (lv_at hl 2 rfl) ?_
            refine yVv (As := [.int a3, .int 2, .int a1]) (cw := (cW o u cI cZ cJ T)) (ci := 0) S (v_X0_putNamed_39 l D cI cZ cJ o u T ra ga σ1 a3 2 a1 _ H.size hok) mi_X0_putNamed kw_2_122 rfl rfl ⟨Nat.le_of_ble_eq_true rfl, Nat.le_of_ble_eq_true rfl⟩ hP hD hK hS hA hB cW_39 rfl rfl hl.1 (Nat.le_of_ble_eq_true rfl) ⟨Nat.le_of_ble_eq_true rfl, Nat.le_of_ble_eq_true rfl⟩ dX0_writeExpression_101 (fun σ8 H locs hok hz hP hD hS => ?_)
            refine lv_goto (tgt := 143) hx hb dX0_writeExpression_104 (by decide) ?_
            exact yEndv S hr hlocks hP hD hS (Nat.le_of_ble_eq_true rfl) (Nat.le_of_ble_eq_true rfl) dX0_writeExpression_143 hok
        · have hok := hok.1 c_59
          refine lv_aload_n hx hb dX0_writeExpression_62 rfl (lv_at hl 1 rfl) ?_
          refine lv_iload_n hx hb dX0_writeExpression_63 rfl (lv_at hl 4 rfl) ?_
          refine lv_iconst (v := 1) hx hb dX0_writeExpression_64 (by decide) ?_
          refine lv_aload_n hx hb dX0_writeExpression_65 rfl (lv_at hl 1 rfl) ?_
          refine xg (ci := 0) S inX0 rfl hK hP cW_39 2 (by decide) rfl kw_4_217 rfl dX0_writeExpression_66 ?_
          refine xg (ci := 4) S inX4 rfl hK hP cW_20 6 (by decide) rfl kw_4_103 rfl dX0_writeExpression_69 ?_
          refine lv_iload_n hx hb dX0_writeExpression_72 rfl (lv_at hl 2 rfl) ?_
          have h_73 := hok.1
          have hok := hok.2
          refine xiald (t0 := 0) (v := (g σ1 25 a1)) S hK hP cW_25 rfl h_73 rfl dX0_writeExpression_73 ?_
          refine lv_iconst (v := 0) hx hb dX0_writeExpression_74 (by decide) ?_
          refine lv_iload_n hx hb dX0_writeExpression_75 rfl (lv_at hl 2 rfl) ?_
          refine yVv (As := [.int a3, .int 1, .int (g σ1 25 a1), .int 0, .int a1]) (cw := (cW o u cI cZ cJ T)) (ci := 0) S (v_X0_put_39 l D cI cZ cJ o u T ra ga σ1 a3 1 (g σ1 25 a1) 0 a1 _ H.size hok) mi_X0_put kw_2_90 rfl rfl ⟨Nat.le_of_ble_eq_true rfl, Nat.le_of_ble_eq_true rfl⟩ hP hD hK hS hA hB cW_39 rfl rfl hl.1 (Nat.le_of_ble_eq_true rfl) ⟨Nat.le_of_ble_eq_true rfl, Nat.le_of_ble_eq_true rfl⟩ dX0_writeExpression_76 (fun σ9 H locs hok hz hP hD hS => ?_)
          refine lv_goto (tgt := 143) hx hb dX0_writeExpression_79 (by decide) ?_
          exact yEndv S hr hlocks hP hD hS (Nat.le_of_ble_eq_true rfl) (Nat.le_of_ble_eq_true rfl) dX0_writeExpression_143 hok
    · have hok := hok.1 c_20
      refine lv_aload_n hx hb dX0_writeExpression_23 rfl (lv_at hl 1 rfl) ?_
      refine lv_iload_n hx hb dX0_writeExpression_24 rfl (lv_at hl 4 rfl) ?_
      refine lv_iconst (v := 1) hx hb dX0_writeExpression_25 (by decide) ?_
      refine lv_aload_n hx hb dX0_writeExpression_26 rfl (lv_at hl 1 rfl) ?_
      refine xg (ci := 0) S inX0 rfl hK hP cW_39 1 (by decide) rfl kw_4_216 rfl dX0_writeExpression_27 ?_
      refine xg (ci := 5) S inX5 rfl hK hP cW_13 2 (by decide) rfl kw_4_48 rfl dX0_writeExpression_30 ?_
      refine lv_iload_n hx hb dX0_writeExpression_33 rfl (lv_at hl 2 rfl) ?_
      have h_34 := hok.1
      have hok := hok.2
      refine xiald (t0 := 0) (v := (g σ1 15 a1)) S hK hP cW_15 rfl h_34 rfl dX0_writeExpression_34 ?_
      refine lv_iconst (v := 0) hx hb dX0_writeExpression_35 (by decide) ?_
      refine lv_iload_n hx hb dX0_writeExpression_36 rfl (lv_at hl 2 rfl) ?_
      refine yVv (As := [.int a3, .int 1, .int (g σ1 15 a1), .int 0, .int a1]) (cw := (cW o u cI cZ cJ T)) (ci := 0) S (v_X0_put_39 l D cI cZ cJ o u T ra ga σ1 a3 1 (g σ1 15 a1) 0 a1 _ H.size hok) mi_X0_put kw_2_90 rfl rfl ⟨Nat.le_of_ble_eq_true rfl, Nat.le_of_ble_eq_true rfl⟩ hP hD hK hS hA hB cW_39 rfl rfl hl.1 (Nat.le_of_ble_eq_true rfl) ⟨Nat.le_of_ble_eq_true rfl, Nat.le_of_ble_eq_true rfl⟩ dX0_writeExpression_37 (fun σ10 H locs hok hz hP hD hS => ?_)
      refine lv_goto (tgt := 143) hx hb dX0_writeExpression_40 (by decide) ?_
      exact yEndv S hr hlocks hP hD hS (Nat.le_of_ble_eq_true rfl) (Nat.le_of_ble_eq_true rfl) dX0_writeExpression_143 hok
  · have hok := hok.1 c_9
    refine lv_iconst (v := 1) hx hb dX0_writeExpression_12 (by decide) ?_
    refine lv_goto (tgt := 17) hx hb dX0_writeExpression_13 (by decide) ?_
    refine lv_istore (lv' := [(4, .int 1), (0, .ref (u 38)), (1, .int a1), (2, .int a2), (3, .int a3)]) hx hb dX0_writeExpression_17 hl (by decide) rfl (fun ls hl => ?_)
    refine lv_iload_n hx hb dX0_writeExpression_19 rfl (lv_at hl 3 rfl) ?_
    refine lv_if_ne (tgt := 43) hx hb dX0_writeExpression_20 (by decide) (fun c_20 => ?_) (fun c_20 => ?_)
    · have hok := hok.2 c_20
      refine lv_iload_n hx hb dX0_writeExpression_43 rfl (lv_at hl 3 rfl) ?_
      refine lv_iconst (v := 1) hx hb dX0_writeExpression_44 (by decide) ?_
      refine lv_icmp_ne (tgt := 82) hx hb dX0_writeExpression_45 (by decide) (fun c_45 => ?_) (fun c_45 => ?_)
      · have hok := hok.2 c_45
        refine lv_iload_n hx hb dX0_writeExpression_82 rfl (lv_at hl 3 rfl) ?_
        refine lv_iconst (v := 1) hx hb dX0_writeExpression_83 (by decide) ?_
        refine lv_icmp_ne (tgt := 107) hx hb dX0_writeExpression_84 (by decide) (fun c_84 => ?_) (fun c_84 => ?_)
        · have hok := hok.2 c_84
          refine lv_iload_n hx hb dX0_writeExpression_107 rfl (lv_at hl 3 rfl) ?_
          refine lv_iconst (v := 2) hx hb dX0_writeExpression_108 (by decide) ?_
          refine lv_icmp_ne (tgt := 132) hx hb dX0_writeExpression_109 (by decide) (fun c_109 => ?_) (fun c_109 => ?_)
          · have hok := hok.2 c_109
            refine lv_aload_n hx hb dX0_writeExpression_132 rfl (lv_at hl 1 rfl) ?_
            refine lv_iload_n hx hb dX0_writeExpression_133 rfl (lv_at hl 4 rfl) ?_
            refine lv_iload_n hx hb dX0_writeExpression_134 rfl (lv_at hl 3 rfl) ?_
            refine lv_iconst (v := 1) hx hb dX0_writeExpression_135 (by decide) ?_
            refine xiadd (v := a2 + 1) S dX0_writeExpression_136 rfl ?_
            refine lv_iconst (v := 0) hx hb dX0_writeExpression_137 (by decide) ?_
            refine lv_iconst (v := 0) hx hb dX0_writeExpression_138 (by decide) ?_
            refine lv_iload_n hx hb dX0_writeExpression_139 rfl (lv_at hl 2 rfl) ?_
            refine yVv (As := [.int a3, .int (a2 + 1), .int 0, .int 0, .int a1]) (cw := (cW o u cI cZ cJ T)) (ci := 0) S (v_X0_put_39 l D cI cZ cJ o u T ra ga σ1 a3 (a2 + 1) 0 0 a1 _ H.size hok) mi_X0_put kw_2_90 rfl rfl ⟨Nat.le_of_ble_eq_true rfl, Nat.le_of_ble_eq_true rfl⟩ hP hD hK hS hA hB cW_39 rfl rfl hl.1 (Nat.le_of_ble_eq_true rfl) ⟨Nat.le_of_ble_eq_true rfl, Nat.le_of_ble_eq_true rfl⟩ dX0_writeExpression_140 (fun σ11 H locs hok hz hP hD hS => ?_)
            exact yEndv S hr hlocks hP hD hS (Nat.le_of_ble_eq_true rfl) (Nat.le_of_ble_eq_true rfl) dX0_writeExpression_143 hok
          · have hok := hok.1 c_109
            refine lv_aload_n hx hb dX0_writeExpression_112 rfl (lv_at hl 1 rfl) ?_
            refine lv_iload_n hx hb dX0_writeExpression_113 rfl (lv_at hl 4 rfl) ?_
            refine lv_iload hx hb dX0_writeExpression_114 (lv_at hl 0 rfl) ?_
            refine lv_if_eq (tgt := 124) hx hb dX0_writeExpression_116 (by decide) (fun c => absurd c (by decide)) (fun _ => ?_)
            refine lv_bipush (v := 13) hx hb dX0_writeExpression_119 (by decide) ?_
            refine lv_goto (tgt := 125) hx hb dX0_writeExpression_121 (by decide) ?_
            refine lv_iload_n hx hb dX0_writeExpression_125 rfl (lv_at hl 2 rfl) ?_
            refine yVv (As := [.int a3, .int 13, .int a1]) (cw := (cW o u cI cZ cJ T)) (ci := 0) S (v_X0_putNamed_39 l D cI cZ cJ o u T ra ga σ1 a3 13 a1 _ H.size hok) mi_X0_putNamed kw_2_122 rfl rfl ⟨Nat.le_of_ble_eq_true rfl, Nat.le_of_ble_eq_true rfl⟩ hP hD hK hS hA hB cW_39 rfl rfl hl.1 (Nat.le_of_ble_eq_true rfl) ⟨Nat.le_of_ble_eq_true rfl, Nat.le_of_ble_eq_true rfl⟩ dX0_writeExpression_126 (fun σ12 H locs hok hz hP hD hS => ?_)
            refine lv_goto (tgt := 143) hx hb dX0_writeExpression_129 (by decide) ?_
            exact yEndv S hr hlocks hP hD hS (Nat.le_of_ble_eq_true rfl) (Nat.le_of_ble_eq_true rfl) dX0_writeExpression_143 hok
        · have hok := hok.1 c_84
          refine lv_aload_n hx hb dX0_writeExpression_87 rfl (lv_at hl 1 rfl) ?_
          refine lv_iload_n hx hb dX0_writeExpression_88 rfl (lv_at hl 4 rfl) ?_
          refine lv_iload hx hb dX0_writeExpression_89 (lv_at hl 0 rfl) ?_
          refine lv_if_eq (tgt := 99) hx hb dX0_writeExpression_91 (by decide) (fun c => absurd c (by decide)) (fun _ => ?_)
          refine lv_bipush (v := 12) hx hb dX0_writeExpression_94 (by decide) ?_
          refine lv_goto (tgt := 100) hx hb dX0_writeExpression_96 (by decide) ?_
          refine lv_iload_n hx hb dX0_writeExpression_100 rfl (lv_at hl 2 rfl) ?_
          refine yVv (As := [.int a3, .int 12, .int a1]) (cw := (cW o u cI cZ cJ T)) (ci := 0) S (v_X0_putNamed_39 l D cI cZ cJ o u T ra ga σ1 a3 12 a1 _ H.size hok) mi_X0_putNamed kw_2_122 rfl rfl ⟨Nat.le_of_ble_eq_true rfl, Nat.le_of_ble_eq_true rfl⟩ hP hD hK hS hA hB cW_39 rfl rfl hl.1 (Nat.le_of_ble_eq_true rfl) ⟨Nat.le_of_ble_eq_true rfl, Nat.le_of_ble_eq_true rfl⟩ dX0_writeExpression_101 (fun σ13 H locs hok hz hP hD hS => ?_)
          refine lv_goto (tgt := 143) hx hb dX0_writeExpression_104 (by decide) ?_
          exact yEndv S hr hlocks hP hD hS (Nat.le_of_ble_eq_true rfl) (Nat.le_of_ble_eq_true rfl) dX0_writeExpression_143 hok
      · have hok := hok.1 c_45
        refine lv_aload_n hx hb dX0_writeExpression_48 rfl (lv_at hl 1 rfl) ?_
        refine xg (ci := 0) S inX0 rfl hK hP cW_39 2 (by decide) rfl kw_4_217 rfl dX0_writeExpression_49 ?_
        refine xg (ci := 4) S inX4 rfl hK hP cW_20 5 (by decide) rfl kw_4_100 rfl dX0_writeExpression_52 ?_
        refine lv_iload_n hx hb dX0_writeExpression_55 rfl (lv_at hl 2 rfl) ?_
        have h_56 := hok.1
        have hok := hok.2
        refine xiald (t0 := 0) (v := (g σ1 24 a1)) S hK hP cW_24 rfl h_56 rfl dX0_writeExpression_56 ?_
        refine lv_bipush (v := 9) hx hb dX0_writeExpression_57 (by decide) ?_
        refine lv_icmp_ne (tgt := 82) hx hb dX0_writeExpression_59 (by decide) (fun c_59 => ?_) (fun c_59 => ?_)
        · have hok := hok.2 c_59
          refine lv_iload_n hx hb dX0_writeExpression_82 rfl (lv_at hl 3 rfl) ?_
          refine lv_iconst (v := 1) hx hb dX0_writeExpression_83 (by decide) ?_
          refine lv_icmp_ne (tgt := 107) hx hb dX0_writeExpression_84 (by decide) (fun c_84 => ?_) (fun c_84 => ?_)
          · have hok := hok.2 c_84
            refine lv_iload_n hx hb dX0_writeExpression_107 rfl (lv_at hl 3 rfl) ?_
            refine lv_iconst (v := 2) hx hb dX0_writeExpression_108 (by decide) ?_
            refine lv_icmp_ne (tgt := 132) hx hb dX0_writeExpression_109 (by decide) (fun c_109 => ?_) (fun c_109 => ?_)
            · have hok := hok.2 c_109
              refine lv_aload_n hx hb dX0_writeExpression_132 rfl (lv_at hl 1 rfl) ?_
              refine lv_iload_n hx hb dX0_writeExpression_133 rfl (lv_at hl 4 rfl) ?_
              refine lv_iload_n hx hb dX0_writeExpression_134 rfl (lv_at hl 3 rfl) ?_
              refine lv_iconst (v := 1) hx hb dX0_writeExpression_135 (by decide) ?_
              refine xiadd (v := a2 + 1) S dX0_writeExpression_136 rfl ?_
              refine lv_iconst (v := 0) hx hb dX0_writeExpression_137 (by decide) ?_
              refine lv_iconst (v := 0) hx hb dX0_writeExpression_138 (by decide) ?_
              refine lv_iload_n hx hb dX0_writeExpression_139 rfl (lv_at hl 2 rfl) ?_
              refine yVv (As := [.int a3, .int (a2 + 1), .int 0, .int 0, .int a1]) (cw := (cW o u cI cZ cJ T)) (ci := 0) S (v_X0_put_39 l D cI cZ cJ o u T ra ga σ1 a3 (a2 + 1) 0 0 a1 _ H.size hok) mi_X0_put kw_2_90 rfl rfl ⟨Nat.le_of_ble_eq_true rfl, Nat.le_of_ble_eq_true rfl⟩ hP hD hK hS hA hB cW_39 rfl rfl hl.1 (Nat.le_of_ble_eq_true rfl) ⟨Nat.le_of_ble_eq_true rfl, Nat.le_of_ble_eq_true rfl⟩ dX0_writeExpression_140 (fun σ14 H locs hok hz hP hD hS => ?_)
              exact yEndv S hr hlocks hP hD hS (Nat.le_of_ble_eq_true rfl) (Nat.le_of_ble_eq_true rfl) dX0_writeExpression_143 hok
            · have hok := hok.1 c_109
              refine lv_aload_n hx hb dX0_writeExpression_112 rfl (lv_at hl 1 rfl) ?_
              refine lv_iload_n hx hb dX0_writeExpression_113 rfl (lv_at hl 4 rfl) ?_
              refine lv_iload hx hb dX0_writeExpression_114 (lv_at hl 0 rfl) ?_
              refine lv_if_eq (tgt := 124) hx hb dX0_writeExpression_116 (by decide) (fun c => absurd c (by decide)) (fun _ => ?_)
              refine lv_bipush (v := 13) hx hb dX0_writeExpression_119 (by decide) ?_
              refine lv_goto (tgt := 125) hx hb dX0_writeExpression_121 (by decide) ?_
              refine lv_iload_n hx hb dX0_writeExpression_125 rfl (lv_at hl 2 rfl) ?_
              refine yVv (As := [.int a3, .int 13, .int a1]) (cw := (cW o u cI cZ cJ T)) (ci := 0) S (v_X0_putNamed_39 l D cI cZ cJ o u T ra ga σ1 a3 13 a1 _ H.size hok) mi_X0_putNamed kw_2_122 rfl rfl ⟨Nat.le_of_ble_eq_true rfl, Nat.le_of_ble_eq_true rfl⟩ hP hD hK hS hA hB cW_39 rfl rfl hl.1 (Nat.le_of_ble_eq_true rfl) ⟨Nat.le_of_ble_eq_true rfl, Nat.le_of_ble_eq_true rfl⟩ dX0_writeExpression_126 (fun σ15 H locs hok hz hP hD hS => ?_)
              refine lv_goto (tgt := 143) hx hb dX0_writeExpression_129 (by decide) ?_
              exact yEndv S hr hlocks hP hD hS (Nat.le_of_ble_eq_true rfl) (Nat.le_of_ble_eq_true rfl) dX0_writeExpression_143 hok
          · have hok := hok.1 c_84
            refine lv_aload_n hx hb dX0_writeExpression_87 rfl (lv_at hl 1 rfl) ?_
            refine lv_iload_n hx hb dX0_writeExpression_88 rfl (lv_at hl 4 rfl) ?_
            refine lv_iload hx hb dX0_writeExpression_89 (lv_at hl 0 rfl) ?_
            refine lv_if_eq (tgt := 99) hx hb dX0_writeExpression_91 (by decide) (fun c => absurd c (by decide)) (fun _ => ?_)
            refine lv_bipush (v := 12) hx hb dX0_writeExpression_94 (by decide) ?_
            refine lv_goto (tgt := 100) hx hb dX0_writeExpression_96 (by decide) ?_
            refine lv_iload_n hx hb dX0_writeExpression_100 rfl (lv_at hl 2 rfl) ?_
            refine yVv (As := [.int a3, .int 12, .int a1]) (cw := (cW o u cI cZ cJ T)) (ci := 0) S (v_X0_putNamed_39 l D cI cZ cJ o u T ra ga σ1 a3 12 a1 _ H.size hok) mi_X0_putNamed kw_2_122 rfl rfl ⟨Nat.le_of_ble_eq_true rfl, Nat.le_of_ble_eq_true rfl⟩ hP hD hK hS hA hB cW_39 rfl rfl hl.1 (Nat.le_of_ble_eq_true rfl) ⟨Nat.le_of_ble_eq_true rfl, Nat.le_of_ble_eq_true rfl⟩ dX0_writeExpression_101 (fun σ16 H locs hok hz hP hD hS => ?_)
            refine lv_goto (tgt := 143) hx hb dX0_writeExpression_104 (by decide) ?_
            exact yEndv S hr hlocks hP hD hS (Nat.le_of_ble_eq_true rfl) (Nat.le_of_ble_eq_true rfl) dX0_writeExpression_143 hok
        · have hok := hok.1 c_59
          refine lv_aload_n hx hb dX0_writeExpression_62 rfl (lv_at hl 1 rfl) ?_
          refine lv_iload_n hx hb dX0_writeExpression_63 rfl (lv_at hl 4 rfl) ?_
          refine lv_iconst (v := 1) hx hb dX0_writeExpression_64 (by decide) ?_
          refine lv_aload_n hx hb dX0_writeExpression_65 rfl (lv_at hl 1 rfl) ?_
          refine xg (ci := 0) S inX0 rfl hK hP cW_39 2 (by decide) rfl kw_4_217 rfl dX0_writeExpression_66 ?_
          refine xg (ci := 4) S inX4 rfl hK hP cW_20 6 (by decide) rfl kw_4_103 rfl dX0_writeExpression_69 ?_
          refine lv_iload_n hx hb dX0_writeExpression_72 rfl (lv_at hl 2 rfl) ?_
          have h_73 := hok.1
          have hok := hok.2
          refine xiald (t0 := 0) (v := (g σ1 25 a1)) S hK hP cW_25 rfl h_73 rfl dX0_writeExpression_73 ?_
          refine lv_iconst (v := 0) hx hb dX0_writeExpression_74 (by decide) ?_
          refine lv_iload_n hx hb dX0_writeExpression_75 rfl (lv_at hl 2 rfl) ?_
          refine yVv (As := [.int a3, .int 1, .int (g σ1 25 a1), .int 0, .int a1]) (cw := (cW o u cI cZ cJ T)) (ci := 0) S (v_X0_put_39 l D cI cZ cJ o u T ra ga σ1 a3 1 (g σ1 25 a1) 0 a1 _ H.size hok) mi_X0_put kw_2_90 rfl rfl ⟨Nat.le_of_ble_eq_true rfl, Nat.le_of_ble_eq_true rfl⟩ hP hD hK hS hA hB cW_39 rfl rfl hl.1 (Nat.le_of_ble_eq_true rfl) ⟨Nat.le_of_ble_eq_true rfl, Nat.le_of_ble_eq_true rfl⟩ dX0_writeExpression_76 (fun σ17 H locs hok hz hP hD hS => ?_)
          refine lv_goto (tgt := 143) hx hb dX0_writeExpression_79 (by decide) ?_
          exact yEndv S hr hlocks hP hD hS (Nat.le_of_ble_eq_true rfl) (Nat.le_of_ble_eq_true rfl) dX0_writeExpression_143 hok
    · have hok := hok.1 c_20
      refine lv_aload_n hx hb dX0_writeExpression_23 rfl (lv_at hl 1 rfl) ?_
      refine lv_iload_n hx hb dX0_writeExpression_24 rfl (lv_at hl 4 rfl) ?_
      refine lv_iconst (v := 1) hx hb dX0_writeExpression_25 (by decide) ?_
      refine lv_aload_n hx hb dX0_writeExpression_26 rfl (lv_at hl 1 rfl) ?_
      refine xg (ci := 0) S inX0 rfl hK hP cW_39 1 (by decide) rfl kw_4_216 rfl dX0_writeExpression_27 ?_
      refine xg (ci := 5) S inX5 rfl hK hP cW_13 2 (by decide) rfl kw_4_48 rfl dX0_writeExpression_30 ?_
      refine lv_iload_n hx hb dX0_writeExpression_33 rfl (lv_at hl 2 rfl) ?_
      have h_34 := hok.1
      have hok := hok.2
      refine xiald (t0 := 0) (v := (g σ1 15 a1)) S hK hP cW_15 rfl h_34 rfl dX0_writeExpression_34 ?_
      refine lv_iconst (v := 0) hx hb dX0_writeExpression_35 (by decide) ?_
      refine lv_iload_n hx hb dX0_writeExpression_36 rfl (lv_at hl 2 rfl) ?_
      refine yVv (As := [.int a3, .int 1, .int (g σ1 15 a1), .int 0, .int a1]) (cw := (cW o u cI cZ cJ T)) (ci := 0) S (v_X0_put_39 l D cI cZ cJ o u T ra ga σ1 a3 1 (g σ1 15 a1) 0 a1 _ H.size hok) mi_X0_put kw_2_90 rfl rfl ⟨Nat.le_of_ble_eq_true rfl, Nat.le_of_ble_eq_true rfl⟩ hP hD hK hS hA hB cW_39 rfl rfl hl.1 (Nat.le_of_ble_eq_true rfl) ⟨Nat.le_of_ble_eq_true rfl, Nat.le_of_ble_eq_true rfl⟩ dX0_writeExpression_37 (fun σ18 H locs hok hz hP hD hS => ?_)
      refine lv_goto (tgt := 143) hx hb dX0_writeExpression_40 (by decide) ?_
      exact yEndv S hr hlocks hP hD hS (Nat.le_of_ble_eq_true rfl) (Nat.le_of_ble_eq_true rfl) dX0_writeExpression_143 hok

set_option maxHeartbeats 8000000 in
set_option maxRecDepth 100000 in
theorem v_X0_write_39 (l : Launch) (D : va_G) (cI cZ cJ : ClassId) (o : Nat) (u : Nat → Nat) (T : Nat) (ra : Nat → Nat) (ga : SG) (σ : FS) (a1 : Int32) (Φ : FS → Prop) (sz : Nat) (hok : (wp_X0_write 39 σ a1 Φ)) : Met l yX0_write (uW yX0_write cX0_write 4 none) ({ frames := 3, cells := 0, slots := 0, locals := 73 }) (va_Pc [.ref (u 38), .int a1] (aS ra ga D (tyL cI cZ cJ) (cW o u cI cZ cJ T σ) sz)) (yQv Φ D (cW o u cI cZ cJ T) (va_A (cW o u cI cZ cJ T σ) sz)) 0 0 (va_A (cW o u cI cZ cJ T σ) sz) := by
  refine aStart (lv := [(0, .ref (u 38)), (1, .int a1)]) (Qc := fun A => yQv Φ D (cW o u cI cZ cJ T) A) (by decide) (Nat.le_of_ble_eq_true rfl) rfl ?_
  intro p e s m args below meth c ls A H S hr hlocks hnm hl hK hP hD hS hA hB
  have hx := S.1
  have hb := S.2.1
  refine lv_aload_n hx hb dX0_write_0 rfl (lv_at hl 0 rfl) ?_
  refine xg (ci := 0) S inX0 rfl hK hP cW_39 13 (by decide) rfl kw_5_2 rfl dX0_write_1 ?_
  refine lv_iload_n hx hb dX0_write_4 rfl (lv_at hl 1 rfl) ?_
  have h_5 := hok.1
  have hok := hok.2
  refine xiald (t0 := 0) (v := (g σ 48 a1)) S hK hP cW_48 rfl h_5 rfl dX0_write_5 ?_
  refine lv_aload_n hx hb dX0_write_6 rfl (lv_at hl 0 rfl) ?_
  refine xg (ci := 0) S inX0 rfl hK hP cW_39 14 (by decide) rfl kw_5_4 rfl dX0_write_7 ?_
  refine lv_iload_n hx hb dX0_write_10 rfl (lv_at hl 1 rfl) ?_
  have h_11 := hok.1
  have hok := hok.2
  refine xiald (t0 := 0) (v := (g σ 49 a1)) S hK hP cW_49 rfl h_11 rfl dX0_write_11 ?_
  refine xiadd (v := (g σ 48 a1) + (g σ 49 a1)) S dX0_write_12 rfl ?_
  refine lv_iconst (v := 1) hx hb dX0_write_13 (by decide) ?_
  refine xisub (v := ((g σ 48 a1) + (g σ 49 a1)) - 1) S dX0_write_14 rfl ?_
  refine lv_topi (fun x1 ex1 => ?_)
  have hok := hok x1 ex1
  refine lv_istore_n (lv' := [(2, .int x1), (0, .ref (u 38)), (1, .int a1)]) hx hb dX0_write_15 rfl hl (by decide) rfl (fun ls hl => ?_)
  refine lv_aload_n hx hb dX0_write_16 rfl (lv_at hl 1 rfl) ?_
  refine xg (ci := 0) S inX0 rfl hK hP cW_39 16 (by decide) rfl kw_5_8 rfl dX0_write_17 ?_
  refine lv_iload_n hx hb dX0_write_20 rfl (lv_at hl 2 rfl) ?_
  have h_21 := hok.1
  have hok := hok.2
  refine xzald (t0 := 1) (v := (g σ 51 a1)) S hK hP cW_51 rfl h_21 rfl dX0_write_21 ?_
  refine lv_if_eq (tgt := 26) hx hb dX0_write_22 (by decide) (fun c_22 => ?_) (fun c_22 => ?_)
  · have hok := hok.1 c_22
    refine lv_aload_n hx hb dX0_write_26 rfl (lv_at hl 1 rfl) ?_
    refine lv_iload_n hx hb dX0_write_27 rfl (lv_at hl 2 rfl) ?_
    refine yVi (As := [.int a1]) (cw := (cW o u cI cZ cJ T)) (ci := 0) S (v_X0_isPushed_39 l D cI cZ cJ o u T ra ga σ a1 _ H.size hok) mi_X0_isPushed kw_2_62 rfl rfl ⟨Nat.le_of_ble_eq_true rfl, Nat.le_of_ble_eq_true rfl⟩ hP hD hK hS hA hB cW_39 rfl rfl hl.1 (Nat.le_of_ble_eq_true rfl) ⟨Nat.le_of_ble_eq_true rfl, Nat.le_of_ble_eq_true rfl⟩ dX0_write_28 (fun x3 σ2 H locs hok hz hP hD hS => ?_)
    refine lv_if_eq (tgt := 52) hx hb dX0_write_31 (by decide) (fun c_31 => ?_) (fun c_31 => ?_)
    · have hok := hok.1 c_31
      refine lv_aload_n hx hb dX0_write_52 rfl (lv_at hl 1 rfl) ?_
      refine xg (ci := 0) S inX0 rfl hK hP cW_39 1 (by decide) rfl kw_4_216 rfl dX0_write_53 ?_
      refine xg (ci := 5) S inX5 rfl hK hP cW_13 1 (by decide) rfl kw_4_44 rfl dX0_write_56 ?_
      refine lv_iload_n hx hb dX0_write_59 rfl (lv_at hl 2 rfl) ?_
      have h_60 := hok.1
      have hok := hok.2
      refine xiald (t0 := 0) (v := (g σ2 14 a1)) S hK hP cW_14 rfl h_60 rfl dX0_write_60 ?_
      refine lv_topi (fun x4 ex4 => ?_)
      have hok := hok x4 ex4
      refine lv_istore_n (lv' := [(3, .int x4), (2, .int x1), (0, .ref (u 38)), (1, .int a1)]) hx hb dX0_write_61 rfl hl (by decide) rfl (fun ls hl => ?_)
      refine lv_iload_n hx hb dX0_write_62 rfl (lv_at hl 0 rfl) ?_
      refine lv_bipush (v := 7) hx hb dX0_write_63 (by decide) ?_
      refine lv_icmp_gt (tgt := 78) hx hb dX0_write_65 (by decide) (fun c_65 => ?_) (fun c_65 => ?_)
      · have hok := hok.1 c_65
        refine lv_iload_n hx hb dX0_write_78 rfl (lv_at hl 0 rfl) ?_
        refine lv_bipush (v := 11) hx hb dX0_write_79 (by decide) ?_
        refine lv_icmp_gt (tgt := 94) hx hb dX0_write_81 (by decide) (fun c_81 => ?_) (fun c_81 => ?_)
        · have hok := hok.1 c_81
          refine lv_aload_n hx hb dX0_write_94 rfl (lv_at hl 2 rfl) ?_
          refine lv_iload_n hx hb dX0_write_95 rfl (lv_at hl 3 rfl) ?_
          refine lv_iload_n hx hb dX0_write_96 rfl (lv_at hl 0 rfl) ?_
          refine lv_iload_n hx hb dX0_write_97 rfl (lv_at hl 1 rfl) ?_
          refine yVv (As := [.int a1, .int x4, .int x1]) (cw := (cW o u cI cZ cJ T)) (ci := 0) S (v_X0_writeStatement_39 l D cI cZ cJ o u T ra ga σ2 a1 x4 x1 _ H.size hok) mi_X0_writeStatement kw_2_130 rfl rfl ⟨Nat.le_of_ble_eq_true rfl, Nat.le_of_ble_eq_true rfl⟩ hP hD hK hS hA hB cW_39 rfl rfl hl.1 (Nat.le_of_ble_eq_true rfl) ⟨Nat.le_of_ble_eq_true rfl, Nat.le_of_ble_eq_true rfl⟩ dX0_write_98 (fun σ5 H locs hok hz hP hD hS => ?_)
          exact yEndv S hr hlocks hP hD hS (Nat.le_of_ble_eq_true rfl) (Nat.le_of_ble_eq_true rfl) dX0_write_101 hok
        · have hok := hok.2 c_81
          refine lv_aload_n hx hb dX0_write_84 rfl (lv_at hl 2 rfl) ?_
          refine lv_iload_n hx hb dX0_write_85 rfl (lv_at hl 3 rfl) ?_
          refine lv_iload_n hx hb dX0_write_86 rfl (lv_at hl 0 rfl) ?_
          refine lv_iload_n hx hb dX0_write_87 rfl (lv_at hl 1 rfl) ?_
          refine yVv (As := [.int a1, .int x4, .int x1]) (cw := (cW o u cI cZ cJ T)) (ci := 0) S (v_X0_writeCall_39 l D cI cZ cJ o u T ra ga σ2 a1 x4 x1 _ H.size hok) mi_X0_writeCall kw_2_126 rfl rfl ⟨Nat.le_of_ble_eq_true rfl, Nat.le_of_ble_eq_true rfl⟩ hP hD hK hS hA hB cW_39 rfl rfl hl.1 (Nat.le_of_ble_eq_true rfl) ⟨Nat.le_of_ble_eq_true rfl, Nat.le_of_ble_eq_true rfl⟩ dX0_write_88 (fun σ6 H locs hok hz hP hD hS => ?_)
          refine lv_goto (tgt := 101) hx hb dX0_write_91 (by decide) ?_
          exact yEndv S hr hlocks hP hD hS (Nat.le_of_ble_eq_true rfl) (Nat.le_of_ble_eq_true rfl) dX0_write_101 hok
      · have hok := hok.2 c_65
        refine lv_aload_n hx hb dX0_write_68 rfl (lv_at hl 2 rfl) ?_
        refine lv_iload_n hx hb dX0_write_69 rfl (lv_at hl 3 rfl) ?_
        refine lv_iload_n hx hb dX0_write_70 rfl (lv_at hl 0 rfl) ?_
        refine lv_iload_n hx hb dX0_write_71 rfl (lv_at hl 1 rfl) ?_
        refine yVv (As := [.int a1, .int x4, .int x1]) (cw := (cW o u cI cZ cJ T)) (ci := 0) S (v_X0_writeExpression_39 l D cI cZ cJ o u T ra ga σ2 a1 x4 x1 _ H.size hok) mi_X0_writeExpression kw_2_114 rfl rfl ⟨Nat.le_of_ble_eq_true rfl, Nat.le_of_ble_eq_true rfl⟩ hP hD hK hS hA hB cW_39 rfl rfl hl.1 (Nat.le_of_ble_eq_true rfl) ⟨Nat.le_of_ble_eq_true rfl, Nat.le_of_ble_eq_true rfl⟩ dX0_write_72 (fun σ7 H locs hok hz hP hD hS => ?_)
        refine lv_goto (tgt := 101) hx hb dX0_write_75 (by decide) ?_
        exact yEndv S hr hlocks hP hD hS (Nat.le_of_ble_eq_true rfl) (Nat.le_of_ble_eq_true rfl) dX0_write_101 hok
    · have hok := hok.2 c_31
      refine lv_aload_n hx hb dX0_write_34 rfl (lv_at hl 1 rfl) ?_
      refine lv_iload_n hx hb dX0_write_35 rfl (lv_at hl 0 rfl) ?_
      refine lv_iconst (v := 1) hx hb dX0_write_36 (by decide) ?_
      refine lv_aload_n hx hb dX0_write_37 rfl (lv_at hl 1 rfl) ?_
      refine xg (ci := 0) S inX0 rfl hK hP cW_39 2 (by decide) rfl kw_4_217 rfl dX0_write_38 ?_
      refine xg (ci := 4) S inX4 rfl hK hP cW_20 8 (by decide) rfl kw_4_108 rfl dX0_write_41 ?_
      refine lv_iload_n hx hb dX0_write_44 rfl (lv_at hl 2 rfl) ?_
      have h_45 := hok.1
      have hok := hok.2
      refine xiald (t0 := 0) (v := (g σ2 27 a1)) S hK hP cW_27 rfl h_45 rfl dX0_write_45 ?_
      refine lv_iconst (v := 0) hx hb dX0_write_46 (by decide) ?_
      refine lv_iload_n hx hb dX0_write_47 rfl (lv_at hl 2 rfl) ?_
      refine yVv (As := [.int x1, .int 1, .int (g σ2 27 a1), .int 0, .int a1]) (cw := (cW o u cI cZ cJ T)) (ci := 0) S (v_X0_put_39 l D cI cZ cJ o u T ra ga σ2 x1 1 (g σ2 27 a1) 0 a1 _ H.size hok) mi_X0_put kw_2_90 rfl rfl ⟨Nat.le_of_ble_eq_true rfl, Nat.le_of_ble_eq_true rfl⟩ hP hD hK hS hA hB cW_39 rfl rfl hl.1 (Nat.le_of_ble_eq_true rfl) ⟨Nat.le_of_ble_eq_true rfl, Nat.le_of_ble_eq_true rfl⟩ dX0_write_48 (fun σ8 H locs hok hz hP hD hS => ?_)
      exact yEndv S hr hlocks hP hD hS (Nat.le_of_ble_eq_true rfl) (Nat.le_of_ble_eq_true rfl) dX0_write_51 hok
  · have hok := hok.2 c_22
    exact yEndv S hr hlocks hP hD hS (Nat.le_of_ble_eq_true rfl) (Nat.le_of_ble_eq_true rfl) dX0_write_25 hok

set_option maxHeartbeats 8000000 in
set_option maxRecDepth 100000 in
theorem v_X0_layOut_39 (l : Launch) (D : va_G) (cI cZ cJ : ClassId) (o : Nat) (u : Nat → Nat) (T : Nat) (ra : Nat → Nat) (ga : SG) (σ : FS) (a1 : Int32) (Φ : FS → Prop) (sz : Nat) (hok : (wp_X0_layOut 39 σ a1 Φ)) : Met l yX0_layOut (uW yX0_layOut cX0_layOut 3 none) ({ frames := 4, cells := 0, slots := 0, locals := 96 }) (va_Pc [.ref (u 38), .int a1] (aS ra ga D (tyL cI cZ cJ) (cW o u cI cZ cJ T σ) sz)) (yQv Φ D (cW o u cI cZ cJ T) (va_A (cW o u cI cZ cJ T σ) sz)) 0 0 (va_A (cW o u cI cZ cJ T σ) sz) := by
  refine aStart (lv := [(0, .ref (u 38)), (1, .int a1)]) (Qc := fun A => yQv Φ D (cW o u cI cZ cJ T) A) (by decide) (Nat.le_of_ble_eq_true rfl) rfl ?_
  intro p e s m args below meth c ls A H S hr hlocks hnm hl hK hP hD hS hA hB
  have hx := S.1
  have hb := S.2.1
  refine lv_aload_n hx hb dX0_layOut_0 rfl (lv_at hl 0 rfl) ?_
  refine xg (ci := 0) S inX0 rfl hK hP cW_39 3 (by decide) rfl kw_4_218 rfl dX0_layOut_1 ?_
  refine lv_iload_n hx hb dX0_layOut_4 rfl (lv_at hl 1 rfl) ?_
  refine lv_icmp_ne (tgt := 9) hx hb dX0_layOut_5 (by decide) (fun c_5 => ?_) (fun c_5 => ?_)
  · have hok := hok.2 c_5
    refine lv_aload_n hx hb dX0_layOut_9 rfl (lv_at hl 0 rfl) ?_
    refine lv_iload_n hx hb dX0_layOut_10 rfl (lv_at hl 1 rfl) ?_
    refine yp (ci := 0) (v := .int a1) (cw := (cW o u cI cZ cJ T)) S inX0 tyX0 tyX0_ok nmX0 rfl hK hP hD hS cW_39 3 (by decide) kw_4_218 rfl rfl rfl rfl (Nat.le_of_ble_eq_true rfl) dX0_layOut_11 cWp_39_3 (fun σ1 H locs eσ1 hP hD hS => ?_)
    have hok := hok σ1 eσ1
    refine lv_iconst (v := 0) hx hb dX0_layOut_14 (by decide) ?_
    refine lv_istore_n (lv' := [(2, .int 0), (0, .ref (u 38)), (1, .int a1)]) hx hb dX0_layOut_15 rfl hl (by decide) rfl (fun ls hl => ?_)
    have lp16 : ∀ (K : FS → Int32 → Prop), (∀ (τ0 : FS) (l2_0 : Int32) (H : Heap) (locs : List Loc) (ls : Array Slot), K τ0 l2_0 → lv_has ls 3 [(2, .int l2_0), (0, .ref (u 38)), (1, .int a1)] → va_P D vwCl (cW o u cI cZ cJ T τ0) H → va_D A (cW o u cI cZ cJ T τ0) → va_S A s.heap H locs → W p l e ({ frames := 4, cells := 0, slots := 0, locals := 96 }) s m args below meth c H locs 0 0 (MQ below (yQv Φ D (cW o u cI cZ cJ T) A) args s 0 0 A) (F0 m 102 ls [])) → ∀ (n0 : Nat) (τ0 : FS) (l2_0 : Int32) (H : Heap) (locs : List Loc) (ls : Array Slot), wp_X0_layOut_16 39 a1 Φ K n0 τ0 l2_0 → lv_has ls 3 [(2, .int l2_0), (0, .ref (u 38)), (1, .int a1)] → va_P D vwCl (cW o u cI cZ cJ T τ0) H → va_D A (cW o u cI cZ cJ T τ0) → va_S A s.heap H locs → W p l e ({ frames := 4, cells := 0, slots := 0, locals := 96 }) s m args below meth c H locs 0 0 (MQ below (yQv Φ D (cW o u cI cZ cJ T) A) args s 0 0 A) (F0 m 16 ls []) := by
      intro K hk n0
      induction n0 with
      | zero => intro τ0 l2_0 H locs ls hok; exact False.elim hok
      | succ n0 ih16 =>
        intro τ0 l2_0 H locs ls hok hl hP hD hS
        refine lv_iload_n hx hb dX0_layOut_16 rfl (lv_at hl 0 rfl) ?_
        refine lv_aload_n hx hb dX0_layOut_17 rfl (lv_at hl 1 rfl) ?_
        refine xg (ci := 0) S inX0 rfl hK hP cW_39 1 (by decide) rfl kw_4_216 rfl dX0_layOut_18 ?_
        refine xg (ci := 5) S inX5 rfl hK hP cW_13 0 (by decide) rfl kw_4_39 rfl dX0_layOut_21 ?_
        refine lv_icmp_ge (tgt := 102) hx hb dX0_layOut_24 (by decide) (fun c_24 => ?_) (fun c_24 => ?_)
        · have hok := hok.1 c_24
          exact hk τ0 l2_0 H locs ls hok (lv_sub hl [0, 1, 2] rfl) hP hD hS
        · have hok := hok.2 c_24
          refine lv_aload_n hx hb dX0_layOut_27 rfl (lv_at hl 1 rfl) ?_
          refine xg (ci := 0) S inX0 rfl hK hP cW_39 14 (by decide) rfl kw_5_4 rfl dX0_layOut_28 ?_
          refine lv_iload_n hx hb dX0_layOut_31 rfl (lv_at hl 0 rfl) ?_
          refine lv_aload_n hx hb dX0_layOut_32 rfl (lv_at hl 1 rfl) ?_
          refine lv_iload_n hx hb dX0_layOut_33 rfl (lv_at hl 0 rfl) ?_
          refine yVi (As := [.int l2_0]) (cw := (cW o u cI cZ cJ T)) (ci := 0) S (v_X0_isPushed_39 l D cI cZ cJ o u T ra ga τ0 l2_0 _ H.size hok) mi_X0_isPushed kw_2_62 rfl rfl ⟨Nat.le_of_ble_eq_true rfl, Nat.le_of_ble_eq_true rfl⟩ hP hD hK hS hA hB cW_39 rfl rfl hl.1 (Nat.le_of_ble_eq_true rfl) ⟨Nat.le_of_ble_eq_true rfl, Nat.le_of_ble_eq_true rfl⟩ dX0_layOut_34 (fun x3 σ2 H locs hok hz hP hD hS => ?_)
          refine lv_if_eq (tgt := 44) hx hb dX0_layOut_37 (by decide) (fun c_37 => ?_) (fun c_37 => ?_)
          · have hok := hok.1 c_37
            refine lv_aload_n hx hb dX0_layOut_44 rfl (lv_at hl 1 rfl) ?_
            refine lv_aload_n hx hb dX0_layOut_45 rfl (lv_at hl 1 rfl) ?_
            refine xg (ci := 0) S inX0 rfl hK hP cW_39 1 (by decide) rfl kw_4_216 rfl dX0_layOut_46 ?_
            refine lv_iload_n hx hb dX0_layOut_49 rfl (lv_at hl 0 rfl) ?_
            refine yVi (As := [.int l2_0]) (cw := (cW o u cI cZ cJ T)) (ci := 5) S (v_X5_partA l D cI cZ cJ o u T ra ga σ2 l2_0 _ H.size hok) mi_X5_partA kw_2_67 rfl rfl ⟨Nat.le_of_ble_eq_true rfl, Nat.le_of_ble_eq_true rfl⟩ hP hD hK hS hA hB cW_13 rfl rfl hl.1 (Nat.le_of_ble_eq_true rfl) ⟨Nat.le_of_ble_eq_true rfl, Nat.le_of_ble_eq_true rfl⟩ dX0_layOut_50 (fun x5 σ4 H locs hok hz hP hD hS => ?_)
            refine yVi (As := [.int x5]) (cw := (cW o u cI cZ cJ T)) (ci := 0) S (v_X0_lengthOfPart_39 l D cI cZ cJ o u T ra ga σ4 x5 _ H.size hok) mi_X0_lengthOfPart kw_2_68 rfl rfl ⟨Nat.le_of_ble_eq_true rfl, Nat.le_of_ble_eq_true rfl⟩ hP hD hK hS hA hB cW_39 rfl rfl hl.1 (Nat.le_of_ble_eq_true rfl) ⟨Nat.le_of_ble_eq_true rfl, Nat.le_of_ble_eq_true rfl⟩ dX0_layOut_53 (fun x7 σ6 H locs hok hz hP hD hS => ?_)
            refine lv_aload_n hx hb dX0_layOut_56 rfl (lv_at hl 1 rfl) ?_
            refine lv_aload_n hx hb dX0_layOut_57 rfl (lv_at hl 1 rfl) ?_
            refine xg (ci := 0) S inX0 rfl hK hP cW_39 1 (by decide) rfl kw_4_216 rfl dX0_layOut_58 ?_
            refine lv_iload_n hx hb dX0_layOut_61 rfl (lv_at hl 0 rfl) ?_
            refine yVi (As := [.int l2_0]) (cw := (cW o u cI cZ cJ T)) (ci := 5) S (v_X5_partB l D cI cZ cJ o u T ra ga σ6 l2_0 _ H.size hok) mi_X5_partB kw_2_72 rfl rfl ⟨Nat.le_of_ble_eq_true rfl, Nat.le_of_ble_eq_true rfl⟩ hP hD hK hS hA hB cW_13 rfl rfl hl.1 (Nat.le_of_ble_eq_true rfl) ⟨Nat.le_of_ble_eq_true rfl, Nat.le_of_ble_eq_true rfl⟩ dX0_layOut_62 (fun x9 σ8 H locs hok hz hP hD hS => ?_)
            refine yVi (As := [.int x9]) (cw := (cW o u cI cZ cJ T)) (ci := 0) S (v_X0_lengthOfPart_39 l D cI cZ cJ o u T ra ga σ8 x9 _ H.size hok) mi_X0_lengthOfPart kw_2_68 rfl rfl ⟨Nat.le_of_ble_eq_true rfl, Nat.le_of_ble_eq_true rfl⟩ hP hD hK hS hA hB cW_39 rfl rfl hl.1 (Nat.le_of_ble_eq_true rfl) ⟨Nat.le_of_ble_eq_true rfl, Nat.le_of_ble_eq_true rfl⟩ dX0_layOut_65 (fun x11 σ10 H locs hok hz hP hD hS => ?_)
            refine xiadd (v := x7 + x11) S dX0_layOut_68 rfl ?_
            refine lv_aload_n hx hb dX0_layOut_69 rfl (lv_at hl 1 rfl) ?_
            refine lv_aload_n hx hb dX0_layOut_70 rfl (lv_at hl 1 rfl) ?_
            refine xg (ci := 0) S inX0 rfl hK hP cW_39 1 (by decide) rfl kw_4_216 rfl dX0_layOut_71 ?_
            refine lv_iload_n hx hb dX0_layOut_74 rfl (lv_at hl 0 rfl) ?_
            refine yVi (As := [.int l2_0]) (cw := (cW o u cI cZ cJ T)) (ci := 5) S (v_X5_partC l D cI cZ cJ o u T ra ga σ10 l2_0 _ H.size hok) mi_X5_partC kw_2_73 rfl rfl ⟨Nat.le_of_ble_eq_true rfl, Nat.le_of_ble_eq_true rfl⟩ hP hD hK hS hA hB cW_13 rfl rfl hl.1 (Nat.le_of_ble_eq_true rfl) ⟨Nat.le_of_ble_eq_true rfl, Nat.le_of_ble_eq_true rfl⟩ dX0_layOut_75 (fun x13 σ12 H locs hok hz hP hD hS => ?_)
            refine yVi (As := [.int x13]) (cw := (cW o u cI cZ cJ T)) (ci := 0) S (v_X0_lengthOfPart_39 l D cI cZ cJ o u T ra ga σ12 x13 _ H.size hok) mi_X0_lengthOfPart kw_2_68 rfl rfl ⟨Nat.le_of_ble_eq_true rfl, Nat.le_of_ble_eq_true rfl⟩ hP hD hK hS hA hB cW_39 rfl rfl hl.1 (Nat.le_of_ble_eq_true rfl) ⟨Nat.le_of_ble_eq_true rfl, Nat.le_of_ble_eq_true rfl⟩ dX0_layOut_78 (fun x15 σ14 H locs hok hz hP hD hS => ?_)
            refine xiadd (v := (x7 + x11) + x15) S dX0_layOut_81 rfl ?_
            refine lv_aload_n hx hb dX0_layOut_82 rfl (lv_at hl 1 rfl) ?_
            refine lv_iload_n hx hb dX0_layOut_83 rfl (lv_at hl 0 rfl) ?_
            refine yVi (As := [.int l2_0]) (cw := (cW o u cI cZ cJ T)) (ci := 0) S (v_X0_ownLength_39 l D cI cZ cJ o u T ra ga σ14 l2_0 _ H.size hok) mi_X0_ownLength kw_2_74 rfl rfl ⟨Nat.le_of_ble_eq_true rfl, Nat.le_of_ble_eq_true rfl⟩ hP hD hK hS hA hB cW_39 rfl rfl hl.1 (Nat.le_of_ble_eq_true rfl) ⟨Nat.le_of_ble_eq_true rfl, Nat.le_of_ble_eq_true rfl⟩ dX0_layOut_84 (fun x17 σ16 H locs hok hz hP hD hS => ?_)
            refine xiadd (v := ((x7 + x11) + x15) + x17) S dX0_layOut_87 rfl ?_
            have h_88 := hok.1
            have hok := hok.2
            refine yiast (t0 := 0) (cw := (cW o u cI cZ cJ T)) S hK hP hD hS cW_49 rfl h_88 dX0_layOut_88 cWa_49 (fun σ18 H locs eσ18 hP hD hS => ?_)
            have hok := hok σ18 eσ18
            refine lv_aload_n hx hb dX0_layOut_89 rfl (lv_at hl 1 rfl) ?_
            refine xg (ci := 0) S inX0 rfl hK hP cW_39 16 (by decide) rfl kw_5_8 rfl dX0_layOut_90 ?_
            refine lv_iload_n hx hb dX0_layOut_93 rfl (lv_at hl 0 rfl) ?_
            refine lv_iconst (v := 0) hx hb dX0_layOut_94 (by decide) ?_
            have h_95 := hok.1
            have hok := hok.2
            refine yzast (t0 := 1) (cw := (cW o u cI cZ cJ T)) S hK hP hD hS cW_51 rfl h_95 dX0_layOut_95 (cWa_51 (Or.inl rfl)) (fun σ19 H locs eσ19 hP hD hS => ?_)
            have hok := hok σ19 eσ19
            refine lv_iinc (v := l2_0 + 1) (lv' := [(2, .int (l2_0 + 1)), (0, .ref (u 38)), (1, .int a1)]) hx hb dX0_layOut_96 hl (k := 0) rfl rfl (by decide) rfl (fun ls hl => ?_)
            refine lv_goto (tgt := 16) hx hb dX0_layOut_99 (by decide) ?_
            exact ih16 σ19 (l2_0 + 1) H locs ls hok (lv_sub hl [0, 1, 2] rfl) hP hD hS
          · have hok := hok.2 c_37
            refine lv_iconst (v := 1) hx hb dX0_layOut_40 (by decide) ?_
            refine lv_goto (tgt := 88) hx hb dX0_layOut_41 (by decide) ?_
            have h_88 := hok.1
            have hok := hok.2
            refine yiast (t0 := 0) (cw := (cW o u cI cZ cJ T)) S hK hP hD hS cW_49 rfl h_88 dX0_layOut_88 cWa_49 (fun σ20 H locs eσ20 hP hD hS => ?_)
            have hok := hok σ20 eσ20
            refine lv_aload_n hx hb dX0_layOut_89 rfl (lv_at hl 1 rfl) ?_
            refine xg (ci := 0) S inX0 rfl hK hP cW_39 16 (by decide) rfl kw_5_8 rfl dX0_layOut_90 ?_
            refine lv_iload_n hx hb dX0_layOut_93 rfl (lv_at hl 0 rfl) ?_
            refine lv_iconst (v := 0) hx hb dX0_layOut_94 (by decide) ?_
            have h_95 := hok.1
            have hok := hok.2
            refine yzast (t0 := 1) (cw := (cW o u cI cZ cJ T)) S hK hP hD hS cW_51 rfl h_95 dX0_layOut_95 (cWa_51 (Or.inl rfl)) (fun σ21 H locs eσ21 hP hD hS => ?_)
            have hok := hok σ21 eσ21
            refine lv_iinc (v := l2_0 + 1) (lv' := [(2, .int (l2_0 + 1)), (0, .ref (u 38)), (1, .int a1)]) hx hb dX0_layOut_96 hl (k := 0) rfl rfl (by decide) rfl (fun ls hl => ?_)
            refine lv_goto (tgt := 16) hx hb dX0_layOut_99 (by decide) ?_
            exact ih16 σ21 (l2_0 + 1) H locs ls hok (lv_sub hl [0, 1, 2] rfl) hP hD hS
    refine lp16 _ ?_ FUEL σ1 0 _ _ _ hok (lv_sub hl [0, 1, 2] rfl) hP hD hS
    intro σ22 x23 H locs ls hok hl hP hD hS
    refine lv_aload_n hx hb dX0_layOut_102 rfl (lv_at hl 1 rfl) ?_
    refine yVv (As := []) (cw := (cW o u cI cZ cJ T)) (ci := 0) S (v_X0_placeProcedures_39 l D cI cZ cJ o u T ra ga σ22 _ H.size hok) mi_X0_placeProcedures kw_2_82 rfl rfl ⟨Nat.le_of_ble_eq_true rfl, Nat.le_of_ble_eq_true rfl⟩ hP hD hK hS hA hB cW_39 rfl rfl hl.1 (Nat.le_of_ble_eq_true rfl) ⟨Nat.le_of_ble_eq_true rfl, Nat.le_of_ble_eq_true rfl⟩ dX0_layOut_103 (fun σ24 H locs hok hz hP hD hS => ?_)
    refine lv_aload_n hx hb dX0_layOut_106 rfl (lv_at hl 1 rfl) ?_
    refine xg (ci := 0) S inX0 rfl hK hP cW_39 1 (by decide) rfl kw_4_216 rfl dX0_layOut_107 ?_
    refine xg (ci := 5) S inX5 rfl hK hP cW_13 0 (by decide) rfl kw_4_39 rfl dX0_layOut_110 ?_
    refine lv_iconst (v := 1) hx hb dX0_layOut_113 (by decide) ?_
    refine xisub (v := (σ24.1 13 0) - 1) S dX0_layOut_114 rfl ?_
    refine lv_topi (fun x25 ex25 => ?_)
    have hok := hok x25 ex25
    refine lv_istore_n (lv' := [(2, .int x25), (0, .ref (u 38)), (1, .int a1)]) hx hb dX0_layOut_115 rfl hl (by decide) rfl (fun ls hl => ?_)
    have lp116 : ∀ (K : FS → Int32 → Prop), (∀ (τ0 : FS) (l2_0 : Int32) (H : Heap) (locs : List Loc) (ls : Array Slot), K τ0 l2_0 → lv_has ls 3 [(2, .int l2_0), (0, .ref (u 38)), (1, .int a1)] → va_P D vwCl (cW o u cI cZ cJ T τ0) H → va_D A (cW o u cI cZ cJ T τ0) → va_S A s.heap H locs → W p l e ({ frames := 4, cells := 0, slots := 0, locals := 96 }) s m args below meth c H locs 0 0 (MQ below (yQv Φ D (cW o u cI cZ cJ T) A) args s 0 0 A) (F0 m 144 ls [])) → ∀ (n0 : Nat) (τ0 : FS) (l2_0 : Int32) (H : Heap) (locs : List Loc) (ls : Array Slot), wp_X0_layOut_116 39 a1 Φ K n0 τ0 l2_0 → lv_has ls 3 [(2, .int l2_0), (0, .ref (u 38)), (1, .int a1)] → va_P D vwCl (cW o u cI cZ cJ T τ0) H → va_D A (cW o u cI cZ cJ T τ0) → va_S A s.heap H locs → W p l e ({ frames := 4, cells := 0, slots := 0, locals := 96 }) s m args below meth c H locs 0 0 (MQ below (yQv Φ D (cW o u cI cZ cJ T) A) args s 0 0 A) (F0 m 116 ls []) := by
      intro K hk n0
      induction n0 with
      | zero => intro τ0 l2_0 H locs ls hok; exact False.elim hok
      | succ n0 ih116 =>
        intro τ0 l2_0 H locs ls hok hl hP hD hS
        refine lv_iload_n hx hb dX0_layOut_116 rfl (lv_at hl 0 rfl) ?_
        refine lv_if_lt (tgt := 144) hx hb dX0_layOut_117 (by decide) (fun c_117 => ?_) (fun c_117 => ?_)
        · have hok := hok.1 c_117
          exact hk τ0 l2_0 H locs ls hok (lv_sub hl [0, 1, 2] rfl) hP hD hS
        · have hok := hok.2 c_117
          refine lv_aload_n hx hb dX0_layOut_120 rfl (lv_at hl 1 rfl) ?_
          refine xg (ci := 0) S inX0 rfl hK hP cW_39 2 (by decide) rfl kw_4_217 rfl dX0_layOut_121 ?_
          refine xg (ci := 4) S inX4 rfl hK hP cW_20 2 (by decide) rfl kw_4_90 rfl dX0_layOut_124 ?_
          refine lv_iload_n hx hb dX0_layOut_127 rfl (lv_at hl 0 rfl) ?_
          have h_128 := hok.1
          have hok := hok.2
          refine xiald (t0 := 0) (v := (g τ0 21 l2_0)) S hK hP cW_21 rfl h_128 rfl dX0_layOut_128 ?_
          refine lv_iconst (v := (-1)) hx hb dX0_layOut_129 (by decide) ?_
          refine lv_icmp_eq (tgt := 138) hx hb dX0_layOut_130 (by decide) (fun c_130 => ?_) (fun c_130 => ?_)
          · have hok := hok.1 c_130
            refine lv_iinc (v := l2_0 + (-1)) (lv' := [(2, .int (l2_0 + (-1))), (0, .ref (u 38)), (1, .int a1)]) hx hb dX0_layOut_138 hl (k := 0) rfl rfl (by decide) rfl (fun ls hl => ?_)
            refine lv_goto (tgt := 116) hx hb dX0_layOut_141 (by decide) ?_
            exact ih116 τ0 (l2_0 + (-1)) H locs ls hok (lv_sub hl [0, 1, 2] rfl) hP hD hS
          · have hok := hok.2 c_130
            refine lv_aload_n hx hb dX0_layOut_133 rfl (lv_at hl 1 rfl) ?_
            refine lv_iload_n hx hb dX0_layOut_134 rfl (lv_at hl 0 rfl) ?_
            refine yVv (As := [.int l2_0]) (cw := (cW o u cI cZ cJ T)) (ci := 0) S (v_X0_placeParts_39 l D cI cZ cJ o u T ra ga τ0 l2_0 _ H.size hok) mi_X0_placeParts kw_2_94 rfl rfl ⟨Nat.le_of_ble_eq_true rfl, Nat.le_of_ble_eq_true rfl⟩ hP hD hK hS hA hB cW_39 rfl rfl hl.1 (Nat.le_of_ble_eq_true rfl) ⟨Nat.le_of_ble_eq_true rfl, Nat.le_of_ble_eq_true rfl⟩ dX0_layOut_135 (fun σ26 H locs hok hz hP hD hS => ?_)
            refine lv_iinc (v := l2_0 + (-1)) (lv' := [(2, .int (l2_0 + (-1))), (0, .ref (u 38)), (1, .int a1)]) hx hb dX0_layOut_138 hl (k := 0) rfl rfl (by decide) rfl (fun ls hl => ?_)
            refine lv_goto (tgt := 116) hx hb dX0_layOut_141 (by decide) ?_
            exact ih116 σ26 (l2_0 + (-1)) H locs ls hok (lv_sub hl [0, 1, 2] rfl) hP hD hS
    refine lp116 _ ?_ FUEL σ24 x25 _ _ _ hok (lv_sub hl [0, 1, 2] rfl) hP hD hS
    intro σ27 x28 H locs ls hok hl hP hD hS
    refine lv_iconst (v := 0) hx hb dX0_layOut_144 (by decide) ?_
    refine lv_istore_n (lv' := [(2, .int 0), (0, .ref (u 38)), (1, .int a1)]) hx hb dX0_layOut_145 rfl hl (by decide) rfl (fun ls hl => ?_)
    have lp146 : ∀ (K : FS → Int32 → Prop), (∀ (τ0 : FS) (l2_0 : Int32) (H : Heap) (locs : List Loc) (ls : Array Slot), K τ0 l2_0 → lv_has ls 3 [(2, .int l2_0), (0, .ref (u 38)), (1, .int a1)] → va_P D vwCl (cW o u cI cZ cJ T τ0) H → va_D A (cW o u cI cZ cJ T τ0) → va_S A s.heap H locs → W p l e ({ frames := 4, cells := 0, slots := 0, locals := 96 }) s m args below meth c H locs 0 0 (MQ below (yQv Φ D (cW o u cI cZ cJ T) A) args s 0 0 A) (F0 m 186 ls [])) → ∀ (n0 : Nat) (τ0 : FS) (l2_0 : Int32) (H : Heap) (locs : List Loc) (ls : Array Slot), wp_X0_layOut_146 39 a1 Φ K n0 τ0 l2_0 → lv_has ls 3 [(2, .int l2_0), (0, .ref (u 38)), (1, .int a1)] → va_P D vwCl (cW o u cI cZ cJ T τ0) H → va_D A (cW o u cI cZ cJ T τ0) → va_S A s.heap H locs → W p l e ({ frames := 4, cells := 0, slots := 0, locals := 96 }) s m args below meth c H locs 0 0 (MQ below (yQv Φ D (cW o u cI cZ cJ T) A) args s 0 0 A) (F0 m 146 ls []) := by
      intro K hk n0
      induction n0 with
      | zero => intro τ0 l2_0 H locs ls hok; exact False.elim hok
      | succ n0 ih146 =>
        intro τ0 l2_0 H locs ls hok hl hP hD hS
        refine lv_iload_n hx hb dX0_layOut_146 rfl (lv_at hl 0 rfl) ?_
        refine lv_aload_n hx hb dX0_layOut_147 rfl (lv_at hl 1 rfl) ?_
        refine xg (ci := 0) S inX0 rfl hK hP cW_39 1 (by decide) rfl kw_4_216 rfl dX0_layOut_148 ?_
        refine xg (ci := 5) S inX5 rfl hK hP cW_13 0 (by decide) rfl kw_4_39 rfl dX0_layOut_151 ?_
        refine lv_icmp_ge (tgt := 186) hx hb dX0_layOut_154 (by decide) (fun c_154 => ?_) (fun c_154 => ?_)
        · have hok := hok.1 c_154
          exact hk τ0 l2_0 H locs ls hok (lv_sub hl [0, 1, 2] rfl) hP hD hS
        · have hok := hok.2 c_154
          refine lv_aload_n hx hb dX0_layOut_157 rfl (lv_at hl 1 rfl) ?_
          refine xg (ci := 0) S inX0 rfl hK hP cW_39 2 (by decide) rfl kw_4_217 rfl dX0_layOut_158 ?_
          refine xg (ci := 4) S inX4 rfl hK hP cW_20 2 (by decide) rfl kw_4_90 rfl dX0_layOut_161 ?_
          refine lv_iload_n hx hb dX0_layOut_164 rfl (lv_at hl 0 rfl) ?_
          have h_165 := hok.1
          have hok := hok.2
          refine xiald (t0 := 0) (v := (g τ0 21 l2_0)) S hK hP cW_21 rfl h_165 rfl dX0_layOut_165 ?_
          refine lv_iconst (v := (-1)) hx hb dX0_layOut_166 (by decide) ?_
          refine lv_icmp_eq (tgt := 180) hx hb dX0_layOut_167 (by decide) (fun c_167 => ?_) (fun c_167 => ?_)
          · have hok := hok.1 c_167
            refine lv_iinc (v := l2_0 + 1) (lv' := [(2, .int (l2_0 + 1)), (0, .ref (u 38)), (1, .int a1)]) hx hb dX0_layOut_180 hl (k := 0) rfl rfl (by decide) rfl (fun ls hl => ?_)
            refine lv_goto (tgt := 146) hx hb dX0_layOut_183 (by decide) ?_
            exact ih146 τ0 (l2_0 + 1) H locs ls hok (lv_sub hl [0, 1, 2] rfl) hP hD hS
          · have hok := hok.2 c_167
            refine lv_aload_n hx hb dX0_layOut_170 rfl (lv_at hl 1 rfl) ?_
            refine lv_iload_n hx hb dX0_layOut_171 rfl (lv_at hl 0 rfl) ?_
            refine yVv (As := [.int l2_0]) (cw := (cW o u cI cZ cJ T)) (ci := 0) S (v_X0_noteBegin_39 l D cI cZ cJ o u T ra ga τ0 l2_0 _ H.size hok) mi_X0_noteBegin kw_2_106 rfl rfl ⟨Nat.le_of_ble_eq_true rfl, Nat.le_of_ble_eq_true rfl⟩ hP hD hK hS hA hB cW_39 rfl rfl hl.1 (Nat.le_of_ble_eq_true rfl) ⟨Nat.le_of_ble_eq_true rfl, Nat.le_of_ble_eq_true rfl⟩ dX0_layOut_172 (fun σ29 H locs hok hz hP hD hS => ?_)
            refine lv_aload_n hx hb dX0_layOut_175 rfl (lv_at hl 1 rfl) ?_
            refine lv_iload_n hx hb dX0_layOut_176 rfl (lv_at hl 0 rfl) ?_
            refine yVv (As := [.int l2_0]) (cw := (cW o u cI cZ cJ T)) (ci := 0) S (v_X0_write_39 l D cI cZ cJ o u T ra ga σ29 l2_0 _ H.size hok) mi_X0_write kw_2_110 rfl rfl ⟨Nat.le_of_ble_eq_true rfl, Nat.le_of_ble_eq_true rfl⟩ hP hD hK hS hA hB cW_39 rfl rfl hl.1 (Nat.le_of_ble_eq_true rfl) ⟨Nat.le_of_ble_eq_true rfl, Nat.le_of_ble_eq_true rfl⟩ dX0_layOut_177 (fun σ30 H locs hok hz hP hD hS => ?_)
            refine lv_iinc (v := l2_0 + 1) (lv' := [(2, .int (l2_0 + 1)), (0, .ref (u 38)), (1, .int a1)]) hx hb dX0_layOut_180 hl (k := 0) rfl rfl (by decide) rfl (fun ls hl => ?_)
            refine lv_goto (tgt := 146) hx hb dX0_layOut_183 (by decide) ?_
            exact ih146 σ30 (l2_0 + 1) H locs ls hok (lv_sub hl [0, 1, 2] rfl) hP hD hS
    refine lp146 _ ?_ FUEL σ27 0 _ _ _ hok (lv_sub hl [0, 1, 2] rfl) hP hD hS
    intro σ31 x32 H locs ls hok hl hP hD hS
    exact yEndv S hr hlocks hP hD hS (Nat.le_of_ble_eq_true rfl) (Nat.le_of_ble_eq_true rfl) dX0_layOut_186 hok
  · have hok := hok.1 c_5
    exact yEndv S hr hlocks hP hD hS (Nat.le_of_ble_eq_true rfl) (Nat.le_of_ble_eq_true rfl) dX0_layOut_8 hok

set_option maxHeartbeats 8000000 in
set_option maxRecDepth 100000 in
theorem v_X8_wholeCodeLength (l : Launch) (D : va_G) (cI cZ cJ : ClassId) (o : Nat) (u : Nat → Nat) (T : Nat) (ra : Nat → Nat) (ga : SG) (σ : FS) (a1 : Int32) (Φ : Int32 → FS → Prop) (sz : Nat) (hok : (wp_X8_wholeCodeLength σ a1 Φ)) : Met l yX8_wholeCodeLength (uW yX8_wholeCodeLength cX8_wholeCodeLength 2 (some .int)) ({ frames := 5, cells := 0, slots := 0, locals := 118 }) (va_Pc [.ref o, .int a1] (aS ra ga D (tyL cI cZ cJ) (cW o u cI cZ cJ T σ) sz)) (yQi Φ D (cW o u cI cZ cJ T) (va_A (cW o u cI cZ cJ T σ) sz)) 0 0 (va_A (cW o u cI cZ cJ T σ) sz) := by
  refine aStart (lv := [(0, .ref o), (1, .int a1)]) (Qc := fun A => yQi Φ D (cW o u cI cZ cJ T) A) (by decide) (Nat.le_of_ble_eq_true rfl) rfl ?_
  intro p e s m args below meth c ls A H S hr hlocks hnm hl hK hP hD hS hA hB
  have hx := S.1
  have hb := S.2.1
  refine lv_aload_n hx hb dX8_wholeCodeLength_0 rfl (lv_at hl 0 rfl) ?_
  refine xg (ci := 8) S inX8 rfl hK hP cW_0 3 (by decide) rfl kw_5_186 rfl dX8_wholeCodeLength_1 ?_
  refine xg (ci := 2) S inX2 rfl hK hP cW_34 3 (by decide) rfl kw_4_182 rfl dX8_wholeCodeLength_4 ?_
  refine lv_if_eq (tgt := 12) hx hb dX8_wholeCodeLength_7 (by decide) (fun c_7 => ?_) (fun c_7 => ?_)
  · have hok := hok.1 c_7
    refine lv_aload_n hx hb dX8_wholeCodeLength_12 rfl (lv_at hl 0 rfl) ?_
    refine xg (ci := 8) S inX8 rfl hK hP cW_0 4 (by decide) rfl kw_5_187 rfl dX8_wholeCodeLength_13 ?_
    refine lv_iload_n hx hb dX8_wholeCodeLength_16 rfl (lv_at hl 1 rfl) ?_
    refine yVv (As := [.int a1]) (cw := (cW o u cI cZ cJ T)) (ci := 0) S (v_X0_layOut_39 l D cI cZ cJ o u T ra ga σ a1 _ H.size hok) mi_X0_layOut kw_2_58 rfl rfl ⟨Nat.le_of_ble_eq_true rfl, Nat.le_of_ble_eq_true rfl⟩ hP hD hK hS hA hB cW_39 rfl rfl hl.1 (Nat.le_of_ble_eq_true rfl) ⟨Nat.le_of_ble_eq_true rfl, Nat.le_of_ble_eq_true rfl⟩ dX8_wholeCodeLength_17 (fun σ1 H locs hok hz hP hD hS => ?_)
    refine lv_aload_n hx hb dX8_wholeCodeLength_20 rfl (lv_at hl 0 rfl) ?_
    refine xg (ci := 8) S inX8 rfl hK hP cW_0 4 (by decide) rfl kw_5_187 rfl dX8_wholeCodeLength_21 ?_
    refine xg (ci := 0) S inX0 rfl hK hP cW_39 4 (by decide) rfl kw_4_221 rfl dX8_wholeCodeLength_24 ?_
    exact yEnd S hr hlocks hP hD hS (Nat.le_of_ble_eq_true rfl) (Nat.le_of_ble_eq_true rfl) dX8_wholeCodeLength_27 hok
  · have hok := hok.2 c_7
    refine lv_iconst (v := 0) hx hb dX8_wholeCodeLength_10 (by decide) ?_
    exact yEnd S hr hlocks hP hD hS (Nat.le_of_ble_eq_true rfl) (Nat.le_of_ble_eq_true rfl) dX8_wholeCodeLength_11 hok

set_option maxHeartbeats 8000000 in
set_option maxRecDepth 100000 in
theorem v_X8_many (l : Launch) (D : va_G) (cI cZ cJ : ClassId) (o : Nat) (u : Nat → Nat) (T : Nat) (ra : Nat → Nat) (ga : SG) (σ : FS) (a1 : Int32) (Φ : Int32 → FS → Prop) (sz : Nat) (hok : (wp_X8_many σ a1 Φ)) : Met l yX8_many (uW yX8_many cX8_many 2 (some .int)) ({ frames := 6, cells := 0, slots := 0, locals := 139 }) (va_Pc [.ref o, .int a1] (aS ra ga D (tyL cI cZ cJ) (cW o u cI cZ cJ T σ) sz)) (yQi Φ D (cW o u cI cZ cJ T) (va_A (cW o u cI cZ cJ T σ) sz)) 0 0 (va_A (cW o u cI cZ cJ T σ) sz) := by
  refine aStart (lv := [(0, .ref o), (1, .int a1)]) (Qc := fun A => yQi Φ D (cW o u cI cZ cJ T) A) (by decide) (Nat.le_of_ble_eq_true rfl) rfl ?_
  intro p e s m args below meth c ls A H S hr hlocks hnm hl hK hP hD hS hA hB
  have hx := S.1
  have hb := S.2.1
  refine lv_iload_n hx hb dX8_many_0 rfl (lv_at hl 1 rfl) ?_
  refine lv_if_lt (tgt := 14) hx hb dX8_many_1 (by decide) (fun c_1 => ?_) (fun c_1 => ?_)
  · have hok := hok.1 c_1
    refine lv_iconst (v := 0) hx hb dX8_many_14 (by decide) ?_
    exact False.elim hok
  · have hok := hok.2 c_1
    refine lv_iload_n hx hb dX8_many_4 rfl (lv_at hl 1 rfl) ?_
    refine lv_bipush (v := 10) hx hb dX8_many_5 (by decide) ?_
    refine lv_icmp_gt (tgt := 14) hx hb dX8_many_7 (by decide) (fun c_7 => ?_) (fun c_7 => ?_)
    · have hok := hok.1 c_7
      refine lv_iconst (v := 0) hx hb dX8_many_14 (by decide) ?_
      exact False.elim hok
    · have hok := hok.2 c_7
      refine lv_iconst (v := 1) hx hb dX8_many_10 (by decide) ?_
      refine lv_goto (tgt := 15) hx hb dX8_many_11 (by decide) ?_
      refine ySv (As := [.int 1]) (cw := (cW o u cI cZ cJ T)) S (v_X8_needArgument l D cI cZ cJ o u T ra ga σ 1 _ H.size hok) ms_X8_needArgument kw_1_104 rfl rfl ⟨Nat.le_of_ble_eq_true rfl, Nat.le_of_ble_eq_true rfl⟩ hP hD hK hS hA hB hl.1 (Nat.le_of_ble_eq_true rfl) ⟨Nat.le_of_ble_eq_true rfl, Nat.le_of_ble_eq_true rfl⟩ dX8_many_15 (fun σ1 H locs hok hz hP hD hS => ?_)
      refine lv_aload_n hx hb dX8_many_18 rfl (lv_at hl 0 rfl) ?_
      refine yVv (As := []) (cw := (cW o u cI cZ cJ T)) (ci := 8) S (v_X8_refresh l D cI cZ cJ o u T ra ga σ1 _ H.size hok) mi_X8_refresh kw_1_123 rfl rfl ⟨Nat.le_of_ble_eq_true rfl, Nat.le_of_ble_eq_true rfl⟩ hP hD hK hS hA hB cW_0 rfl rfl hl.1 (Nat.le_of_ble_eq_true rfl) ⟨Nat.le_of_ble_eq_true rfl, Nat.le_of_ble_eq_true rfl⟩ dX8_many_19 (fun σ2 H locs hok hz hP hD hS => ?_)
      refine lv_iload_n hx hb dX8_many_22 rfl (lv_at hl 1 rfl) ?_
      by_cases k_23_0 : a1 = 0
      · have hok := hok.1 k_23_0
        rw [k_23_0]
        refine lv_tableIn (off := 53) (tgt := 76) hx hb dX8_many_23 (by decide) (by decide) (by decide) (by decide) ?_
        refine lv_aload_n hx hb dX8_many_76 rfl (lv_at hl 0 rfl) ?_
        refine xg (ci := 8) S inX8 rfl hK hP cW_0 0 (by decide) rfl kw_5_183 rfl dX8_many_77 ?_
        refine xg (ci := 1) S inX1 rfl hK hP cW_1 0 (by decide) rfl kw_3_215 rfl dX8_many_80 ?_
        exact yEnd S hr hlocks hP hD hS (Nat.le_of_ble_eq_true rfl) (Nat.le_of_ble_eq_true rfl) dX8_many_83 hok
      · have hok := hok.2 k_23_0
        by_cases k_23_1 : a1 = 1
        · have hok := hok.1 k_23_1
          rw [k_23_1]
          refine lv_tableIn (off := 61) (tgt := 84) hx hb dX8_many_23 (by decide) (by decide) (by decide) (by decide) ?_
          refine lv_aload_n hx hb dX8_many_84 rfl (lv_at hl 0 rfl) ?_
          refine xg (ci := 8) S inX8 rfl hK hP cW_0 1 (by decide) rfl kw_5_184 rfl dX8_many_85 ?_
          refine xg (ci := 5) S inX5 rfl hK hP cW_13 0 (by decide) rfl kw_4_40 rfl dX8_many_88 ?_
          exact yEnd S hr hlocks hP hD hS (Nat.le_of_ble_eq_true rfl) (Nat.le_of_ble_eq_true rfl) dX8_many_91 hok
        · have hok := hok.2 k_23_1
          by_cases k_23_2 : a1 = 2
          · have hok := hok.1 k_23_2
            rw [k_23_2]
            refine lv_tableIn (off := 69) (tgt := 92) hx hb dX8_many_23 (by decide) (by decide) (by decide) (by decide) ?_
            refine lv_aload_n hx hb dX8_many_92 rfl (lv_at hl 0 rfl) ?_
            refine xg (ci := 8) S inX8 rfl hK hP cW_0 2 (by decide) rfl kw_5_185 rfl dX8_many_93 ?_
            refine xg (ci := 4) S inX4 rfl hK hP cW_20 15 (by decide) rfl kw_4_126 rfl dX8_many_96 ?_
            exact yEnd S hr hlocks hP hD hS (Nat.le_of_ble_eq_true rfl) (Nat.le_of_ble_eq_true rfl) dX8_many_99 hok
          · have hok := hok.2 k_23_2
            by_cases k_23_3 : a1 = 3
            · have hok := hok.1 k_23_3
              rw [k_23_3]
              refine lv_tableIn (off := 77) (tgt := 100) hx hb dX8_many_23 (by decide) (by decide) (by decide) (by decide) ?_
              refine lv_aload_n hx hb dX8_many_100 rfl (lv_at hl 0 rfl) ?_
              refine xg (ci := 8) S inX8 rfl hK hP cW_0 3 (by decide) rfl kw_5_186 rfl dX8_many_101 ?_
              refine xg (ci := 2) S inX2 rfl hK hP cW_34 3 (by decide) rfl kw_4_182 rfl dX8_many_104 ?_
              exact yEnd S hr hlocks hP hD hS (Nat.le_of_ble_eq_true rfl) (Nat.le_of_ble_eq_true rfl) dX8_many_107 hok
            · have hok := hok.2 k_23_3
              by_cases k_23_4 : a1 = 4
              · have hok := hok.1 k_23_4
                rw [k_23_4]
                refine lv_tableIn (off := 85) (tgt := 108) hx hb dX8_many_23 (by decide) (by decide) (by decide) (by decide) ?_
                refine lv_aload_n hx hb dX8_many_108 rfl (lv_at hl 0 rfl) ?_
                refine xg (ci := 8) S inX8 rfl hK hP cW_0 2 (by decide) rfl kw_5_185 rfl dX8_many_109 ?_
                refine xg (ci := 4) S inX4 rfl hK hP cW_20 17 (by decide) rfl kw_4_130 rfl dX8_many_112 ?_
                exact yEnd S hr hlocks hP hD hS (Nat.le_of_ble_eq_true rfl) (Nat.le_of_ble_eq_true rfl) dX8_many_115 hok
              · have hok := hok.2 k_23_4
                by_cases k_23_5 : a1 = 5
                · have hok := hok.1 k_23_5
                  rw [k_23_5]
                  refine lv_tableIn (off := 93) (tgt := 116) hx hb dX8_many_23 (by decide) (by decide) (by decide) (by decide) ?_
                  refine lv_aload_n hx hb dX8_many_116 rfl (lv_at hl 0 rfl) ?_
                  refine xg (ci := 8) S inX8 rfl hK hP cW_0 2 (by decide) rfl kw_5_185 rfl dX8_many_117 ?_
                  refine xg (ci := 4) S inX4 rfl hK hP cW_20 16 (by decide) rfl kw_4_128 rfl dX8_many_120 ?_
                  exact yEnd S hr hlocks hP hD hS (Nat.le_of_ble_eq_true rfl) (Nat.le_of_ble_eq_true rfl) dX8_many_123 hok
                · have hok := hok.2 k_23_5
                  by_cases k_23_6 : a1 = 6
                  · have hok := hok.1 k_23_6
                    rw [k_23_6]
                    refine lv_tableIn (off := 101) (tgt := 124) hx hb dX8_many_23 (by decide) (by decide) (by decide) (by decide) ?_
                    refine lv_aload_n hx hb dX8_many_124 rfl (lv_at hl 0 rfl) ?_
                    refine xg (ci := 8) S inX8 rfl hK hP cW_0 2 (by decide) rfl kw_5_185 rfl dX8_many_125 ?_
                    refine xg (ci := 4) S inX4 rfl hK hP cW_20 18 (by decide) rfl kw_4_132 rfl dX8_many_128 ?_
                    exact yEnd S hr hlocks hP hD hS (Nat.le_of_ble_eq_true rfl) (Nat.le_of_ble_eq_true rfl) dX8_many_131 hok
                  · have hok := hok.2 k_23_6
                    by_cases k_23_7 : a1 = 7
                    · have hok := hok.1 k_23_7
                      rw [k_23_7]
                      refine lv_tableIn (off := 109) (tgt := 132) hx hb dX8_many_23 (by decide) (by decide) (by decide) (by decide) ?_
                      refine lv_aload_n hx hb dX8_many_132 rfl (lv_at hl 0 rfl) ?_
                      refine xg (ci := 8) S inX8 rfl hK hP cW_0 10 (by decide) rfl kw_5_193 rfl dX8_many_133 ?_
                      exact yEnd S hr hlocks hP hD hS (Nat.le_of_ble_eq_true rfl) (Nat.le_of_ble_eq_true rfl) dX8_many_136 hok
                    · have hok := hok.2 k_23_7
                      by_cases k_23_8 : a1 = 8
                      · have hok := hok.1 k_23_8
                        rw [k_23_8]
                        refine lv_tableIn (off := 114) (tgt := 137) hx hb dX8_many_23 (by decide) (by decide) (by decide) (by decide) ?_
                        refine lv_aload_n hx hb dX8_many_137 rfl (lv_at hl 0 rfl) ?_
                        refine xg (ci := 8) S inX8 rfl hK hP cW_0 11 (by decide) rfl kw_5_194 rfl dX8_many_138 ?_
                        exact yEnd S hr hlocks hP hD hS (Nat.le_of_ble_eq_true rfl) (Nat.le_of_ble_eq_true rfl) dX8_many_141 hok
                      · have hok := hok.2 k_23_8
                        by_cases k_23_9 : a1 = 9
                        · have hok := hok.1 k_23_9
                          rw [k_23_9]
                          refine lv_tableIn (off := 119) (tgt := 142) hx hb dX8_many_23 (by decide) (by decide) (by decide) (by decide) ?_
                          refine lv_aload_n hx hb dX8_many_142 rfl (lv_at hl 0 rfl) ?_
                          refine xg (ci := 8) S inX8 rfl hK hP cW_0 12 (by decide) rfl kw_5_195 rfl dX8_many_143 ?_
                          exact yEnd S hr hlocks hP hD hS (Nat.le_of_ble_eq_true rfl) (Nat.le_of_ble_eq_true rfl) dX8_many_146 hok
                        · have hok := hok.2 k_23_9
                          have q_23_0 := sw_ni k_23_0 (z := 0) (by decide)
                          have q_23_1 := sw_ni k_23_1 (z := 1) (by decide)
                          have q_23_2 := sw_ni k_23_2 (z := 2) (by decide)
                          have q_23_3 := sw_ni k_23_3 (z := 3) (by decide)
                          have q_23_4 := sw_ni k_23_4 (z := 4) (by decide)
                          have q_23_5 := sw_ni k_23_5 (z := 5) (by decide)
                          have q_23_6 := sw_ni k_23_6 (z := 6) (by decide)
                          have q_23_7 := sw_ni k_23_7 (z := 7) (by decide)
                          have q_23_8 := sw_ni k_23_8 (z := 8) (by decide)
                          have q_23_9 := sw_ni k_23_9 (z := 9) (by decide)
                          refine lv_tableOut (tgt := 147) hx hb dX8_many_23 (by omega) (by decide) ?_
                          refine lv_aload_n hx hb dX8_many_147 rfl (lv_at hl 0 rfl) ?_
                          refine lv_aload_n hx hb dX8_many_148 rfl (lv_at hl 0 rfl) ?_
                          refine xg (ci := 8) S inX8 rfl hK hP cW_0 10 (by decide) rfl kw_5_193 rfl dX8_many_149 ?_
                          refine yVi (As := [.int (σ2.1 0 10)]) (cw := (cW o u cI cZ cJ T)) (ci := 8) S (v_X8_wholeCodeLength l D cI cZ cJ o u T ra ga σ2 (σ2.1 0 10) _ H.size hok) mi_X8_wholeCodeLength kw_3_151 rfl rfl ⟨Nat.le_of_ble_eq_true rfl, Nat.le_of_ble_eq_true rfl⟩ hP hD hK hS hA hB cW_0 rfl rfl hl.1 (Nat.le_of_ble_eq_true rfl) ⟨Nat.le_of_ble_eq_true rfl, Nat.le_of_ble_eq_true rfl⟩ dX8_many_152 (fun x4 σ3 H locs hok hz hP hD hS => ?_)
                          exact yEnd S hr hlocks hP hD hS (Nat.le_of_ble_eq_true rfl) (Nat.le_of_ble_eq_true rfl) dX8_many_155 hok

set_option maxHeartbeats 8000000 in
set_option maxRecDepth 100000 in
theorem v_X1_has (l : Launch) (D : va_G) (cI cZ cJ : ClassId) (o : Nat) (u : Nat → Nat) (T : Nat) (ra : Nat → Nat) (ga : SG) (σ : FS) (a1 : Int32) (Φ : Int32 → FS → Prop) (sz : Nat) (hok : (wp_X1_has σ a1 Φ)) : Met l yX1_has (uW yX1_has cX1_has 2 (some .boolean)) ({ frames := 0, cells := 0, slots := 0, locals := 0 }) (va_Pc [.ref (u 0), .int a1] (aS ra ga D (tyL cI cZ cJ) (cW o u cI cZ cJ T σ) sz)) (yQi Φ D (cW o u cI cZ cJ T) (va_A (cW o u cI cZ cJ T σ) sz)) 0 0 (va_A (cW o u cI cZ cJ T σ) sz) := by
  refine aStart (lv := [(0, .ref (u 0)), (1, .int a1)]) (Qc := fun A => yQi Φ D (cW o u cI cZ cJ T) A) (by decide) (Nat.le_of_ble_eq_true rfl) rfl ?_
  intro p e s m args below meth c ls A H S hr hlocks hnm hl hK hP hD hS hA hB
  have hx := S.1
  have hb := S.2.1
  refine lv_iload_n hx hb dX1_has_0 rfl (lv_at hl 1 rfl) ?_
  refine lv_if_lt (tgt := 16) hx hb dX1_has_1 (by decide) (fun c_1 => ?_) (fun c_1 => ?_)
  · have hok := hok.1 c_1
    refine lv_iconst (v := 0) hx hb dX1_has_16 (by decide) ?_
    exact yEndZ S hr hlocks hP hD hS (Nat.le_of_ble_eq_true rfl) (Nat.le_of_ble_eq_true rfl) dX1_has_17 rfl hok
  · have hok := hok.2 c_1
    refine lv_iload_n hx hb dX1_has_4 rfl (lv_at hl 1 rfl) ?_
    refine lv_aload_n hx hb dX1_has_5 rfl (lv_at hl 0 rfl) ?_
    refine xg (ci := 1) S inX1 rfl hK hP cW_1 0 (by decide) rfl kw_3_212 rfl dX1_has_6 ?_
    refine lv_icmp_ge (tgt := 16) hx hb dX1_has_9 (by decide) (fun c_9 => ?_) (fun c_9 => ?_)
    · have hok := hok.1 c_9
      refine lv_iconst (v := 0) hx hb dX1_has_16 (by decide) ?_
      exact yEndZ S hr hlocks hP hD hS (Nat.le_of_ble_eq_true rfl) (Nat.le_of_ble_eq_true rfl) dX1_has_17 rfl hok
    · have hok := hok.2 c_9
      refine lv_iconst (v := 1) hx hb dX1_has_12 (by decide) ?_
      refine lv_goto (tgt := 17) hx hb dX1_has_13 (by decide) ?_
      exact yEndZ S hr hlocks hP hD hS (Nat.le_of_ble_eq_true rfl) (Nat.le_of_ble_eq_true rfl) dX1_has_17 rfl hok

set_option maxHeartbeats 8000000 in
set_option maxRecDepth 100000 in
theorem v_X8_needProcedure (l : Launch) (D : va_G) (cI cZ cJ : ClassId) (o : Nat) (u : Nat → Nat) (T : Nat) (ra : Nat → Nat) (ga : SG) (σ : FS) (a1 : Int32) (Φ : FS → Prop) (sz : Nat) (hok : (wp_X8_needProcedure σ a1 Φ)) : Met l yX8_needProcedure (uW yX8_needProcedure cX8_needProcedure 2 none) ({ frames := 1, cells := 0, slots := 0, locals := 21 }) (va_Pc [.ref o, .int a1] (aS ra ga D (tyL cI cZ cJ) (cW o u cI cZ cJ T σ) sz)) (yQv Φ D (cW o u cI cZ cJ T) (va_A (cW o u cI cZ cJ T σ) sz)) 0 0 (va_A (cW o u cI cZ cJ T σ) sz) := by
  refine aStart (lv := [(0, .ref o), (1, .int a1)]) (Qc := fun A => yQv Φ D (cW o u cI cZ cJ T) A) (by decide) (Nat.le_of_ble_eq_true rfl) rfl ?_
  intro p e s m args below meth c ls A H S hr hlocks hnm hl hK hP hD hS hA hB
  have hx := S.1
  have hb := S.2.1
  refine lv_aload_n hx hb dX8_needProcedure_0 rfl (lv_at hl 0 rfl) ?_
  refine xg (ci := 8) S inX8 rfl hK hP cW_0 0 (by decide) rfl kw_5_183 rfl dX8_needProcedure_1 ?_
  refine lv_iload_n hx hb dX8_needProcedure_4 rfl (lv_at hl 1 rfl) ?_
  refine yVi (As := [.int a1]) (cw := (cW o u cI cZ cJ T)) (ci := 1) S (v_X1_has l D cI cZ cJ o u T ra ga σ a1 _ H.size hok) mi_X1_has kw_1_30 rfl rfl ⟨Nat.le_of_ble_eq_true rfl, Nat.le_of_ble_eq_true rfl⟩ hP hD hK hS hA hB cW_1 rfl rfl hl.1 (Nat.le_of_ble_eq_true rfl) ⟨Nat.le_of_ble_eq_true rfl, Nat.le_of_ble_eq_true rfl⟩ dX8_needProcedure_5 (fun x2 σ1 H locs hok hz hP hD hS => ?_)
  refine lv_if_ne (tgt := 22) hx hb dX8_needProcedure_8 (by decide) (fun c_8 => ?_) (fun c_8 => ?_)
  · have hok := hok.2 c_8
    exact yEndv S hr hlocks hP hD hS (Nat.le_of_ble_eq_true rfl) (Nat.le_of_ble_eq_true rfl) dX8_needProcedure_22 hok
  · have hok := hok.1 c_8
    exact False.elim hok

set_option maxHeartbeats 8000000 in
set_option maxRecDepth 100000 in
theorem v_X8_codeLength (l : Launch) (D : va_G) (cI cZ cJ : ClassId) (o : Nat) (u : Nat → Nat) (T : Nat) (ra : Nat → Nat) (ga : SG) (σ : FS) (a1 : Int32) (Φ : Int32 → FS → Prop) (sz : Nat) (hok : (wp_X8_codeLength σ a1 Φ)) : Met l yX8_codeLength (uW yX8_codeLength cX8_codeLength 2 (some .int)) ({ frames := 5, cells := 0, slots := 0, locals := 118 }) (va_Pc [.ref o, .int a1] (aS ra ga D (tyL cI cZ cJ) (cW o u cI cZ cJ T σ) sz)) (yQi Φ D (cW o u cI cZ cJ T) (va_A (cW o u cI cZ cJ T σ) sz)) 0 0 (va_A (cW o u cI cZ cJ T σ) sz) := by
  refine aStart (lv := [(0, .ref o), (1, .int a1)]) (Qc := fun A => yQi Φ D (cW o u cI cZ cJ T) A) (by decide) (Nat.le_of_ble_eq_true rfl) rfl ?_
  intro p e s m args below meth c ls A H S hr hlocks hnm hl hK hP hD hS hA hB
  have hx := S.1
  have hb := S.2.1
  refine lv_aload_n hx hb dX8_codeLength_0 rfl (lv_at hl 0 rfl) ?_
  refine xg (ci := 8) S inX8 rfl hK hP cW_0 3 (by decide) rfl kw_5_186 rfl dX8_codeLength_1 ?_
  refine xg (ci := 2) S inX2 rfl hK hP cW_34 3 (by decide) rfl kw_4_182 rfl dX8_codeLength_4 ?_
  refine lv_if_eq (tgt := 12) hx hb dX8_codeLength_7 (by decide) (fun c_7 => ?_) (fun c_7 => ?_)
  · have hok := hok.1 c_7
    refine lv_aload_n hx hb dX8_codeLength_12 rfl (lv_at hl 0 rfl) ?_
    refine xg (ci := 8) S inX8 rfl hK hP cW_0 4 (by decide) rfl kw_5_187 rfl dX8_codeLength_13 ?_
    refine lv_aload_n hx hb dX8_codeLength_16 rfl (lv_at hl 0 rfl) ?_
    refine xg (ci := 8) S inX8 rfl hK hP cW_0 10 (by decide) rfl kw_5_193 rfl dX8_codeLength_17 ?_
    refine yVv (As := [.int (σ.1 0 10)]) (cw := (cW o u cI cZ cJ T)) (ci := 0) S (v_X0_layOut_39 l D cI cZ cJ o u T ra ga σ (σ.1 0 10) _ H.size hok) mi_X0_layOut kw_2_58 rfl rfl ⟨Nat.le_of_ble_eq_true rfl, Nat.le_of_ble_eq_true rfl⟩ hP hD hK hS hA hB cW_39 rfl rfl hl.1 (Nat.le_of_ble_eq_true rfl) ⟨Nat.le_of_ble_eq_true rfl, Nat.le_of_ble_eq_true rfl⟩ dX8_codeLength_20 (fun σ1 H locs hok hz hP hD hS => ?_)
    refine lv_aload_n hx hb dX8_codeLength_23 rfl (lv_at hl 0 rfl) ?_
    refine xg (ci := 8) S inX8 rfl hK hP cW_0 4 (by decide) rfl kw_5_187 rfl dX8_codeLength_24 ?_
    refine xg (ci := 0) S inX0 rfl hK hP cW_39 6 (by decide) rfl kw_4_226 rfl dX8_codeLength_27 ?_
    refine lv_iload_n hx hb dX8_codeLength_30 rfl (lv_at hl 1 rfl) ?_
    have h_31 := hok.1
    have hok := hok.2
    refine xiald (t0 := 0) (v := (g σ1 41 a1)) S hK hP cW_41 rfl h_31 rfl dX8_codeLength_31 ?_
    exact yEnd S hr hlocks hP hD hS (Nat.le_of_ble_eq_true rfl) (Nat.le_of_ble_eq_true rfl) dX8_codeLength_32 hok
  · have hok := hok.2 c_7
    refine lv_iconst (v := 0) hx hb dX8_codeLength_10 (by decide) ?_
    exact yEnd S hr hlocks hP hD hS (Nat.le_of_ble_eq_true rfl) (Nat.le_of_ble_eq_true rfl) dX8_codeLength_11 hok

set_option maxHeartbeats 8000000 in
set_option maxRecDepth 100000 in
theorem v_X8_ofProcedure (l : Launch) (D : va_G) (cI cZ cJ : ClassId) (o : Nat) (u : Nat → Nat) (T : Nat) (ra : Nat → Nat) (ga : SG) (σ : FS) (a1 : Int32) (a2 : Int32) (Φ : Int32 → FS → Prop) (sz : Nat) (hok : (wp_X8_ofProcedure σ a1 a2 Φ)) : Met l yX8_ofProcedure (uW yX8_ofProcedure cX8_ofProcedure 3 (some .int)) ({ frames := 6, cells := 0, slots := 0, locals := 139 }) (va_Pc [.ref o, .int a1, .int a2] (aS ra ga D (tyL cI cZ cJ) (cW o u cI cZ cJ T σ) sz)) (yQi Φ D (cW o u cI cZ cJ T) (va_A (cW o u cI cZ cJ T σ) sz)) 0 0 (va_A (cW o u cI cZ cJ T σ) sz) := by
  refine aStart (lv := [(0, .ref o), (1, .int a1), (2, .int a2)]) (Qc := fun A => yQi Φ D (cW o u cI cZ cJ T) A) (by decide) (Nat.le_of_ble_eq_true rfl) rfl ?_
  intro p e s m args below meth c ls A H S hr hlocks hnm hl hK hP hD hS hA hB
  have hx := S.1
  have hb := S.2.1
  refine lv_aload_n hx hb dX8_ofProcedure_0 rfl (lv_at hl 0 rfl) ?_
  refine lv_iload_n hx hb dX8_ofProcedure_1 rfl (lv_at hl 1 rfl) ?_
  refine yVv (As := [.int a1]) (cw := (cW o u cI cZ cJ T)) (ci := 8) S (v_X8_needProcedure l D cI cZ cJ o u T ra ga σ a1 _ H.size hok) mi_X8_needProcedure kw_1_25 rfl rfl ⟨Nat.le_of_ble_eq_true rfl, Nat.le_of_ble_eq_true rfl⟩ hP hD hK hS hA hB cW_0 rfl rfl hl.1 (Nat.le_of_ble_eq_true rfl) ⟨Nat.le_of_ble_eq_true rfl, Nat.le_of_ble_eq_true rfl⟩ dX8_ofProcedure_2 (fun σ1 H locs hok hz hP hD hS => ?_)
  refine lv_iload_n hx hb dX8_ofProcedure_5 rfl (lv_at hl 2 rfl) ?_
  refine lv_if_lt (tgt := 19) hx hb dX8_ofProcedure_6 (by decide) (fun c_6 => ?_) (fun c_6 => ?_)
  · have hok := hok.1 c_6
    refine lv_iconst (v := 0) hx hb dX8_ofProcedure_19 (by decide) ?_
    exact False.elim hok
  · have hok := hok.2 c_6
    refine lv_iload_n hx hb dX8_ofProcedure_9 rfl (lv_at hl 2 rfl) ?_
    refine lv_bipush (v := 7) hx hb dX8_ofProcedure_10 (by decide) ?_
    refine lv_icmp_gt (tgt := 19) hx hb dX8_ofProcedure_12 (by decide) (fun c_12 => ?_) (fun c_12 => ?_)
    · have hok := hok.1 c_12
      refine lv_iconst (v := 0) hx hb dX8_ofProcedure_19 (by decide) ?_
      exact False.elim hok
    · have hok := hok.2 c_12
      refine lv_iconst (v := 1) hx hb dX8_ofProcedure_15 (by decide) ?_
      refine lv_goto (tgt := 20) hx hb dX8_ofProcedure_16 (by decide) ?_
      refine ySv (As := [.int 1]) (cw := (cW o u cI cZ cJ T)) S (v_X8_needArgument l D cI cZ cJ o u T ra ga σ1 1 _ H.size hok) ms_X8_needArgument kw_1_104 rfl rfl ⟨Nat.le_of_ble_eq_true rfl, Nat.le_of_ble_eq_true rfl⟩ hP hD hK hS hA hB hl.1 (Nat.le_of_ble_eq_true rfl) ⟨Nat.le_of_ble_eq_true rfl, Nat.le_of_ble_eq_true rfl⟩ dX8_ofProcedure_20 (fun σ2 H locs hok hz hP hD hS => ?_)
      refine lv_aload_n hx hb dX8_ofProcedure_23 rfl (lv_at hl 0 rfl) ?_
      refine yVv (As := []) (cw := (cW o u cI cZ cJ T)) (ci := 8) S (v_X8_refresh l D cI cZ cJ o u T ra ga σ2 _ H.size hok) mi_X8_refresh kw_1_123 rfl rfl ⟨Nat.le_of_ble_eq_true rfl, Nat.le_of_ble_eq_true rfl⟩ hP hD hK hS hA hB cW_0 rfl rfl hl.1 (Nat.le_of_ble_eq_true rfl) ⟨Nat.le_of_ble_eq_true rfl, Nat.le_of_ble_eq_true rfl⟩ dX8_ofProcedure_24 (fun σ3 H locs hok hz hP hD hS => ?_)
      refine lv_iload_n hx hb dX8_ofProcedure_27 rfl (lv_at hl 2 rfl) ?_
      by_cases k_28_0 : a2 = 0
      · have hok := hok.1 k_28_0
        rw [k_28_0]
        refine lv_tableIn (off := 44) (tgt := 72) hx hb dX8_ofProcedure_28 (by decide) (by decide) (by decide) (by decide) ?_
        refine lv_aload_n hx hb dX8_ofProcedure_72 rfl (lv_at hl 0 rfl) ?_
        refine xg (ci := 8) S inX8 rfl hK hP cW_0 0 (by decide) rfl kw_5_183 rfl dX8_ofProcedure_73 ?_
        refine xg (ci := 1) S inX1 rfl hK hP cW_1 1 (by decide) rfl kw_3_218 rfl dX8_ofProcedure_76 ?_
        refine lv_iload_n hx hb dX8_ofProcedure_79 rfl (lv_at hl 1 rfl) ?_
        have h_80 := hok.1
        have hok := hok.2
        refine xiald (t0 := 0) (v := (g σ3 2 a1)) S hK hP cW_2 rfl h_80 rfl dX8_ofProcedure_80 ?_
        exact yEnd S hr hlocks hP hD hS (Nat.le_of_ble_eq_true rfl) (Nat.le_of_ble_eq_true rfl) dX8_ofProcedure_81 hok
      · have hok := hok.2 k_28_0
        by_cases k_28_1 : a2 = 1
        · have hok := hok.1 k_28_1
          rw [k_28_1]
          refine lv_tableIn (off := 54) (tgt := 82) hx hb dX8_ofProcedure_28 (by decide) (by decide) (by decide) (by decide) ?_
          refine lv_aload_n hx hb dX8_ofProcedure_82 rfl (lv_at hl 0 rfl) ?_
          refine xg (ci := 8) S inX8 rfl hK hP cW_0 0 (by decide) rfl kw_5_183 rfl dX8_ofProcedure_83 ?_
          refine xg (ci := 1) S inX1 rfl hK hP cW_1 2 (by decide) rfl kw_3_221 rfl dX8_ofProcedure_86 ?_
          refine lv_iload_n hx hb dX8_ofProcedure_89 rfl (lv_at hl 1 rfl) ?_
          have h_90 := hok.1
          have hok := hok.2
          refine xiald (t0 := 0) (v := (g σ3 3 a1)) S hK hP cW_3 rfl h_90 rfl dX8_ofProcedure_90 ?_
          exact yEnd S hr hlocks hP hD hS (Nat.le_of_ble_eq_true rfl) (Nat.le_of_ble_eq_true rfl) dX8_ofProcedure_91 hok
        · have hok := hok.2 k_28_1
          by_cases k_28_2 : a2 = 2
          · have hok := hok.1 k_28_2
            rw [k_28_2]
            refine lv_tableIn (off := 64) (tgt := 92) hx hb dX8_ofProcedure_28 (by decide) (by decide) (by decide) (by decide) ?_
            refine lv_aload_n hx hb dX8_ofProcedure_92 rfl (lv_at hl 0 rfl) ?_
            refine xg (ci := 8) S inX8 rfl hK hP cW_0 0 (by decide) rfl kw_5_183 rfl dX8_ofProcedure_93 ?_
            refine xg (ci := 1) S inX1 rfl hK hP cW_1 3 (by decide) rfl kw_3_223 rfl dX8_ofProcedure_96 ?_
            refine lv_iload_n hx hb dX8_ofProcedure_99 rfl (lv_at hl 1 rfl) ?_
            have h_100 := hok.1
            have hok := hok.2
            refine xiald (t0 := 0) (v := (g σ3 4 a1)) S hK hP cW_4 rfl h_100 rfl dX8_ofProcedure_100 ?_
            exact yEnd S hr hlocks hP hD hS (Nat.le_of_ble_eq_true rfl) (Nat.le_of_ble_eq_true rfl) dX8_ofProcedure_101 hok
          · have hok := hok.2 k_28_2
            by_cases k_28_3 : a2 = 3
            · have hok := hok.1 k_28_3
              rw [k_28_3]
              refine lv_tableIn (off := 74) (tgt := 102) hx hb dX8_ofProcedure_28 (by decide) (by decide) (by decide) (by decide) ?_
              refine lv_aload_n hx hb dX8_ofProcedure_102 rfl (lv_at hl 0 rfl) ?_
              refine xg (ci := 8) S inX8 rfl hK hP cW_0 0 (by decide) rfl kw_5_183 rfl dX8_ofProcedure_103 ?_
              refine xg (ci := 1) S inX1 rfl hK hP cW_1 4 (by decide) rfl kw_3_228 rfl dX8_ofProcedure_106 ?_
              refine lv_iload_n hx hb dX8_ofProcedure_109 rfl (lv_at hl 1 rfl) ?_
              have h_110 := hok.1
              have hok := hok.2
              refine xiald (t0 := 0) (v := (g σ3 5 a1)) S hK hP cW_5 rfl h_110 rfl dX8_ofProcedure_110 ?_
              exact yEnd S hr hlocks hP hD hS (Nat.le_of_ble_eq_true rfl) (Nat.le_of_ble_eq_true rfl) dX8_ofProcedure_111 hok
            · have hok := hok.2 k_28_3
              by_cases k_28_4 : a2 = 4
              · have hok := hok.1 k_28_4
                rw [k_28_4]
                refine lv_tableIn (off := 84) (tgt := 112) hx hb dX8_ofProcedure_28 (by decide) (by decide) (by decide) (by decide) ?_
                refine lv_aload_n hx hb dX8_ofProcedure_112 rfl (lv_at hl 0 rfl) ?_
                refine xg (ci := 8) S inX8 rfl hK hP cW_0 2 (by decide) rfl kw_5_185 rfl dX8_ofProcedure_113 ?_
                refine xg (ci := 4) S inX4 rfl hK hP cW_20 14 (by decide) rfl kw_4_123 rfl dX8_ofProcedure_116 ?_
                refine lv_iload_n hx hb dX8_ofProcedure_119 rfl (lv_at hl 1 rfl) ?_
                have h_120 := hok.1
                have hok := hok.2
                refine xiald (t0 := 0) (v := (g σ3 33 a1)) S hK hP cW_33 rfl h_120 rfl dX8_ofProcedure_120 ?_
                exact yEnd S hr hlocks hP hD hS (Nat.le_of_ble_eq_true rfl) (Nat.le_of_ble_eq_true rfl) dX8_ofProcedure_121 hok
              · have hok := hok.2 k_28_4
                by_cases k_28_5 : a2 = 5
                · have hok := hok.1 k_28_5
                  rw [k_28_5]
                  refine lv_tableIn (off := 94) (tgt := 122) hx hb dX8_ofProcedure_28 (by decide) (by decide) (by decide) (by decide) ?_
                  refine lv_aload_n hx hb dX8_ofProcedure_122 rfl (lv_at hl 0 rfl) ?_
                  refine xg (ci := 8) S inX8 rfl hK hP cW_0 2 (by decide) rfl kw_5_185 rfl dX8_ofProcedure_123 ?_
                  refine xg (ci := 4) S inX4 rfl hK hP cW_20 13 (by decide) rfl kw_4_121 rfl dX8_ofProcedure_126 ?_
                  refine lv_iload_n hx hb dX8_ofProcedure_129 rfl (lv_at hl 1 rfl) ?_
                  have h_130 := hok.1
                  have hok := hok.2
                  refine xzald (t0 := 1) (v := (g σ3 32 a1)) S hK hP cW_32 rfl h_130 rfl dX8_ofProcedure_130 ?_
                  refine lv_if_eq (tgt := 138) hx hb dX8_ofProcedure_131 (by decide) (fun c_131 => ?_) (fun c_131 => ?_)
                  · have hok := hok.1 c_131
                    refine lv_iconst (v := 0) hx hb dX8_ofProcedure_138 (by decide) ?_
                    exact yEnd S hr hlocks hP hD hS (Nat.le_of_ble_eq_true rfl) (Nat.le_of_ble_eq_true rfl) dX8_ofProcedure_139 hok
                  · have hok := hok.2 c_131
                    refine lv_iconst (v := 1) hx hb dX8_ofProcedure_134 (by decide) ?_
                    refine lv_goto (tgt := 139) hx hb dX8_ofProcedure_135 (by decide) ?_
                    exact yEnd S hr hlocks hP hD hS (Nat.le_of_ble_eq_true rfl) (Nat.le_of_ble_eq_true rfl) dX8_ofProcedure_139 hok
                · have hok := hok.2 k_28_5
                  by_cases k_28_6 : a2 = 6
                  · have hok := hok.1 k_28_6
                    rw [k_28_6]
                    refine lv_tableIn (off := 112) (tgt := 140) hx hb dX8_ofProcedure_28 (by decide) (by decide) (by decide) (by decide) ?_
                    refine lv_aload_n hx hb dX8_ofProcedure_140 rfl (lv_at hl 0 rfl) ?_
                    refine xg (ci := 8) S inX8 rfl hK hP cW_0 0 (by decide) rfl kw_5_183 rfl dX8_ofProcedure_141 ?_
                    refine xg (ci := 1) S inX1 rfl hK hP cW_1 6 (by decide) rfl kw_3_233 rfl dX8_ofProcedure_144 ?_
                    refine lv_iload_n hx hb dX8_ofProcedure_147 rfl (lv_at hl 1 rfl) ?_
                    have h_148 := hok.1
                    have hok := hok.2
                    refine xiald (t0 := 0) (v := (g σ3 7 a1)) S hK hP cW_7 rfl h_148 rfl dX8_ofProcedure_148 ?_
                    exact yEnd S hr hlocks hP hD hS (Nat.le_of_ble_eq_true rfl) (Nat.le_of_ble_eq_true rfl) dX8_ofProcedure_149 hok
                  · have hok := hok.2 k_28_6
                    have q_28_0 := sw_ni k_28_0 (z := 0) (by decide)
                    have q_28_1 := sw_ni k_28_1 (z := 1) (by decide)
                    have q_28_2 := sw_ni k_28_2 (z := 2) (by decide)
                    have q_28_3 := sw_ni k_28_3 (z := 3) (by decide)
                    have q_28_4 := sw_ni k_28_4 (z := 4) (by decide)
                    have q_28_5 := sw_ni k_28_5 (z := 5) (by decide)
                    have q_28_6 := sw_ni k_28_6 (z := 6) (by decide)
                    refine lv_tableOut (tgt := 150) hx hb dX8_ofProcedure_28 (by omega) (by decide) ?_
                    refine lv_aload_n hx hb dX8_ofProcedure_150 rfl (lv_at hl 0 rfl) ?_
                    refine lv_iload_n hx hb dX8_ofProcedure_151 rfl (lv_at hl 1 rfl) ?_
                    refine yVi (As := [.int a1]) (cw := (cW o u cI cZ cJ T)) (ci := 8) S (v_X8_codeLength l D cI cZ cJ o u T ra ga σ3 a1 _ H.size hok) mi_X8_codeLength kw_2_54 rfl rfl ⟨Nat.le_of_ble_eq_true rfl, Nat.le_of_ble_eq_true rfl⟩ hP hD hK hS hA hB cW_0 rfl rfl hl.1 (Nat.le_of_ble_eq_true rfl) ⟨Nat.le_of_ble_eq_true rfl, Nat.le_of_ble_eq_true rfl⟩ dX8_ofProcedure_152 (fun x5 σ4 H locs hok hz hP hD hS => ?_)
                    exact yEnd S hr hlocks hP hD hS (Nat.le_of_ble_eq_true rfl) (Nat.le_of_ble_eq_true rfl) dX8_ofProcedure_155 hok

set_option maxHeartbeats 8000000 in
set_option maxRecDepth 100000 in
theorem v_X8_isName (l : Launch) (D : va_G) (cI cZ cJ : ClassId) (o : Nat) (u : Nat → Nat) (T : Nat) (ra : Nat → Nat) (ga : SG) (σ : FS) (a1 : Int32) (Φ : Int32 → FS → Prop) (sz : Nat) (hok : (wp_X8_isName σ a1 Φ)) : Met l yX8_isName (uW yX8_isName cX8_isName 1 (some .boolean)) ({ frames := 0, cells := 0, slots := 0, locals := 0 }) (va_Pc [.int a1] (aS ra ga D (tyL cI cZ cJ) (cW o u cI cZ cJ T σ) sz)) (yQi Φ D (cW o u cI cZ cJ T) (va_A (cW o u cI cZ cJ T σ) sz)) 0 0 (va_A (cW o u cI cZ cJ T σ) sz) := by
  refine aStart (lv := [(0, .int a1)]) (Qc := fun A => yQi Φ D (cW o u cI cZ cJ T) A) (by decide) (Nat.le_of_ble_eq_true rfl) rfl ?_
  intro p e s m args below meth c ls A H S hr hlocks hnm hl hK hP hD hS hA hB
  have hx := S.1
  have hb := S.2.1
  refine lv_iload_n hx hb dX8_isName_0 rfl (lv_at hl 0 rfl) ?_
  refine lv_if_lt (tgt := 14) hx hb dX8_isName_1 (by decide) (fun c_1 => ?_) (fun c_1 => ?_)
  · have hok := hok.1 c_1
    refine lv_iconst (v := 0) hx hb dX8_isName_14 (by decide) ?_
    exact yEndZ S hr hlocks hP hD hS (Nat.le_of_ble_eq_true rfl) (Nat.le_of_ble_eq_true rfl) dX8_isName_15 rfl hok
  · have hok := hok.2 c_1
    refine lv_iload_n hx hb dX8_isName_4 rfl (lv_at hl 0 rfl) ?_
    refine lv_bipush (v := 16) hx hb dX8_isName_5 (by decide) ?_
    refine lv_icmp_ge (tgt := 14) hx hb dX8_isName_7 (by decide) (fun c_7 => ?_) (fun c_7 => ?_)
    · have hok := hok.1 c_7
      refine lv_iconst (v := 0) hx hb dX8_isName_14 (by decide) ?_
      exact yEndZ S hr hlocks hP hD hS (Nat.le_of_ble_eq_true rfl) (Nat.le_of_ble_eq_true rfl) dX8_isName_15 rfl hok
    · have hok := hok.2 c_7
      refine lv_iconst (v := 1) hx hb dX8_isName_10 (by decide) ?_
      refine lv_goto (tgt := 15) hx hb dX8_isName_11 (by decide) ?_
      exact yEndZ S hr hlocks hP hD hS (Nat.le_of_ble_eq_true rfl) (Nat.le_of_ble_eq_true rfl) dX8_isName_15 rfl hok

set_option maxHeartbeats 8000000 in
set_option maxRecDepth 100000 in
theorem v_X4_reaching (l : Launch) (D : va_G) (cI cZ cJ : ClassId) (o : Nat) (u : Nat → Nat) (T : Nat) (ra : Nat → Nat) (ga : SG) (σ : FS) (a1 : Int32) (a2 : Int32) (Φ : Int32 → FS → Prop) (sz : Nat) (hok : (wp_X4_reaching σ a1 a2 Φ)) : Met l yX4_reaching (uW yX4_reaching cX4_reaching 6 (some .int)) ({ frames := 1, cells := 0, slots := 0, locals := 24 }) (va_Pc [.ref (u 19), .int a1, .int a2] (aS ra ga D (tyL cI cZ cJ) (cW o u cI cZ cJ T σ) sz)) (yQi Φ D (cW o u cI cZ cJ T) (va_A (cW o u cI cZ cJ T σ) sz)) 0 0 (va_A (cW o u cI cZ cJ T σ) sz) := by
  refine aStart (lv := [(0, .ref (u 19)), (1, .int a1), (2, .int a2)]) (Qc := fun A => yQi Φ D (cW o u cI cZ cJ T) A) (by decide) (Nat.le_of_ble_eq_true rfl) rfl ?_
  intro p e s m args below meth c ls A H S hr hlocks hnm hl hK hP hD hS hA hB
  have hx := S.1
  have hb := S.2.1
  refine lv_iconst (v := 0) hx hb dX4_reaching_0 (by decide) ?_
  refine lv_istore_n (lv' := [(3, .int 0), (0, .ref (u 19)), (1, .int a1), (2, .int a2)]) hx hb dX4_reaching_1 rfl hl (by decide) rfl (fun ls hl => ?_)
  refine lv_iconst (v := 0) hx hb dX4_reaching_2 (by decide) ?_
  refine lv_istore (lv' := [(4, .int 0), (3, .int 0), (0, .ref (u 19)), (1, .int a1), (2, .int a2)]) hx hb dX4_reaching_3 hl (by decide) rfl (fun ls hl => ?_)
  have lp5 : ∀ (K : FS → Int32 → Int32 → Prop), (∀ (τ0 : FS) (l4_0 : Int32) (l3_0 : Int32) (H : Heap) (locs : List Loc) (ls : Array Slot), K τ0 l4_0 l3_0 → lv_has ls 6 [(4, .int l4_0), (3, .int l3_0), (0, .ref (u 19)), (1, .int a1), (2, .int a2)] → va_P D vwCl (cW o u cI cZ cJ T τ0) H → va_D A (cW o u cI cZ cJ T τ0) → va_S A s.heap H locs → W p l e ({ frames := 1, cells := 0, slots := 0, locals := 24 }) s m args below meth c H locs 0 0 (MQ below (yQi Φ D (cW o u cI cZ cJ T) A) args s 0 0 A) (F0 m 133 ls [])) → ∀ (n0 : Nat) (τ0 : FS) (l4_0 : Int32) (l3_0 : Int32) (H : Heap) (locs : List Loc) (ls : Array Slot), wp_X4_reaching_5 a1 a2 Φ K n0 τ0 l4_0 l3_0 → lv_has ls 6 [(4, .int l4_0), (3, .int l3_0), (0, .ref (u 19)), (1, .int a1), (2, .int a2)] → va_P D vwCl (cW o u cI cZ cJ T τ0) H → va_D A (cW o u cI cZ cJ T τ0) → va_S A s.heap H locs → W p l e ({ frames := 1, cells := 0, slots := 0, locals := 24 }) s m args below meth c H locs 0 0 (MQ below (yQi Φ D (cW o u cI cZ cJ T) A) args s 0 0 A) (F0 m 5 ls []) := by
    intro K hk n0
    induction n0 with
    | zero => intro τ0 l4_0 l3_0 H locs ls hok; exact False.elim hok
    | succ n0 ih5 =>
      intro τ0 l4_0 l3_0 H locs ls hok hl hP hD hS
      refine lv_iload hx hb dX4_reaching_5 (lv_at hl 0 rfl) ?_
      refine lv_aload_n hx hb dX4_reaching_7 rfl (lv_at hl 2 rfl) ?_
      refine xg (ci := 4) S inX4 rfl hK hP cW_20 1 (by decide) rfl kw_4_88 rfl dX4_reaching_8 ?_
      refine xg (ci := 5) S inX5 rfl hK hP cW_13 0 (by decide) rfl kw_4_38 rfl dX4_reaching_11 ?_
      refine lv_icmp_ge (tgt := 133) hx hb dX4_reaching_14 (by decide) (fun c_14 => ?_) (fun c_14 => ?_)
      · have hok := hok.1 c_14
        exact hk τ0 l4_0 l3_0 H locs ls hok (lv_sub hl [0, 1, 2, 3, 4] rfl) hP hD hS
      · have hok := hok.2 c_14
        refine lv_aload_n hx hb dX4_reaching_17 rfl (lv_at hl 2 rfl) ?_
        refine xg (ci := 4) S inX4 rfl hK hP cW_20 2 (by decide) rfl kw_4_89 rfl dX4_reaching_18 ?_
        refine lv_iload hx hb dX4_reaching_21 (lv_at hl 0 rfl) ?_
        have h_23 := hok.1
        have hok := hok.2
        refine xiald (t0 := 0) (v := (g τ0 21 l4_0)) S hK hP cW_21 rfl h_23 rfl dX4_reaching_23 ?_
        refine lv_iconst (v := (-1)) hx hb dX4_reaching_24 (by decide) ?_
        refine lv_icmp_eq (tgt := 87) hx hb dX4_reaching_25 (by decide) (fun c_25 => ?_) (fun c_25 => ?_)
        · have hok := hok.1 c_25
          refine lv_iconst (v := 0) hx hb dX4_reaching_87 (by decide) ?_
          refine lv_istore (lv' := [(5, .int 0), (4, .int l4_0), (3, .int l3_0), (0, .ref (u 19)), (1, .int a1), (2, .int a2)]) hx hb dX4_reaching_88 hl (by decide) rfl (fun ls hl => ?_)
          refine lv_iload hx hb dX4_reaching_90 (lv_at hl 0 rfl) ?_
          refine lv_if_eq (tgt := 127) hx hb dX4_reaching_92 (by decide) (fun _ => ?_) (fun c => absurd c (by decide))
          refine lv_iinc (v := l4_0 + 1) (lv' := [(4, .int (l4_0 + 1)), (5, .int 0), (3, .int l3_0), (0, .ref (u 19)), (1, .int a1), (2, .int a2)]) hx hb dX4_reaching_127 hl (k := 1) rfl rfl (by decide) rfl (fun ls hl => ?_)
          refine lv_goto (tgt := 5) hx hb dX4_reaching_130 (by decide) ?_
          exact ih5 τ0 (l4_0 + 1) l3_0 H locs ls hok (lv_sub hl [0, 2, 3, 4, 5] rfl) hP hD hS
        · have hok := hok.2 c_25
          refine lv_aload_n hx hb dX4_reaching_28 rfl (lv_at hl 2 rfl) ?_
          refine xg (ci := 4) S inX4 rfl hK hP cW_20 1 (by decide) rfl kw_4_88 rfl dX4_reaching_29 ?_
          refine lv_iload hx hb dX4_reaching_32 (lv_at hl 0 rfl) ?_
          refine yVi (As := [.int l4_0]) (cw := (cW o u cI cZ cJ T)) (ci := 5) S (v_X5_hasName l D cI cZ cJ o u T ra ga τ0 l4_0 _ H.size hok) mi_X5_hasName kw_1_140 rfl rfl ⟨Nat.le_of_ble_eq_true rfl, Nat.le_of_ble_eq_true rfl⟩ hP hD hK hS hA hB cW_13 rfl rfl hl.1 (Nat.le_of_ble_eq_true rfl) ⟨Nat.le_of_ble_eq_true rfl, Nat.le_of_ble_eq_true rfl⟩ dX4_reaching_34 (fun x2 σ1 H locs hok hz hP hD hS => ?_)
          refine lv_if_eq (tgt := 87) hx hb dX4_reaching_37 (by decide) (fun c_37 => ?_) (fun c_37 => ?_)
          · have hok := hok.1 c_37
            refine lv_iconst (v := 0) hx hb dX4_reaching_87 (by decide) ?_
            refine lv_istore (lv' := [(5, .int 0), (4, .int l4_0), (3, .int l3_0), (0, .ref (u 19)), (1, .int a1), (2, .int a2)]) hx hb dX4_reaching_88 hl (by decide) rfl (fun ls hl => ?_)
            refine lv_iload hx hb dX4_reaching_90 (lv_at hl 0 rfl) ?_
            refine lv_if_eq (tgt := 127) hx hb dX4_reaching_92 (by decide) (fun _ => ?_) (fun c => absurd c (by decide))
            refine lv_iinc (v := l4_0 + 1) (lv' := [(4, .int (l4_0 + 1)), (5, .int 0), (3, .int l3_0), (0, .ref (u 19)), (1, .int a1), (2, .int a2)]) hx hb dX4_reaching_127 hl (k := 1) rfl rfl (by decide) rfl (fun ls hl => ?_)
            refine lv_goto (tgt := 5) hx hb dX4_reaching_130 (by decide) ?_
            exact ih5 σ1 (l4_0 + 1) l3_0 H locs ls hok (lv_sub hl [0, 2, 3, 4, 5] rfl) hP hD hS
          · have hok := hok.2 c_37
            refine lv_aload_n hx hb dX4_reaching_40 rfl (lv_at hl 2 rfl) ?_
            refine xg (ci := 4) S inX4 rfl hK hP cW_20 1 (by decide) rfl kw_4_88 rfl dX4_reaching_41 ?_
            refine xg (ci := 5) S inX5 rfl hK hP cW_13 2 (by decide) rfl kw_4_47 rfl dX4_reaching_44 ?_
            refine lv_iload hx hb dX4_reaching_47 (lv_at hl 0 rfl) ?_
            have h_49 := hok.1
            have hok := hok.2
            refine xiald (t0 := 0) (v := (g σ1 15 l4_0)) S hK hP cW_15 rfl h_49 rfl dX4_reaching_49 ?_
            refine lv_iload_n hx hb dX4_reaching_50 rfl (lv_at hl 4 rfl) ?_
            refine lv_icmp_ne (tgt := 87) hx hb dX4_reaching_51 (by decide) (fun c_51 => ?_) (fun c_51 => ?_)
            · have hok := hok.2 c_51
              refine lv_iconst (v := 0) hx hb dX4_reaching_87 (by decide) ?_
              refine lv_istore (lv' := [(5, .int 0), (4, .int l4_0), (3, .int l3_0), (0, .ref (u 19)), (1, .int a1), (2, .int a2)]) hx hb dX4_reaching_88 hl (by decide) rfl (fun ls hl => ?_)
              refine lv_iload hx hb dX4_reaching_90 (lv_at hl 0 rfl) ?_
              refine lv_if_eq (tgt := 127) hx hb dX4_reaching_92 (by decide) (fun _ => ?_) (fun c => absurd c (by decide))
              refine lv_iinc (v := l4_0 + 1) (lv' := [(4, .int (l4_0 + 1)), (5, .int 0), (3, .int l3_0), (0, .ref (u 19)), (1, .int a1), (2, .int a2)]) hx hb dX4_reaching_127 hl (k := 1) rfl rfl (by decide) rfl (fun ls hl => ?_)
              refine lv_goto (tgt := 5) hx hb dX4_reaching_130 (by decide) ?_
              exact ih5 σ1 (l4_0 + 1) l3_0 H locs ls hok (lv_sub hl [0, 2, 3, 4, 5] rfl) hP hD hS
            · have hok := hok.1 c_51
              refine lv_aload_n hx hb dX4_reaching_54 rfl (lv_at hl 2 rfl) ?_
              refine xg (ci := 4) S inX4 rfl hK hP cW_20 2 (by decide) rfl kw_4_89 rfl dX4_reaching_55 ?_
              refine lv_iload hx hb dX4_reaching_58 (lv_at hl 0 rfl) ?_
              have h_60 := hok.1
              have hok := hok.2
              refine xiald (t0 := 0) (v := (g σ1 21 l4_0)) S hK hP cW_21 rfl h_60 rfl dX4_reaching_60 ?_
              refine lv_iload_n hx hb dX4_reaching_61 rfl (lv_at hl 3 rfl) ?_
              refine lv_icmp_eq (tgt := 83) hx hb dX4_reaching_62 (by decide) (fun c_62 => ?_) (fun c_62 => ?_)
              · have hok := hok.1 c_62
                refine lv_iconst (v := 1) hx hb dX4_reaching_83 (by decide) ?_
                refine lv_goto (tgt := 88) hx hb dX4_reaching_84 (by decide) ?_
                refine lv_istore (lv' := [(5, .int 1), (4, .int l4_0), (3, .int l3_0), (0, .ref (u 19)), (1, .int a1), (2, .int a2)]) hx hb dX4_reaching_88 hl (by decide) rfl (fun ls hl => ?_)
                refine lv_iload hx hb dX4_reaching_90 (lv_at hl 0 rfl) ?_
                refine lv_if_eq (tgt := 127) hx hb dX4_reaching_92 (by decide) (fun c => absurd c (by decide)) (fun _ => ?_)
                refine lv_aload_n hx hb dX4_reaching_95 rfl (lv_at hl 3 rfl) ?_
                refine xg (ci := 4) S inX4 rfl hK hP cW_20 3 (by decide) rfl kw_4_93 rfl dX4_reaching_96 ?_
                refine lv_iload hx hb dX4_reaching_99 (lv_at hl 1 rfl) ?_
                have h_101 := hok.1
                have hok := hok.2
                refine xiald (t0 := 0) (v := (g σ1 22 l4_0)) S hK hP cW_22 rfl h_101 rfl dX4_reaching_101 ?_
                refine lv_iconst (v := (-1)) hx hb dX4_reaching_102 (by decide) ?_
                refine lv_icmp_eq (tgt := 124) hx hb dX4_reaching_103 (by decide) (fun c_103 => ?_) (fun c_103 => ?_)
                · have hok := hok.1 c_103
                  refine lv_iinc (v := l3_0 + 1) (lv' := [(3, .int (l3_0 + 1)), (5, .int 1), (4, .int l4_0), (0, .ref (u 19)), (1, .int a1), (2, .int a2)]) hx hb dX4_reaching_124 hl (k := 2) rfl rfl (by decide) rfl (fun ls hl => ?_)
                  refine lv_iinc (v := l4_0 + 1) (lv' := [(4, .int (l4_0 + 1)), (3, .int (l3_0 + 1)), (5, .int 1), (0, .ref (u 19)), (1, .int a1), (2, .int a2)]) hx hb dX4_reaching_127 hl (k := 2) rfl rfl (by decide) rfl (fun ls hl => ?_)
                  refine lv_goto (tgt := 5) hx hb dX4_reaching_130 (by decide) ?_
                  exact ih5 σ1 (l4_0 + 1) (l3_0 + 1) H locs ls hok (lv_sub hl [0, 1, 3, 4, 5] rfl) hP hD hS
                · have hok := hok.2 c_103
                  refine lv_aload_n hx hb dX4_reaching_106 rfl (lv_at hl 3 rfl) ?_
                  refine xg (ci := 4) S inX4 rfl hK hP cW_20 0 (by decide) rfl kw_4_87 rfl dX4_reaching_107 ?_
                  refine lv_iload_n hx hb dX4_reaching_110 rfl (lv_at hl 4 rfl) ?_
                  refine lv_aload_n hx hb dX4_reaching_111 rfl (lv_at hl 3 rfl) ?_
                  refine xg (ci := 4) S inX4 rfl hK hP cW_20 3 (by decide) rfl kw_4_93 rfl dX4_reaching_112 ?_
                  refine lv_iload hx hb dX4_reaching_115 (lv_at hl 1 rfl) ?_
                  have h_117 := hok.1
                  have hok := hok.2
                  refine xiald (t0 := 0) (v := (g σ1 22 l4_0)) S hK hP cW_22 rfl h_117 rfl dX4_reaching_117 ?_
                  refine yVi (As := [.int a1, .int (g σ1 22 l4_0)]) (cw := (cW o u cI cZ cJ T)) (ci := 1) S (v_X1_isInside l D cI cZ cJ o u T ra ga σ1 a1 (g σ1 22 l4_0) _ H.size hok) mi_X1_isInside kw_1_203 rfl rfl ⟨Nat.le_of_ble_eq_true rfl, Nat.le_of_ble_eq_true rfl⟩ hP hD hK hS hA hB cW_1 rfl rfl hl.1 (Nat.le_of_ble_eq_true rfl) ⟨Nat.le_of_ble_eq_true rfl, Nat.le_of_ble_eq_true rfl⟩ dX4_reaching_118 (fun x4 σ3 H locs hok hz hP hD hS => ?_)
                  refine lv_if_eq (tgt := 127) hx hb dX4_reaching_121 (by decide) (fun c_121 => ?_) (fun c_121 => ?_)
                  · have hok := hok.1 c_121
                    refine lv_iinc (v := l4_0 + 1) (lv' := [(4, .int (l4_0 + 1)), (5, .int 1), (3, .int l3_0), (0, .ref (u 19)), (1, .int a1), (2, .int a2)]) hx hb dX4_reaching_127 hl (k := 1) rfl rfl (by decide) rfl (fun ls hl => ?_)
                    refine lv_goto (tgt := 5) hx hb dX4_reaching_130 (by decide) ?_
                    exact ih5 σ3 (l4_0 + 1) l3_0 H locs ls hok (lv_sub hl [0, 2, 3, 4, 5] rfl) hP hD hS
                  · have hok := hok.2 c_121
                    refine lv_iinc (v := l3_0 + 1) (lv' := [(3, .int (l3_0 + 1)), (5, .int 1), (4, .int l4_0), (0, .ref (u 19)), (1, .int a1), (2, .int a2)]) hx hb dX4_reaching_124 hl (k := 2) rfl rfl (by decide) rfl (fun ls hl => ?_)
                    refine lv_iinc (v := l4_0 + 1) (lv' := [(4, .int (l4_0 + 1)), (3, .int (l3_0 + 1)), (5, .int 1), (0, .ref (u 19)), (1, .int a1), (2, .int a2)]) hx hb dX4_reaching_127 hl (k := 2) rfl rfl (by decide) rfl (fun ls hl => ?_)
                    refine lv_goto (tgt := 5) hx hb dX4_reaching_130 (by decide) ?_
                    exact ih5 σ3 (l4_0 + 1) (l3_0 + 1) H locs ls hok (lv_sub hl [0, 1, 3, 4, 5] rfl) hP hD hS
              · have hok := hok.2 c_62
                refine lv_aload_n hx hb dX4_reaching_65 rfl (lv_at hl 2 rfl) ?_
                refine xg (ci := 4) S inX4 rfl hK hP cW_20 0 (by decide) rfl kw_4_87 rfl dX4_reaching_66 ?_
                refine lv_aload_n hx hb dX4_reaching_69 rfl (lv_at hl 2 rfl) ?_
                refine xg (ci := 4) S inX4 rfl hK hP cW_20 2 (by decide) rfl kw_4_89 rfl dX4_reaching_70 ?_
                refine lv_iload hx hb dX4_reaching_73 (lv_at hl 0 rfl) ?_
                have h_75 := hok.1
                have hok := hok.2
                refine xiald (t0 := 0) (v := (g σ1 21 l4_0)) S hK hP cW_21 rfl h_75 rfl dX4_reaching_75 ?_
                refine lv_iload_n hx hb dX4_reaching_76 rfl (lv_at hl 3 rfl) ?_
                refine yVi (As := [.int (g σ1 21 l4_0), .int a1]) (cw := (cW o u cI cZ cJ T)) (ci := 1) S (v_X1_isInside l D cI cZ cJ o u T ra ga σ1 (g σ1 21 l4_0) a1 _ H.size hok) mi_X1_isInside kw_1_203 rfl rfl ⟨Nat.le_of_ble_eq_true rfl, Nat.le_of_ble_eq_true rfl⟩ hP hD hK hS hA hB cW_1 rfl rfl hl.1 (Nat.le_of_ble_eq_true rfl) ⟨Nat.le_of_ble_eq_true rfl, Nat.le_of_ble_eq_true rfl⟩ dX4_reaching_77 (fun x6 σ5 H locs hok hz hP hD hS => ?_)
                refine lv_if_eq (tgt := 87) hx hb dX4_reaching_80 (by decide) (fun c_80 => ?_) (fun c_80 => ?_)
                · have hok := hok.1 c_80
                  refine lv_iconst (v := 0) hx hb dX4_reaching_87 (by decide) ?_
                  refine lv_istore (lv' := [(5, .int 0), (4, .int l4_0), (3, .int l3_0), (0, .ref (u 19)), (1, .int a1), (2, .int a2)]) hx hb dX4_reaching_88 hl (by decide) rfl (fun ls hl => ?_)
                  refine lv_iload hx hb dX4_reaching_90 (lv_at hl 0 rfl) ?_
                  refine lv_if_eq (tgt := 127) hx hb dX4_reaching_92 (by decide) (fun _ => ?_) (fun c => absurd c (by decide))
                  refine lv_iinc (v := l4_0 + 1) (lv' := [(4, .int (l4_0 + 1)), (5, .int 0), (3, .int l3_0), (0, .ref (u 19)), (1, .int a1), (2, .int a2)]) hx hb dX4_reaching_127 hl (k := 1) rfl rfl (by decide) rfl (fun ls hl => ?_)
                  refine lv_goto (tgt := 5) hx hb dX4_reaching_130 (by decide) ?_
                  exact ih5 σ5 (l4_0 + 1) l3_0 H locs ls hok (lv_sub hl [0, 2, 3, 4, 5] rfl) hP hD hS
                · have hok := hok.2 c_80
                  refine lv_iconst (v := 1) hx hb dX4_reaching_83 (by decide) ?_
                  refine lv_goto (tgt := 88) hx hb dX4_reaching_84 (by decide) ?_
                  refine lv_istore (lv' := [(5, .int 1), (4, .int l4_0), (3, .int l3_0), (0, .ref (u 19)), (1, .int a1), (2, .int a2)]) hx hb dX4_reaching_88 hl (by decide) rfl (fun ls hl => ?_)
                  refine lv_iload hx hb dX4_reaching_90 (lv_at hl 0 rfl) ?_
                  refine lv_if_eq (tgt := 127) hx hb dX4_reaching_92 (by decide) (fun c => absurd c (by decide)) (fun _ => ?_)
                  refine lv_aload_n hx hb dX4_reaching_95 rfl (lv_at hl 3 rfl) ?_
                  refine xg (ci := 4) S inX4 rfl hK hP cW_20 3 (by decide) rfl kw_4_93 rfl dX4_reaching_96 ?_
                  refine lv_iload hx hb dX4_reaching_99 (lv_at hl 1 rfl) ?_
                  have h_101 := hok.1
                  have hok := hok.2
                  refine xiald (t0 := 0) (v := (g σ5 22 l4_0)) S hK hP cW_22 rfl h_101 rfl dX4_reaching_101 ?_
                  refine lv_iconst (v := (-1)) hx hb dX4_reaching_102 (by decide) ?_
                  refine lv_icmp_eq (tgt := 124) hx hb dX4_reaching_103 (by decide) (fun c_103 => ?_) (fun c_103 => ?_)
                  · have hok := hok.1 c_103
                    refine lv_iinc (v := l3_0 + 1) (lv' := [(3, .int (l3_0 + 1)), (5, .int 1), (4, .int l4_0), (0, .ref (u 19)), (1, .int a1), (2, .int a2)]) hx hb dX4_reaching_124 hl (k := 2) rfl rfl (by decide) rfl (fun ls hl => ?_)
                    refine lv_iinc (v := l4_0 + 1) (lv' := [(4, .int (l4_0 + 1)), (3, .int (l3_0 + 1)), (5, .int 1), (0, .ref (u 19)), (1, .int a1), (2, .int a2)]) hx hb dX4_reaching_127 hl (k := 2) rfl rfl (by decide) rfl (fun ls hl => ?_)
                    refine lv_goto (tgt := 5) hx hb dX4_reaching_130 (by decide) ?_
                    exact ih5 σ5 (l4_0 + 1) (l3_0 + 1) H locs ls hok (lv_sub hl [0, 1, 3, 4, 5] rfl) hP hD hS
                  · have hok := hok.2 c_103
                    refine lv_aload_n hx hb dX4_reaching_106 rfl (lv_at hl 3 rfl) ?_
                    refine xg (ci := 4) S inX4 rfl hK hP cW_20 0 (by decide) rfl kw_4_87 rfl dX4_reaching_107 ?_
                    refine lv_iload_n hx hb dX4_reaching_110 rfl (lv_at hl 4 rfl) ?_
                    refine lv_aload_n hx hb dX4_reaching_111 rfl (lv_at hl 3 rfl) ?_
                    refine xg (ci := 4) S inX4 rfl hK hP cW_20 3 (by decide) rfl kw_4_93 rfl dX4_reaching_112 ?_
                    refine lv_iload hx hb dX4_reaching_115 (lv_at hl 1 rfl) ?_
                    have h_117 := hok.1
                    have hok := hok.2
                    refine xiald (t0 := 0) (v := (g σ5 22 l4_0)) S hK hP cW_22 rfl h_117 rfl dX4_reaching_117 ?_
                    refine yVi (As := [.int a1, .int (g σ5 22 l4_0)]) (cw := (cW o u cI cZ cJ T)) (ci := 1) S (v_X1_isInside l D cI cZ cJ o u T ra ga σ5 a1 (g σ5 22 l4_0) _ H.size hok) mi_X1_isInside kw_1_203 rfl rfl ⟨Nat.le_of_ble_eq_true rfl, Nat.le_of_ble_eq_true rfl⟩ hP hD hK hS hA hB cW_1 rfl rfl hl.1 (Nat.le_of_ble_eq_true rfl) ⟨Nat.le_of_ble_eq_true rfl, Nat.le_of_ble_eq_true rfl⟩ dX4_reaching_118 (fun x8 σ7 H locs hok hz hP hD hS => ?_)
                    refine lv_if_eq (tgt := 127) hx hb dX4_reaching_121 (by decide) (fun c_121 => ?_) (fun c_121 => ?_)
                    · have hok := hok.1 c_121
                      refine lv_iinc (v := l4_0 + 1) (lv' := [(4, .int (l4_0 + 1)), (5, .int 1), (3, .int l3_0), (0, .ref (u 19)), (1, .int a1), (2, .int a2)]) hx hb dX4_reaching_127 hl (k := 1) rfl rfl (by decide) rfl (fun ls hl => ?_)
                      refine lv_goto (tgt := 5) hx hb dX4_reaching_130 (by decide) ?_
                      exact ih5 σ7 (l4_0 + 1) l3_0 H locs ls hok (lv_sub hl [0, 2, 3, 4, 5] rfl) hP hD hS
                    · have hok := hok.2 c_121
                      refine lv_iinc (v := l3_0 + 1) (lv' := [(3, .int (l3_0 + 1)), (5, .int 1), (4, .int l4_0), (0, .ref (u 19)), (1, .int a1), (2, .int a2)]) hx hb dX4_reaching_124 hl (k := 2) rfl rfl (by decide) rfl (fun ls hl => ?_)
                      refine lv_iinc (v := l4_0 + 1) (lv' := [(4, .int (l4_0 + 1)), (3, .int (l3_0 + 1)), (5, .int 1), (0, .ref (u 19)), (1, .int a1), (2, .int a2)]) hx hb dX4_reaching_127 hl (k := 2) rfl rfl (by decide) rfl (fun ls hl => ?_)
                      refine lv_goto (tgt := 5) hx hb dX4_reaching_130 (by decide) ?_
                      exact ih5 σ7 (l4_0 + 1) (l3_0 + 1) H locs ls hok (lv_sub hl [0, 1, 3, 4, 5] rfl) hP hD hS
  refine lp5 _ ?_ FUEL σ 0 0 _ _ _ hok (lv_sub hl [0, 1, 2, 3, 4] rfl) hP hD hS
  intro σ9 x10 x11 H locs ls hok hl hP hD hS
  refine lv_iload_n hx hb dX4_reaching_133 rfl (lv_at hl 1 rfl) ?_
  exact yEnd S hr hlocks hP hD hS (Nat.le_of_ble_eq_true rfl) (Nat.le_of_ble_eq_true rfl) dX4_reaching_134 hok
