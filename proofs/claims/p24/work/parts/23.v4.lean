set_option maxHeartbeats 8000000 in
set_option maxRecDepth 100000 in
theorem v_X8_hiddenBy (l : Launch) (D : va_G) (cI cZ cJ : ClassId) (o : Nat) (u : Nat → Nat) (T : Nat) (ra : Nat → Nat) (ga : SG) (σ : FS) (a1 : Int32) (a2 : Int32) (Φ : Int32 → FS → Prop) (sz : Nat) (hok : (wp_X8_hiddenBy σ a1 a2 Φ)) : Met l yX8_hiddenBy (uW yX8_hiddenBy cX8_hiddenBy 3 (some .int)) ({ frames := 6, cells := 0, slots := 0, locals := 134 }) (va_Pc [.ref o, .int a1, .int a2] (aS ra ga D (tyL cI cZ cJ) (cW o u cI cZ cJ T σ) sz)) (yQi Φ D (cW o u cI cZ cJ T) (va_A (cW o u cI cZ cJ T σ) sz)) 0 0 (va_A (cW o u cI cZ cJ T σ) sz) := by
  refine aStart (lv := [(0, .ref o), (1, .int a1), (2, .int a2)]) (Qc := fun A => yQi Φ D (cW o u cI cZ cJ T) A) (by decide) (Nat.le_of_ble_eq_true rfl) rfl ?_
  intro p e s m args below meth c ls A H S hr hlocks hnm hl hK hP hD hS hA hB
  have hx := S.1
  have hb := S.2.1
  refine lv_aload_n hx hb dX8_hiddenBy_0 rfl (lv_at hl 0 rfl) ?_
  refine lv_iload_n hx hb dX8_hiddenBy_1 rfl (lv_at hl 1 rfl) ?_
  refine yVv (As := [.int a1]) (cw := (cW o u cI cZ cJ T)) (ci := 8) S (v_X8_needProcedure l D cI cZ cJ o u T ra ga σ a1 _ H.size hok) mi_X8_needProcedure kw_1_25 rfl rfl ⟨Nat.le_of_ble_eq_true rfl, Nat.le_of_ble_eq_true rfl⟩ hP hD hK hS hA hB cW_0 rfl rfl hl.1 (Nat.le_of_ble_eq_true rfl) ⟨Nat.le_of_ble_eq_true rfl, Nat.le_of_ble_eq_true rfl⟩ dX8_hiddenBy_2 (fun σ1 H locs hok hz hP hD hS => ?_)
  refine lv_iload_n hx hb dX8_hiddenBy_5 rfl (lv_at hl 2 rfl) ?_
  refine ySi (As := [.int a2]) (cw := (cW o u cI cZ cJ T)) S (v_X8_isName l D cI cZ cJ o u T ra ga σ1 a2 _ H.size hok) ms_X8_isName kw_3_181 rfl rfl ⟨Nat.le_of_ble_eq_true rfl, Nat.le_of_ble_eq_true rfl⟩ hP hD hK hS hA hB hl.1 (Nat.le_of_ble_eq_true rfl) ⟨Nat.le_of_ble_eq_true rfl, Nat.le_of_ble_eq_true rfl⟩ dX8_hiddenBy_6 (fun x3 σ2 H locs hok hz hP hD hS => ?_)
  refine ySv (As := [.int x3]) (cw := (cW o u cI cZ cJ T)) S (v_X8_needArgument l D cI cZ cJ o u T ra ga σ2 x3 _ H.size hok) ms_X8_needArgument kw_1_104 rfl rfl ⟨Nat.le_of_ble_eq_true rfl, Nat.le_of_ble_eq_true rfl⟩ hP hD hK hS hA hB hl.1 (Nat.le_of_ble_eq_true rfl) ⟨Nat.le_of_ble_eq_true rfl, Nat.le_of_ble_eq_true rfl⟩ dX8_hiddenBy_9 (fun σ4 H locs hok hz hP hD hS => ?_)
  refine lv_aload_n hx hb dX8_hiddenBy_12 rfl (lv_at hl 0 rfl) ?_
  refine yVv (As := []) (cw := (cW o u cI cZ cJ T)) (ci := 8) S (v_X8_refresh l D cI cZ cJ o u T ra ga σ4 _ H.size hok) mi_X8_refresh kw_1_123 rfl rfl ⟨Nat.le_of_ble_eq_true rfl, Nat.le_of_ble_eq_true rfl⟩ hP hD hK hS hA hB cW_0 rfl rfl hl.1 (Nat.le_of_ble_eq_true rfl) ⟨Nat.le_of_ble_eq_true rfl, Nat.le_of_ble_eq_true rfl⟩ dX8_hiddenBy_13 (fun σ5 H locs hok hz hP hD hS => ?_)
  refine lv_aload_n hx hb dX8_hiddenBy_16 rfl (lv_at hl 0 rfl) ?_
  refine xg (ci := 8) S inX8 rfl hK hP cW_0 0 (by decide) rfl kw_5_183 rfl dX8_hiddenBy_17 ?_
  refine lv_iload_n hx hb dX8_hiddenBy_20 rfl (lv_at hl 1 rfl) ?_
  refine lv_iload_n hx hb dX8_hiddenBy_21 rfl (lv_at hl 2 rfl) ?_
  refine yVi (As := [.int a1, .int a2]) (cw := (cW o u cI cZ cJ T)) (ci := 1) S (v_X1_declares l D cI cZ cJ o u T ra ga σ5 a1 a2 _ H.size hok) mi_X1_declares kw_3_184 rfl rfl ⟨Nat.le_of_ble_eq_true rfl, Nat.le_of_ble_eq_true rfl⟩ hP hD hK hS hA hB cW_1 rfl rfl hl.1 (Nat.le_of_ble_eq_true rfl) ⟨Nat.le_of_ble_eq_true rfl, Nat.le_of_ble_eq_true rfl⟩ dX8_hiddenBy_22 (fun x7 σ6 H locs hok hz hP hD hS => ?_)
  refine lv_if_eq (tgt := 32) hx hb dX8_hiddenBy_25 (by decide) (fun c_25 => ?_) (fun c_25 => ?_)
  · have hok := hok.1 c_25
    refine lv_aload_n hx hb dX8_hiddenBy_32 rfl (lv_at hl 0 rfl) ?_
    refine xg (ci := 8) S inX8 rfl hK hP cW_0 2 (by decide) rfl kw_5_185 rfl dX8_hiddenBy_33 ?_
    refine lv_iload_n hx hb dX8_hiddenBy_36 rfl (lv_at hl 1 rfl) ?_
    refine lv_iload_n hx hb dX8_hiddenBy_37 rfl (lv_at hl 2 rfl) ?_
    refine yVi (As := [.int a1, .int a2]) (cw := (cW o u cI cZ cJ T)) (ci := 4) S (v_X4_reaching l D cI cZ cJ o u T ra ga σ6 a1 a2 _ H.size hok) mi_X4_reaching kw_3_185 rfl rfl ⟨Nat.le_of_ble_eq_true rfl, Nat.le_of_ble_eq_true rfl⟩ hP hD hK hS hA hB cW_20 rfl rfl hl.1 (Nat.le_of_ble_eq_true rfl) ⟨Nat.le_of_ble_eq_true rfl, Nat.le_of_ble_eq_true rfl⟩ dX8_hiddenBy_38 (fun x9 σ8 H locs hok hz hP hD hS => ?_)
    exact yEnd S hr hlocks hP hD hS (Nat.le_of_ble_eq_true rfl) (Nat.le_of_ble_eq_true rfl) dX8_hiddenBy_41 hok
  · have hok := hok.2 c_25
    refine lv_iconst (v := 0) hx hb dX8_hiddenBy_28 (by decide) ?_
    refine lv_goto (tgt := 41) hx hb dX8_hiddenBy_29 (by decide) ?_
    exact yEnd S hr hlocks hP hD hS (Nat.le_of_ble_eq_true rfl) (Nat.le_of_ble_eq_true rfl) dX8_hiddenBy_41 hok

set_option maxHeartbeats 8000000 in
set_option maxRecDepth 100000 in
theorem v_X8_needPlace (l : Launch) (D : va_G) (cI cZ cJ : ClassId) (o : Nat) (u : Nat → Nat) (T : Nat) (ra : Nat → Nat) (ga : SG) (σ : FS) (a1 : Int32) (Φ : FS → Prop) (sz : Nat) (hok : (wp_X8_needPlace σ a1 Φ)) : Met l yX8_needPlace (uW yX8_needPlace cX8_needPlace 1 none) ({ frames := 0, cells := 0, slots := 0, locals := 0 }) (va_Pc [.int a1] (aS ra ga D (tyL cI cZ cJ) (cW o u cI cZ cJ T σ) sz)) (yQv Φ D (cW o u cI cZ cJ T) (va_A (cW o u cI cZ cJ T σ) sz)) 0 0 (va_A (cW o u cI cZ cJ T σ) sz) := by
  refine aStart (lv := [(0, .int a1)]) (Qc := fun A => yQv Φ D (cW o u cI cZ cJ T) A) (by decide) (Nat.le_of_ble_eq_true rfl) rfl ?_
  intro p e s m args below meth c ls A H S hr hlocks hnm hl hK hP hD hS hA hB
  have hx := S.1
  have hb := S.2.1
  refine lv_iload_n hx hb dX8_needPlace_0 rfl (lv_at hl 0 rfl) ?_
  refine lv_if_ne (tgt := 15) hx hb dX8_needPlace_1 (by decide) (fun c_1 => ?_) (fun c_1 => ?_)
  · have hok := hok.2 c_1
    exact yEndv S hr hlocks hP hD hS (Nat.le_of_ble_eq_true rfl) (Nat.le_of_ble_eq_true rfl) dX8_needPlace_15 hok
  · have hok := hok.1 c_1
    exact False.elim hok

set_option maxHeartbeats 8000000 in
set_option maxRecDepth 100000 in
theorem v_X8_code (l : Launch) (D : va_G) (cI cZ cJ : ClassId) (o : Nat) (u : Nat → Nat) (T : Nat) (ra : Nat → Nat) (ga : SG) (σ : FS) (a1 : Int32) (a2 : Int32) (a3 : Int32) (Φ : Int32 → FS → Prop) (sz : Nat) (hok : (wp_X8_code σ a1 a2 a3 Φ)) : Met l yX8_code (uW yX8_code cX8_code 5 (some .int)) ({ frames := 6, cells := 0, slots := 0, locals := 139 }) (va_Pc [.ref o, .int a1, .int a2, .int a3] (aS ra ga D (tyL cI cZ cJ) (cW o u cI cZ cJ T σ) sz)) (yQi Φ D (cW o u cI cZ cJ T) (va_A (cW o u cI cZ cJ T σ) sz)) 0 0 (va_A (cW o u cI cZ cJ T σ) sz) := by
  refine aStart (lv := [(0, .ref o), (1, .int a1), (2, .int a2), (3, .int a3)]) (Qc := fun A => yQi Φ D (cW o u cI cZ cJ T) A) (by decide) (Nat.le_of_ble_eq_true rfl) rfl ?_
  intro p e s m args below meth c ls A H S hr hlocks hnm hl hK hP hD hS hA hB
  have hx := S.1
  have hb := S.2.1
  refine lv_aload_n hx hb dX8_code_0 rfl (lv_at hl 0 rfl) ?_
  refine lv_iload_n hx hb dX8_code_1 rfl (lv_at hl 1 rfl) ?_
  refine yVv (As := [.int a1]) (cw := (cW o u cI cZ cJ T)) (ci := 8) S (v_X8_needProcedure l D cI cZ cJ o u T ra ga σ a1 _ H.size hok) mi_X8_needProcedure kw_1_25 rfl rfl ⟨Nat.le_of_ble_eq_true rfl, Nat.le_of_ble_eq_true rfl⟩ hP hD hK hS hA hB cW_0 rfl rfl hl.1 (Nat.le_of_ble_eq_true rfl) ⟨Nat.le_of_ble_eq_true rfl, Nat.le_of_ble_eq_true rfl⟩ dX8_code_2 (fun σ1 H locs hok hz hP hD hS => ?_)
  refine lv_aload_n hx hb dX8_code_5 rfl (lv_at hl 0 rfl) ?_
  refine yVv (As := []) (cw := (cW o u cI cZ cJ T)) (ci := 8) S (v_X8_refresh l D cI cZ cJ o u T ra ga σ1 _ H.size hok) mi_X8_refresh kw_1_123 rfl rfl ⟨Nat.le_of_ble_eq_true rfl, Nat.le_of_ble_eq_true rfl⟩ hP hD hK hS hA hB cW_0 rfl rfl hl.1 (Nat.le_of_ble_eq_true rfl) ⟨Nat.le_of_ble_eq_true rfl, Nat.le_of_ble_eq_true rfl⟩ dX8_code_6 (fun σ2 H locs hok hz hP hD hS => ?_)
  refine lv_iload_n hx hb dX8_code_9 rfl (lv_at hl 2 rfl) ?_
  refine lv_if_lt (tgt := 26) hx hb dX8_code_10 (by decide) (fun c_10 => ?_) (fun c_10 => ?_)
  · have hok := hok.1 c_10
    refine lv_iconst (v := 0) hx hb dX8_code_26 (by decide) ?_
    exact False.elim hok
  · have hok := hok.2 c_10
    refine lv_iload_n hx hb dX8_code_13 rfl (lv_at hl 2 rfl) ?_
    refine lv_aload_n hx hb dX8_code_14 rfl (lv_at hl 0 rfl) ?_
    refine lv_iload_n hx hb dX8_code_15 rfl (lv_at hl 1 rfl) ?_
    refine yVi (As := [.int a1]) (cw := (cW o u cI cZ cJ T)) (ci := 8) S (v_X8_codeLength l D cI cZ cJ o u T ra ga σ2 a1 _ H.size hok) mi_X8_codeLength kw_2_54 rfl rfl ⟨Nat.le_of_ble_eq_true rfl, Nat.le_of_ble_eq_true rfl⟩ hP hD hK hS hA hB cW_0 rfl rfl hl.1 (Nat.le_of_ble_eq_true rfl) ⟨Nat.le_of_ble_eq_true rfl, Nat.le_of_ble_eq_true rfl⟩ dX8_code_16 (fun x4 σ3 H locs hok hz hP hD hS => ?_)
    refine lv_icmp_ge (tgt := 26) hx hb dX8_code_19 (by decide) (fun c_19 => ?_) (fun c_19 => ?_)
    · have hok := hok.1 c_19
      refine lv_iconst (v := 0) hx hb dX8_code_26 (by decide) ?_
      exact False.elim hok
    · have hok := hok.2 c_19
      refine lv_iconst (v := 1) hx hb dX8_code_22 (by decide) ?_
      refine lv_goto (tgt := 27) hx hb dX8_code_23 (by decide) ?_
      refine ySv (As := [.int 1]) (cw := (cW o u cI cZ cJ T)) S (v_X8_needPlace l D cI cZ cJ o u T ra ga σ3 1 _ H.size hok) ms_X8_needPlace kw_2_190 rfl rfl ⟨Nat.le_of_ble_eq_true rfl, Nat.le_of_ble_eq_true rfl⟩ hP hD hK hS hA hB hl.1 (Nat.le_of_ble_eq_true rfl) ⟨Nat.le_of_ble_eq_true rfl, Nat.le_of_ble_eq_true rfl⟩ dX8_code_27 (fun σ5 H locs hok hz hP hD hS => ?_)
      refine lv_iload_n hx hb dX8_code_30 rfl (lv_at hl 3 rfl) ?_
      refine lv_if_lt (tgt := 43) hx hb dX8_code_31 (by decide) (fun c_31 => ?_) (fun c_31 => ?_)
      · have hok := hok.1 c_31
        refine lv_iconst (v := 0) hx hb dX8_code_43 (by decide) ?_
        exact False.elim hok
      · have hok := hok.2 c_31
        refine lv_iload_n hx hb dX8_code_34 rfl (lv_at hl 3 rfl) ?_
        refine lv_iconst (v := 3) hx hb dX8_code_35 (by decide) ?_
        refine lv_icmp_gt (tgt := 43) hx hb dX8_code_36 (by decide) (fun c_36 => ?_) (fun c_36 => ?_)
        · have hok := hok.1 c_36
          refine lv_iconst (v := 0) hx hb dX8_code_43 (by decide) ?_
          exact False.elim hok
        · have hok := hok.2 c_36
          refine lv_iconst (v := 1) hx hb dX8_code_39 (by decide) ?_
          refine lv_goto (tgt := 44) hx hb dX8_code_40 (by decide) ?_
          refine ySv (As := [.int 1]) (cw := (cW o u cI cZ cJ T)) S (v_X8_needArgument l D cI cZ cJ o u T ra ga σ5 1 _ H.size hok) ms_X8_needArgument kw_1_104 rfl rfl ⟨Nat.le_of_ble_eq_true rfl, Nat.le_of_ble_eq_true rfl⟩ hP hD hK hS hA hB hl.1 (Nat.le_of_ble_eq_true rfl) ⟨Nat.le_of_ble_eq_true rfl, Nat.le_of_ble_eq_true rfl⟩ dX8_code_44 (fun σ6 H locs hok hz hP hD hS => ?_)
          refine lv_aload_n hx hb dX8_code_47 rfl (lv_at hl 0 rfl) ?_
          refine xg (ci := 8) S inX8 rfl hK hP cW_0 4 (by decide) rfl kw_5_187 rfl dX8_code_48 ?_
          refine xg (ci := 0) S inX0 rfl hK hP cW_39 5 (by decide) rfl kw_4_223 rfl dX8_code_51 ?_
          refine lv_iload_n hx hb dX8_code_54 rfl (lv_at hl 1 rfl) ?_
          have h_55 := hok.1
          have hok := hok.2
          refine xiald (t0 := 0) (v := (g σ6 40 a1)) S hK hP cW_40 rfl h_55 rfl dX8_code_55 ?_
          refine lv_iload_n hx hb dX8_code_56 rfl (lv_at hl 2 rfl) ?_
          refine xiadd (v := (g σ6 40 a1) + a2) S dX8_code_57 rfl ?_
          refine lv_topi (fun x7 ex7 => ?_)
          have hok := hok x7 ex7
          refine lv_istore (lv' := [(4, .int x7), (0, .ref o), (1, .int a1), (2, .int a2), (3, .int a3)]) hx hb dX8_code_58 hl (by decide) rfl (fun ls hl => ?_)
          refine lv_iload_n hx hb dX8_code_60 rfl (lv_at hl 4 rfl) ?_
          by_cases k_61_0 : a3 = 0
          · have hok := hok.1 k_61_0
            rw [k_61_0]
            refine lv_tableIn (off := 27) (tgt := 88) hx hb dX8_code_61 (by decide) (by decide) (by decide) (by decide) ?_
            refine lv_aload_n hx hb dX8_code_88 rfl (lv_at hl 1 rfl) ?_
            refine xg (ci := 8) S inX8 rfl hK hP cW_0 4 (by decide) rfl kw_5_187 rfl dX8_code_89 ?_
            refine xg (ci := 0) S inX0 rfl hK hP cW_39 7 (by decide) rfl kw_4_229 rfl dX8_code_92 ?_
            refine lv_iload hx hb dX8_code_95 (lv_at hl 0 rfl) ?_
            have h_97 := hok.1
            have hok := hok.2
            refine xiald (t0 := 0) (v := (g σ6 42 x7)) S hK hP cW_42 rfl h_97 rfl dX8_code_97 ?_
            exact yEnd S hr hlocks hP hD hS (Nat.le_of_ble_eq_true rfl) (Nat.le_of_ble_eq_true rfl) dX8_code_98 hok
          · have hok := hok.2 k_61_0
            by_cases k_61_1 : a3 = 1
            · have hok := hok.1 k_61_1
              rw [k_61_1]
              refine lv_tableIn (off := 38) (tgt := 99) hx hb dX8_code_61 (by decide) (by decide) (by decide) (by decide) ?_
              refine lv_aload_n hx hb dX8_code_99 rfl (lv_at hl 1 rfl) ?_
              refine xg (ci := 8) S inX8 rfl hK hP cW_0 4 (by decide) rfl kw_5_187 rfl dX8_code_100 ?_
              refine xg (ci := 0) S inX0 rfl hK hP cW_39 8 (by decide) rfl kw_4_232 rfl dX8_code_103 ?_
              refine lv_iload hx hb dX8_code_106 (lv_at hl 0 rfl) ?_
              have h_108 := hok.1
              have hok := hok.2
              refine xiald (t0 := 0) (v := (g σ6 43 x7)) S hK hP cW_43 rfl h_108 rfl dX8_code_108 ?_
              exact yEnd S hr hlocks hP hD hS (Nat.le_of_ble_eq_true rfl) (Nat.le_of_ble_eq_true rfl) dX8_code_109 hok
            · have hok := hok.2 k_61_1
              by_cases k_61_2 : a3 = 2
              · have hok := hok.1 k_61_2
                rw [k_61_2]
                refine lv_tableIn (off := 49) (tgt := 110) hx hb dX8_code_61 (by decide) (by decide) (by decide) (by decide) ?_
                refine lv_aload_n hx hb dX8_code_110 rfl (lv_at hl 1 rfl) ?_
                refine xg (ci := 8) S inX8 rfl hK hP cW_0 4 (by decide) rfl kw_5_187 rfl dX8_code_111 ?_
                refine xg (ci := 0) S inX0 rfl hK hP cW_39 9 (by decide) rfl kw_4_235 rfl dX8_code_114 ?_
                refine lv_iload hx hb dX8_code_117 (lv_at hl 0 rfl) ?_
                have h_119 := hok.1
                have hok := hok.2
                refine xiald (t0 := 0) (v := (g σ6 44 x7)) S hK hP cW_44 rfl h_119 rfl dX8_code_119 ?_
                exact yEnd S hr hlocks hP hD hS (Nat.le_of_ble_eq_true rfl) (Nat.le_of_ble_eq_true rfl) dX8_code_120 hok
              · have hok := hok.2 k_61_2
                have q_61_0 := sw_ni k_61_0 (z := 0) (by decide)
                have q_61_1 := sw_ni k_61_1 (z := 1) (by decide)
                have q_61_2 := sw_ni k_61_2 (z := 2) (by decide)
                refine lv_tableOut (tgt := 121) hx hb dX8_code_61 (by omega) (by decide) ?_
                refine lv_aload_n hx hb dX8_code_121 rfl (lv_at hl 1 rfl) ?_
                refine xg (ci := 8) S inX8 rfl hK hP cW_0 4 (by decide) rfl kw_5_187 rfl dX8_code_122 ?_
                refine xg (ci := 0) S inX0 rfl hK hP cW_39 12 (by decide) rfl kw_5_1 rfl dX8_code_125 ?_
                refine lv_iload hx hb dX8_code_128 (lv_at hl 0 rfl) ?_
                have h_130 := hok.1
                have hok := hok.2
                refine xiald (t0 := 0) (v := (g σ6 47 x7)) S hK hP cW_47 rfl h_130 rfl dX8_code_130 ?_
                exact yEnd S hr hlocks hP hD hS (Nat.le_of_ble_eq_true rfl) (Nat.le_of_ble_eq_true rfl) dX8_code_131 hok

set_option maxHeartbeats 8000000 in
set_option maxRecDepth 100000 in
theorem v_X5_has (l : Launch) (D : va_G) (cI cZ cJ : ClassId) (o : Nat) (u : Nat → Nat) (T : Nat) (ra : Nat → Nat) (ga : SG) (σ : FS) (a1 : Int32) (Φ : Int32 → FS → Prop) (sz : Nat) (hok : (wp_X5_has σ a1 Φ)) : Met l yX5_has (uW yX5_has cX5_has 2 (some .boolean)) ({ frames := 0, cells := 0, slots := 0, locals := 0 }) (va_Pc [.ref (u 12), .int a1] (aS ra ga D (tyL cI cZ cJ) (cW o u cI cZ cJ T σ) sz)) (yQi Φ D (cW o u cI cZ cJ T) (va_A (cW o u cI cZ cJ T σ) sz)) 0 0 (va_A (cW o u cI cZ cJ T σ) sz) := by
  refine aStart (lv := [(0, .ref (u 12)), (1, .int a1)]) (Qc := fun A => yQi Φ D (cW o u cI cZ cJ T) A) (by decide) (Nat.le_of_ble_eq_true rfl) rfl ?_
  intro p e s m args below meth c ls A H S hr hlocks hnm hl hK hP hD hS hA hB
  have hx := S.1
  have hb := S.2.1
  refine lv_iload_n hx hb dX5_has_0 rfl (lv_at hl 1 rfl) ?_
  refine lv_if_lt (tgt := 16) hx hb dX5_has_1 (by decide) (fun c_1 => ?_) (fun c_1 => ?_)
  · have hok := hok.1 c_1
    refine lv_iconst (v := 0) hx hb dX5_has_16 (by decide) ?_
    exact yEndZ S hr hlocks hP hD hS (Nat.le_of_ble_eq_true rfl) (Nat.le_of_ble_eq_true rfl) dX5_has_17 rfl hok
  · have hok := hok.2 c_1
    refine lv_iload_n hx hb dX5_has_4 rfl (lv_at hl 1 rfl) ?_
    refine lv_aload_n hx hb dX5_has_5 rfl (lv_at hl 0 rfl) ?_
    refine xg (ci := 5) S inX5 rfl hK hP cW_13 0 (by decide) rfl kw_4_37 rfl dX5_has_6 ?_
    refine lv_icmp_ge (tgt := 16) hx hb dX5_has_9 (by decide) (fun c_9 => ?_) (fun c_9 => ?_)
    · have hok := hok.1 c_9
      refine lv_iconst (v := 0) hx hb dX5_has_16 (by decide) ?_
      exact yEndZ S hr hlocks hP hD hS (Nat.le_of_ble_eq_true rfl) (Nat.le_of_ble_eq_true rfl) dX5_has_17 rfl hok
    · have hok := hok.2 c_9
      refine lv_iconst (v := 1) hx hb dX5_has_12 (by decide) ?_
      refine lv_goto (tgt := 17) hx hb dX5_has_13 (by decide) ?_
      exact yEndZ S hr hlocks hP hD hS (Nat.le_of_ble_eq_true rfl) (Nat.le_of_ble_eq_true rfl) dX5_has_17 rfl hok

set_option maxHeartbeats 8000000 in
set_option maxRecDepth 100000 in
theorem v_X8_needNode (l : Launch) (D : va_G) (cI cZ cJ : ClassId) (o : Nat) (u : Nat → Nat) (T : Nat) (ra : Nat → Nat) (ga : SG) (σ : FS) (a1 : Int32) (Φ : FS → Prop) (sz : Nat) (hok : (wp_X8_needNode σ a1 Φ)) : Met l yX8_needNode (uW yX8_needNode cX8_needNode 2 none) ({ frames := 1, cells := 0, slots := 0, locals := 21 }) (va_Pc [.ref o, .int a1] (aS ra ga D (tyL cI cZ cJ) (cW o u cI cZ cJ T σ) sz)) (yQv Φ D (cW o u cI cZ cJ T) (va_A (cW o u cI cZ cJ T σ) sz)) 0 0 (va_A (cW o u cI cZ cJ T σ) sz) := by
  refine aStart (lv := [(0, .ref o), (1, .int a1)]) (Qc := fun A => yQv Φ D (cW o u cI cZ cJ T) A) (by decide) (Nat.le_of_ble_eq_true rfl) rfl ?_
  intro p e s m args below meth c ls A H S hr hlocks hnm hl hK hP hD hS hA hB
  have hx := S.1
  have hb := S.2.1
  refine lv_aload_n hx hb dX8_needNode_0 rfl (lv_at hl 0 rfl) ?_
  refine xg (ci := 8) S inX8 rfl hK hP cW_0 1 (by decide) rfl kw_5_184 rfl dX8_needNode_1 ?_
  refine lv_iload_n hx hb dX8_needNode_4 rfl (lv_at hl 1 rfl) ?_
  refine yVi (As := [.int a1]) (cw := (cW o u cI cZ cJ T)) (ci := 5) S (v_X5_has l D cI cZ cJ o u T ra ga σ a1 _ H.size hok) mi_X5_has kw_2_150 rfl rfl ⟨Nat.le_of_ble_eq_true rfl, Nat.le_of_ble_eq_true rfl⟩ hP hD hK hS hA hB cW_13 rfl rfl hl.1 (Nat.le_of_ble_eq_true rfl) ⟨Nat.le_of_ble_eq_true rfl, Nat.le_of_ble_eq_true rfl⟩ dX8_needNode_5 (fun x2 σ1 H locs hok hz hP hD hS => ?_)
  refine lv_if_ne (tgt := 22) hx hb dX8_needNode_8 (by decide) (fun c_8 => ?_) (fun c_8 => ?_)
  · have hok := hok.2 c_8
    exact yEndv S hr hlocks hP hD hS (Nat.le_of_ble_eq_true rfl) (Nat.le_of_ble_eq_true rfl) dX8_needNode_22 hok
  · have hok := hok.1 c_8
    exact False.elim hok

set_option maxHeartbeats 8000000 in
set_option maxRecDepth 100000 in
theorem v_X8_ofNode (l : Launch) (D : va_G) (cI cZ cJ : ClassId) (o : Nat) (u : Nat → Nat) (T : Nat) (ra : Nat → Nat) (ga : SG) (σ : FS) (a1 : Int32) (a2 : Int32) (Φ : Int32 → FS → Prop) (sz : Nat) (hok : (wp_X8_ofNode σ a1 a2 Φ)) : Met l yX8_ofNode (uW yX8_ofNode cX8_ofNode 3 (some .int)) ({ frames := 6, cells := 0, slots := 0, locals := 134 }) (va_Pc [.ref o, .int a1, .int a2] (aS ra ga D (tyL cI cZ cJ) (cW o u cI cZ cJ T σ) sz)) (yQi Φ D (cW o u cI cZ cJ T) (va_A (cW o u cI cZ cJ T σ) sz)) 0 0 (va_A (cW o u cI cZ cJ T σ) sz) := by
  refine aStart (lv := [(0, .ref o), (1, .int a1), (2, .int a2)]) (Qc := fun A => yQi Φ D (cW o u cI cZ cJ T) A) (by decide) (Nat.le_of_ble_eq_true rfl) rfl ?_
  intro p e s m args below meth c ls A H S hr hlocks hnm hl hK hP hD hS hA hB
  have hx := S.1
  have hb := S.2.1
  refine lv_aload_n hx hb dX8_ofNode_0 rfl (lv_at hl 0 rfl) ?_
  refine lv_iload_n hx hb dX8_ofNode_1 rfl (lv_at hl 1 rfl) ?_
  refine yVv (As := [.int a1]) (cw := (cW o u cI cZ cJ T)) (ci := 8) S (v_X8_needNode l D cI cZ cJ o u T ra ga σ a1 _ H.size hok) mi_X8_needNode kw_2_146 rfl rfl ⟨Nat.le_of_ble_eq_true rfl, Nat.le_of_ble_eq_true rfl⟩ hP hD hK hS hA hB cW_0 rfl rfl hl.1 (Nat.le_of_ble_eq_true rfl) ⟨Nat.le_of_ble_eq_true rfl, Nat.le_of_ble_eq_true rfl⟩ dX8_ofNode_2 (fun σ1 H locs hok hz hP hD hS => ?_)
  refine lv_iload_n hx hb dX8_ofNode_5 rfl (lv_at hl 2 rfl) ?_
  refine lv_if_lt (tgt := 19) hx hb dX8_ofNode_6 (by decide) (fun c_6 => ?_) (fun c_6 => ?_)
  · have hok := hok.1 c_6
    refine lv_iconst (v := 0) hx hb dX8_ofNode_19 (by decide) ?_
    exact False.elim hok
  · have hok := hok.2 c_6
    refine lv_iload_n hx hb dX8_ofNode_9 rfl (lv_at hl 2 rfl) ?_
    refine lv_bipush (v := 7) hx hb dX8_ofNode_10 (by decide) ?_
    refine lv_icmp_gt (tgt := 19) hx hb dX8_ofNode_12 (by decide) (fun c_12 => ?_) (fun c_12 => ?_)
    · have hok := hok.1 c_12
      refine lv_iconst (v := 0) hx hb dX8_ofNode_19 (by decide) ?_
      exact False.elim hok
    · have hok := hok.2 c_12
      refine lv_iconst (v := 1) hx hb dX8_ofNode_15 (by decide) ?_
      refine lv_goto (tgt := 20) hx hb dX8_ofNode_16 (by decide) ?_
      refine ySv (As := [.int 1]) (cw := (cW o u cI cZ cJ T)) S (v_X8_needArgument l D cI cZ cJ o u T ra ga σ1 1 _ H.size hok) ms_X8_needArgument kw_1_104 rfl rfl ⟨Nat.le_of_ble_eq_true rfl, Nat.le_of_ble_eq_true rfl⟩ hP hD hK hS hA hB hl.1 (Nat.le_of_ble_eq_true rfl) ⟨Nat.le_of_ble_eq_true rfl, Nat.le_of_ble_eq_true rfl⟩ dX8_ofNode_20 (fun σ2 H locs hok hz hP hD hS => ?_)
      refine lv_aload_n hx hb dX8_ofNode_23 rfl (lv_at hl 0 rfl) ?_
      refine yVv (As := []) (cw := (cW o u cI cZ cJ T)) (ci := 8) S (v_X8_refresh l D cI cZ cJ o u T ra ga σ2 _ H.size hok) mi_X8_refresh kw_1_123 rfl rfl ⟨Nat.le_of_ble_eq_true rfl, Nat.le_of_ble_eq_true rfl⟩ hP hD hK hS hA hB cW_0 rfl rfl hl.1 (Nat.le_of_ble_eq_true rfl) ⟨Nat.le_of_ble_eq_true rfl, Nat.le_of_ble_eq_true rfl⟩ dX8_ofNode_24 (fun σ3 H locs hok hz hP hD hS => ?_)
      refine lv_iload_n hx hb dX8_ofNode_27 rfl (lv_at hl 2 rfl) ?_
      by_cases k_28_0 : a2 = 0
      · have hok := hok.1 k_28_0
        rw [k_28_0]
        refine lv_tableIn (off := 44) (tgt := 72) hx hb dX8_ofNode_28 (by decide) (by decide) (by decide) (by decide) ?_
        refine lv_aload_n hx hb dX8_ofNode_72 rfl (lv_at hl 0 rfl) ?_
        refine xg (ci := 8) S inX8 rfl hK hP cW_0 1 (by decide) rfl kw_5_184 rfl dX8_ofNode_73 ?_
        refine xg (ci := 5) S inX5 rfl hK hP cW_13 1 (by decide) rfl kw_4_45 rfl dX8_ofNode_76 ?_
        refine lv_iload_n hx hb dX8_ofNode_79 rfl (lv_at hl 1 rfl) ?_
        have h_80 := hok.1
        have hok := hok.2
        refine xiald (t0 := 0) (v := (g σ3 14 a1)) S hK hP cW_14 rfl h_80 rfl dX8_ofNode_80 ?_
        exact yEnd S hr hlocks hP hD hS (Nat.le_of_ble_eq_true rfl) (Nat.le_of_ble_eq_true rfl) dX8_ofNode_81 hok
      · have hok := hok.2 k_28_0
        by_cases k_28_1 : a2 = 1
        · have hok := hok.1 k_28_1
          rw [k_28_1]
          refine lv_tableIn (off := 54) (tgt := 82) hx hb dX8_ofNode_28 (by decide) (by decide) (by decide) (by decide) ?_
          refine lv_aload_n hx hb dX8_ofNode_82 rfl (lv_at hl 0 rfl) ?_
          refine xg (ci := 8) S inX8 rfl hK hP cW_0 1 (by decide) rfl kw_5_184 rfl dX8_ofNode_83 ?_
          refine xg (ci := 5) S inX5 rfl hK hP cW_13 2 (by decide) rfl kw_4_49 rfl dX8_ofNode_86 ?_
          refine lv_iload_n hx hb dX8_ofNode_89 rfl (lv_at hl 1 rfl) ?_
          have h_90 := hok.1
          have hok := hok.2
          refine xiald (t0 := 0) (v := (g σ3 15 a1)) S hK hP cW_15 rfl h_90 rfl dX8_ofNode_90 ?_
          exact yEnd S hr hlocks hP hD hS (Nat.le_of_ble_eq_true rfl) (Nat.le_of_ble_eq_true rfl) dX8_ofNode_91 hok
        · have hok := hok.2 k_28_1
          by_cases k_28_2 : a2 = 2
          · have hok := hok.1 k_28_2
            rw [k_28_2]
            refine lv_tableIn (off := 64) (tgt := 92) hx hb dX8_ofNode_28 (by decide) (by decide) (by decide) (by decide) ?_
            refine lv_aload_n hx hb dX8_ofNode_92 rfl (lv_at hl 0 rfl) ?_
            refine xg (ci := 8) S inX8 rfl hK hP cW_0 1 (by decide) rfl kw_5_184 rfl dX8_ofNode_93 ?_
            refine xg (ci := 5) S inX5 rfl hK hP cW_13 3 (by decide) rfl kw_4_53 rfl dX8_ofNode_96 ?_
            refine lv_iload_n hx hb dX8_ofNode_99 rfl (lv_at hl 1 rfl) ?_
            have h_100 := hok.1
            have hok := hok.2
            refine xiald (t0 := 0) (v := (g σ3 16 a1)) S hK hP cW_16 rfl h_100 rfl dX8_ofNode_100 ?_
            exact yEnd S hr hlocks hP hD hS (Nat.le_of_ble_eq_true rfl) (Nat.le_of_ble_eq_true rfl) dX8_ofNode_101 hok
          · have hok := hok.2 k_28_2
            by_cases k_28_3 : a2 = 3
            · have hok := hok.1 k_28_3
              rw [k_28_3]
              refine lv_tableIn (off := 74) (tgt := 102) hx hb dX8_ofNode_28 (by decide) (by decide) (by decide) (by decide) ?_
              refine lv_aload_n hx hb dX8_ofNode_102 rfl (lv_at hl 0 rfl) ?_
              refine xg (ci := 8) S inX8 rfl hK hP cW_0 1 (by decide) rfl kw_5_184 rfl dX8_ofNode_103 ?_
              refine xg (ci := 5) S inX5 rfl hK hP cW_13 4 (by decide) rfl kw_4_57 rfl dX8_ofNode_106 ?_
              refine lv_iload_n hx hb dX8_ofNode_109 rfl (lv_at hl 1 rfl) ?_
              have h_110 := hok.1
              have hok := hok.2
              refine xiald (t0 := 0) (v := (g σ3 17 a1)) S hK hP cW_17 rfl h_110 rfl dX8_ofNode_110 ?_
              exact yEnd S hr hlocks hP hD hS (Nat.le_of_ble_eq_true rfl) (Nat.le_of_ble_eq_true rfl) dX8_ofNode_111 hok
            · have hok := hok.2 k_28_3
              by_cases k_28_4 : a2 = 4
              · have hok := hok.1 k_28_4
                rw [k_28_4]
                refine lv_tableIn (off := 84) (tgt := 112) hx hb dX8_ofNode_28 (by decide) (by decide) (by decide) (by decide) ?_
                refine lv_aload_n hx hb dX8_ofNode_112 rfl (lv_at hl 0 rfl) ?_
                refine xg (ci := 8) S inX8 rfl hK hP cW_0 2 (by decide) rfl kw_5_185 rfl dX8_ofNode_113 ?_
                refine xg (ci := 4) S inX4 rfl hK hP cW_20 2 (by decide) rfl kw_4_92 rfl dX8_ofNode_116 ?_
                refine lv_iload_n hx hb dX8_ofNode_119 rfl (lv_at hl 1 rfl) ?_
                have h_120 := hok.1
                have hok := hok.2
                refine xiald (t0 := 0) (v := (g σ3 21 a1)) S hK hP cW_21 rfl h_120 rfl dX8_ofNode_120 ?_
                exact yEnd S hr hlocks hP hD hS (Nat.le_of_ble_eq_true rfl) (Nat.le_of_ble_eq_true rfl) dX8_ofNode_121 hok
              · have hok := hok.2 k_28_4
                by_cases k_28_5 : a2 = 5
                · have hok := hok.1 k_28_5
                  rw [k_28_5]
                  refine lv_tableIn (off := 94) (tgt := 122) hx hb dX8_ofNode_28 (by decide) (by decide) (by decide) (by decide) ?_
                  refine lv_aload_n hx hb dX8_ofNode_122 rfl (lv_at hl 0 rfl) ?_
                  refine xg (ci := 8) S inX8 rfl hK hP cW_0 2 (by decide) rfl kw_5_185 rfl dX8_ofNode_123 ?_
                  refine xg (ci := 4) S inX4 rfl hK hP cW_20 7 (by decide) rfl kw_4_106 rfl dX8_ofNode_126 ?_
                  refine lv_iload_n hx hb dX8_ofNode_129 rfl (lv_at hl 1 rfl) ?_
                  have h_130 := hok.1
                  have hok := hok.2
                  refine xzald (t0 := 1) (v := (g σ3 26 a1)) S hK hP cW_26 rfl h_130 rfl dX8_ofNode_130 ?_
                  refine lv_if_eq (tgt := 138) hx hb dX8_ofNode_131 (by decide) (fun c_131 => ?_) (fun c_131 => ?_)
                  · have hok := hok.1 c_131
                    refine lv_iconst (v := 0) hx hb dX8_ofNode_138 (by decide) ?_
                    exact yEnd S hr hlocks hP hD hS (Nat.le_of_ble_eq_true rfl) (Nat.le_of_ble_eq_true rfl) dX8_ofNode_139 hok
                  · have hok := hok.2 c_131
                    refine lv_iconst (v := 1) hx hb dX8_ofNode_134 (by decide) ?_
                    refine lv_goto (tgt := 139) hx hb dX8_ofNode_135 (by decide) ?_
                    exact yEnd S hr hlocks hP hD hS (Nat.le_of_ble_eq_true rfl) (Nat.le_of_ble_eq_true rfl) dX8_ofNode_139 hok
                · have hok := hok.2 k_28_5
                  by_cases k_28_6 : a2 = 6
                  · have hok := hok.1 k_28_6
                    rw [k_28_6]
                    refine lv_tableIn (off := 112) (tgt := 140) hx hb dX8_ofNode_28 (by decide) (by decide) (by decide) (by decide) ?_
                    refine lv_aload_n hx hb dX8_ofNode_140 rfl (lv_at hl 0 rfl) ?_
                    refine xg (ci := 8) S inX8 rfl hK hP cW_0 2 (by decide) rfl kw_5_185 rfl dX8_ofNode_141 ?_
                    refine xg (ci := 4) S inX4 rfl hK hP cW_20 9 (by decide) rfl kw_4_111 rfl dX8_ofNode_144 ?_
                    refine lv_iload_n hx hb dX8_ofNode_147 rfl (lv_at hl 1 rfl) ?_
                    have h_148 := hok.1
                    have hok := hok.2
                    refine xzald (t0 := 1) (v := (g σ3 28 a1)) S hK hP cW_28 rfl h_148 rfl dX8_ofNode_148 ?_
                    refine lv_if_eq (tgt := 156) hx hb dX8_ofNode_149 (by decide) (fun c_149 => ?_) (fun c_149 => ?_)
                    · have hok := hok.1 c_149
                      refine lv_iconst (v := 0) hx hb dX8_ofNode_156 (by decide) ?_
                      exact yEnd S hr hlocks hP hD hS (Nat.le_of_ble_eq_true rfl) (Nat.le_of_ble_eq_true rfl) dX8_ofNode_157 hok
                    · have hok := hok.2 c_149
                      refine lv_iconst (v := 1) hx hb dX8_ofNode_152 (by decide) ?_
                      refine lv_goto (tgt := 157) hx hb dX8_ofNode_153 (by decide) ?_
                      exact yEnd S hr hlocks hP hD hS (Nat.le_of_ble_eq_true rfl) (Nat.le_of_ble_eq_true rfl) dX8_ofNode_157 hok
                  · have hok := hok.2 k_28_6
                    have q_28_0 := sw_ni k_28_0 (z := 0) (by decide)
                    have q_28_1 := sw_ni k_28_1 (z := 1) (by decide)
                    have q_28_2 := sw_ni k_28_2 (z := 2) (by decide)
                    have q_28_3 := sw_ni k_28_3 (z := 3) (by decide)
                    have q_28_4 := sw_ni k_28_4 (z := 4) (by decide)
                    have q_28_5 := sw_ni k_28_5 (z := 5) (by decide)
                    have q_28_6 := sw_ni k_28_6 (z := 6) (by decide)
                    refine lv_tableOut (tgt := 158) hx hb dX8_ofNode_28 (by omega) (by decide) ?_
                    refine lv_aload_n hx hb dX8_ofNode_158 rfl (lv_at hl 0 rfl) ?_
                    refine xg (ci := 8) S inX8 rfl hK hP cW_0 2 (by decide) rfl kw_5_185 rfl dX8_ofNode_159 ?_
                    refine xg (ci := 4) S inX4 rfl hK hP cW_20 4 (by decide) rfl kw_4_95 rfl dX8_ofNode_162 ?_
                    refine lv_iload_n hx hb dX8_ofNode_165 rfl (lv_at hl 1 rfl) ?_
                    have h_166 := hok.1
                    have hok := hok.2
                    refine xiald (t0 := 0) (v := (g σ3 23 a1)) S hK hP cW_23 rfl h_166 rfl dX8_ofNode_166 ?_
                    exact yEnd S hr hlocks hP hD hS (Nat.le_of_ble_eq_true rfl) (Nat.le_of_ble_eq_true rfl) dX8_ofNode_167 hok

set_option maxHeartbeats 8000000 in
set_option maxRecDepth 100000 in
theorem v_X8_fault (l : Launch) (D : va_G) (cI cZ cJ : ClassId) (o : Nat) (u : Nat → Nat) (T : Nat) (ra : Nat → Nat) (ga : SG) (σ : FS) (a1 : Int32) (a2 : Int32) (Φ : Int32 → FS → Prop) (sz : Nat) (hok : (wp_X8_fault σ a1 a2 Φ)) : Met l yX8_fault (uW yX8_fault cX8_fault 3 (some .int)) ({ frames := 6, cells := 0, slots := 0, locals := 134 }) (va_Pc [.ref o, .int a1, .int a2] (aS ra ga D (tyL cI cZ cJ) (cW o u cI cZ cJ T σ) sz)) (yQi Φ D (cW o u cI cZ cJ T) (va_A (cW o u cI cZ cJ T σ) sz)) 0 0 (va_A (cW o u cI cZ cJ T σ) sz) := by
  refine aStart (lv := [(0, .ref o), (1, .int a1), (2, .int a2)]) (Qc := fun A => yQi Φ D (cW o u cI cZ cJ T) A) (by decide) (Nat.le_of_ble_eq_true rfl) rfl ?_
  intro p e s m args below meth c ls A H S hr hlocks hnm hl hK hP hD hS hA hB
  have hx := S.1
  have hb := S.2.1
  refine lv_aload_n hx hb dX8_fault_0 rfl (lv_at hl 0 rfl) ?_
  refine yVv (As := []) (cw := (cW o u cI cZ cJ T)) (ci := 8) S (v_X8_refresh l D cI cZ cJ o u T ra ga σ _ H.size hok) mi_X8_refresh kw_1_123 rfl rfl ⟨Nat.le_of_ble_eq_true rfl, Nat.le_of_ble_eq_true rfl⟩ hP hD hK hS hA hB cW_0 rfl rfl hl.1 (Nat.le_of_ble_eq_true rfl) ⟨Nat.le_of_ble_eq_true rfl, Nat.le_of_ble_eq_true rfl⟩ dX8_fault_1 (fun σ1 H locs hok hz hP hD hS => ?_)
  refine lv_iload_n hx hb dX8_fault_4 rfl (lv_at hl 1 rfl) ?_
  refine lv_if_lt (tgt := 23) hx hb dX8_fault_5 (by decide) (fun c_5 => ?_) (fun c_5 => ?_)
  · have hok := hok.1 c_5
    refine lv_iconst (v := 0) hx hb dX8_fault_23 (by decide) ?_
    exact False.elim hok
  · have hok := hok.2 c_5
    refine lv_iload_n hx hb dX8_fault_8 rfl (lv_at hl 1 rfl) ?_
    refine lv_aload_n hx hb dX8_fault_9 rfl (lv_at hl 0 rfl) ?_
    refine xg (ci := 8) S inX8 rfl hK hP cW_0 3 (by decide) rfl kw_5_186 rfl dX8_fault_10 ?_
    refine xg (ci := 2) S inX2 rfl hK hP cW_34 3 (by decide) rfl kw_4_182 rfl dX8_fault_13 ?_
    refine lv_icmp_ge (tgt := 23) hx hb dX8_fault_16 (by decide) (fun c_16 => ?_) (fun c_16 => ?_)
    · have hok := hok.1 c_16
      refine lv_iconst (v := 0) hx hb dX8_fault_23 (by decide) ?_
      exact False.elim hok
    · have hok := hok.2 c_16
      refine lv_iconst (v := 1) hx hb dX8_fault_19 (by decide) ?_
      refine lv_goto (tgt := 24) hx hb dX8_fault_20 (by decide) ?_
      refine ySv (As := [.int 1]) (cw := (cW o u cI cZ cJ T)) S (v_X8_needPlace l D cI cZ cJ o u T ra ga σ1 1 _ H.size hok) ms_X8_needPlace kw_2_190 rfl rfl ⟨Nat.le_of_ble_eq_true rfl, Nat.le_of_ble_eq_true rfl⟩ hP hD hK hS hA hB hl.1 (Nat.le_of_ble_eq_true rfl) ⟨Nat.le_of_ble_eq_true rfl, Nat.le_of_ble_eq_true rfl⟩ dX8_fault_24 (fun σ2 H locs hok hz hP hD hS => ?_)
      refine lv_iload_n hx hb dX8_fault_27 rfl (lv_at hl 2 rfl) ?_
      refine lv_if_lt (tgt := 40) hx hb dX8_fault_28 (by decide) (fun c_28 => ?_) (fun c_28 => ?_)
      · have hok := hok.1 c_28
        refine lv_iconst (v := 0) hx hb dX8_fault_40 (by decide) ?_
        exact False.elim hok
      · have hok := hok.2 c_28
        refine lv_iload_n hx hb dX8_fault_31 rfl (lv_at hl 2 rfl) ?_
        refine lv_iconst (v := 2) hx hb dX8_fault_32 (by decide) ?_
        refine lv_icmp_gt (tgt := 40) hx hb dX8_fault_33 (by decide) (fun c_33 => ?_) (fun c_33 => ?_)
        · have hok := hok.1 c_33
          refine lv_iconst (v := 0) hx hb dX8_fault_40 (by decide) ?_
          exact False.elim hok
        · have hok := hok.2 c_33
          refine lv_iconst (v := 1) hx hb dX8_fault_36 (by decide) ?_
          refine lv_goto (tgt := 41) hx hb dX8_fault_37 (by decide) ?_
          refine ySv (As := [.int 1]) (cw := (cW o u cI cZ cJ T)) S (v_X8_needArgument l D cI cZ cJ o u T ra ga σ2 1 _ H.size hok) ms_X8_needArgument kw_1_104 rfl rfl ⟨Nat.le_of_ble_eq_true rfl, Nat.le_of_ble_eq_true rfl⟩ hP hD hK hS hA hB hl.1 (Nat.le_of_ble_eq_true rfl) ⟨Nat.le_of_ble_eq_true rfl, Nat.le_of_ble_eq_true rfl⟩ dX8_fault_41 (fun σ3 H locs hok hz hP hD hS => ?_)
          refine lv_iload_n hx hb dX8_fault_44 rfl (lv_at hl 2 rfl) ?_
          by_cases k_45_0 : a2 = 0
          · have hok := hok.1 k_45_0
            rw [k_45_0]
            refine lv_lookup (off := 27) (tgt := 72) hx hb dX8_fault_45 (by decide) (by decide) (by decide) ?_
            refine lv_aload_n hx hb dX8_fault_72 rfl (lv_at hl 0 rfl) ?_
            refine xg (ci := 8) S inX8 rfl hK hP cW_0 3 (by decide) rfl kw_5_186 rfl dX8_fault_73 ?_
            refine xg (ci := 2) S inX2 rfl hK hP cW_34 4 (by decide) rfl kw_4_184 rfl dX8_fault_76 ?_
            refine lv_iload_n hx hb dX8_fault_79 rfl (lv_at hl 1 rfl) ?_
            have h_80 := hok.1
            have hok := hok.2
            refine xiald (t0 := 0) (v := (g σ3 35 a1)) S hK hP cW_35 rfl h_80 rfl dX8_fault_80 ?_
            exact yEnd S hr hlocks hP hD hS (Nat.le_of_ble_eq_true rfl) (Nat.le_of_ble_eq_true rfl) dX8_fault_81 hok
          · have hok := hok.2 k_45_0
            by_cases k_45_1 : a2 = 1
            · have hok := hok.1 k_45_1
              rw [k_45_1]
              refine lv_lookup (off := 37) (tgt := 82) hx hb dX8_fault_45 (by decide) (by decide) (by decide) ?_
              refine lv_aload_n hx hb dX8_fault_82 rfl (lv_at hl 0 rfl) ?_
              refine xg (ci := 8) S inX8 rfl hK hP cW_0 3 (by decide) rfl kw_5_186 rfl dX8_fault_83 ?_
              refine xg (ci := 2) S inX2 rfl hK hP cW_34 5 (by decide) rfl kw_4_186 rfl dX8_fault_86 ?_
              refine lv_iload_n hx hb dX8_fault_89 rfl (lv_at hl 1 rfl) ?_
              have h_90 := hok.1
              have hok := hok.2
              refine xiald (t0 := 0) (v := (g σ3 36 a1)) S hK hP cW_36 rfl h_90 rfl dX8_fault_90 ?_
              exact yEnd S hr hlocks hP hD hS (Nat.le_of_ble_eq_true rfl) (Nat.le_of_ble_eq_true rfl) dX8_fault_91 hok
            · have hok := hok.2 k_45_1
              have q_45_0 := sw_ni k_45_0 (z := 0) (by decide)
              have q_45_1 := sw_ni k_45_1 (z := 1) (by decide)
              refine lv_lookup (off := 47) (tgt := 92) hx hb dX8_fault_45 (by decide) (by show (if (0 : Int) = a2.toInt then (27 : Int) else if (1 : Int) = a2.toInt then (37 : Int) else 47) = 47; rw [if_neg (fun h => q_45_0 h.symm), if_neg (fun h => q_45_1 h.symm)]) (by decide) ?_
              refine lv_aload_n hx hb dX8_fault_92 rfl (lv_at hl 0 rfl) ?_
              refine xg (ci := 8) S inX8 rfl hK hP cW_0 3 (by decide) rfl kw_5_186 rfl dX8_fault_93 ?_
              refine xg (ci := 2) S inX2 rfl hK hP cW_34 6 (by decide) rfl kw_4_188 rfl dX8_fault_96 ?_
              refine lv_iload_n hx hb dX8_fault_99 rfl (lv_at hl 1 rfl) ?_
              have h_100 := hok.1
              have hok := hok.2
              refine xiald (t0 := 0) (v := (g σ3 37 a1)) S hK hP cW_37 rfl h_100 rfl dX8_fault_100 ?_
              exact yEnd S hr hlocks hP hD hS (Nat.le_of_ble_eq_true rfl) (Nat.le_of_ble_eq_true rfl) dX8_fault_101 hok

set_option maxHeartbeats 8000000 in
set_option maxRecDepth 100000 in
theorem v_X6_answer_80 (l : Launch) (D : va_G) (cI cZ cJ : ClassId) (o : Nat) (u : Nat → Nat) (T : Nat) (ra : Nat → Nat) (ga : SG) (σ : FS) (a1 : Int32) (Φ : Int32 → FS → Prop) (sz : Nat) (hok : (wp_X6_answer 80 σ a1 Φ)) : Met l yX6_answer (uW yX6_answer cX6_answer 2 (some .int)) ({ frames := 0, cells := 0, slots := 0, locals := 0 }) (va_Pc [.ref (u 79), .int a1] (aS ra ga D (tyL cI cZ cJ) (cW o u cI cZ cJ T σ) sz)) (yQi Φ D (cW o u cI cZ cJ T) (va_A (cW o u cI cZ cJ T σ) sz)) 0 0 (va_A (cW o u cI cZ cJ T σ) sz) := by
  refine aStart (lv := [(0, .ref (u 79)), (1, .int a1)]) (Qc := fun A => yQi Φ D (cW o u cI cZ cJ T) A) (by decide) (Nat.le_of_ble_eq_true rfl) rfl ?_
  intro p e s m args below meth c ls A H S hr hlocks hnm hl hK hP hD hS hA hB
  have hx := S.1
  have hb := S.2.1
  refine lv_iload_n hx hb dX6_answer_0 rfl (lv_at hl 1 rfl) ?_
  by_cases k_1_0 : a1 = 0
  · have hok := hok.1 k_1_0
    rw [k_1_0]
    refine lv_tableIn (off := 51) (tgt := 52) hx hb dX6_answer_1 (by decide) (by decide) (by decide) (by decide) ?_
    refine lv_aload_n hx hb dX6_answer_52 rfl (lv_at hl 0 rfl) ?_
    refine xg (ci := 6) S inX6 rfl hK hP cW_80 0 (by decide) rfl kw_5_71 rfl dX6_answer_53 ?_
    exact yEnd S hr hlocks hP hD hS (Nat.le_of_ble_eq_true rfl) (Nat.le_of_ble_eq_true rfl) dX6_answer_56 hok
  · have hok := hok.2 k_1_0
    by_cases k_1_1 : a1 = 1
    · have hok := hok.1 k_1_1
      rw [k_1_1]
      refine lv_tableIn (off := 56) (tgt := 57) hx hb dX6_answer_1 (by decide) (by decide) (by decide) (by decide) ?_
      refine lv_aload_n hx hb dX6_answer_57 rfl (lv_at hl 0 rfl) ?_
      refine xg (ci := 6) S inX6 rfl hK hP cW_80 1 (by decide) rfl kw_5_74 rfl dX6_answer_58 ?_
      exact yEnd S hr hlocks hP hD hS (Nat.le_of_ble_eq_true rfl) (Nat.le_of_ble_eq_true rfl) dX6_answer_61 hok
    · have hok := hok.2 k_1_1
      by_cases k_1_2 : a1 = 2
      · have hok := hok.1 k_1_2
        rw [k_1_2]
        refine lv_tableIn (off := 61) (tgt := 62) hx hb dX6_answer_1 (by decide) (by decide) (by decide) (by decide) ?_
        refine lv_aload_n hx hb dX6_answer_62 rfl (lv_at hl 0 rfl) ?_
        refine xg (ci := 6) S inX6 rfl hK hP cW_80 2 (by decide) rfl kw_5_76 rfl dX6_answer_63 ?_
        exact yEnd S hr hlocks hP hD hS (Nat.le_of_ble_eq_true rfl) (Nat.le_of_ble_eq_true rfl) dX6_answer_66 hok
      · have hok := hok.2 k_1_2
        by_cases k_1_3 : a1 = 3
        · have hok := hok.1 k_1_3
          rw [k_1_3]
          refine lv_tableIn (off := 66) (tgt := 67) hx hb dX6_answer_1 (by decide) (by decide) (by decide) (by decide) ?_
          refine lv_aload_n hx hb dX6_answer_67 rfl (lv_at hl 0 rfl) ?_
          refine xg (ci := 6) S inX6 rfl hK hP cW_80 3 (by decide) rfl kw_5_78 rfl dX6_answer_68 ?_
          exact yEnd S hr hlocks hP hD hS (Nat.le_of_ble_eq_true rfl) (Nat.le_of_ble_eq_true rfl) dX6_answer_71 hok
        · have hok := hok.2 k_1_3
          by_cases k_1_4 : a1 = 4
          · have hok := hok.1 k_1_4
            rw [k_1_4]
            refine lv_tableIn (off := 71) (tgt := 72) hx hb dX6_answer_1 (by decide) (by decide) (by decide) (by decide) ?_
            refine lv_aload_n hx hb dX6_answer_72 rfl (lv_at hl 0 rfl) ?_
            refine xg (ci := 6) S inX6 rfl hK hP cW_80 4 (by decide) rfl kw_5_80 rfl dX6_answer_73 ?_
            exact yEnd S hr hlocks hP hD hS (Nat.le_of_ble_eq_true rfl) (Nat.le_of_ble_eq_true rfl) dX6_answer_76 hok
          · have hok := hok.2 k_1_4
            by_cases k_1_5 : a1 = 5
            · have hok := hok.1 k_1_5
              rw [k_1_5]
              refine lv_tableIn (off := 76) (tgt := 77) hx hb dX6_answer_1 (by decide) (by decide) (by decide) (by decide) ?_
              refine lv_aload_n hx hb dX6_answer_77 rfl (lv_at hl 0 rfl) ?_
              refine xg (ci := 6) S inX6 rfl hK hP cW_80 5 (by decide) rfl kw_5_81 rfl dX6_answer_78 ?_
              exact yEnd S hr hlocks hP hD hS (Nat.le_of_ble_eq_true rfl) (Nat.le_of_ble_eq_true rfl) dX6_answer_81 hok
            · have hok := hok.2 k_1_5
              by_cases k_1_6 : a1 = 6
              · have hok := hok.1 k_1_6
                rw [k_1_6]
                refine lv_tableIn (off := 81) (tgt := 82) hx hb dX6_answer_1 (by decide) (by decide) (by decide) (by decide) ?_
                refine lv_aload_n hx hb dX6_answer_82 rfl (lv_at hl 0 rfl) ?_
                refine xg (ci := 6) S inX6 rfl hK hP cW_80 6 (by decide) rfl kw_5_83 rfl dX6_answer_83 ?_
                exact yEnd S hr hlocks hP hD hS (Nat.le_of_ble_eq_true rfl) (Nat.le_of_ble_eq_true rfl) dX6_answer_86 hok
              · have hok := hok.2 k_1_6
                by_cases k_1_7 : a1 = 7
                · have hok := hok.1 k_1_7
                  rw [k_1_7]
                  refine lv_tableIn (off := 86) (tgt := 87) hx hb dX6_answer_1 (by decide) (by decide) (by decide) (by decide) ?_
                  refine lv_aload_n hx hb dX6_answer_87 rfl (lv_at hl 0 rfl) ?_
                  refine xg (ci := 6) S inX6 rfl hK hP cW_80 7 (by decide) rfl kw_5_86 rfl dX6_answer_88 ?_
                  exact yEnd S hr hlocks hP hD hS (Nat.le_of_ble_eq_true rfl) (Nat.le_of_ble_eq_true rfl) dX6_answer_91 hok
                · have hok := hok.2 k_1_7
                  by_cases k_1_8 : a1 = 8
                  · have hok := hok.1 k_1_8
                    rw [k_1_8]
                    refine lv_tableIn (off := 91) (tgt := 92) hx hb dX6_answer_1 (by decide) (by decide) (by decide) (by decide) ?_
                    refine lv_aload_n hx hb dX6_answer_92 rfl (lv_at hl 0 rfl) ?_
                    refine xg (ci := 6) S inX6 rfl hK hP cW_80 8 (by decide) rfl kw_5_89 rfl dX6_answer_93 ?_
                    exact yEnd S hr hlocks hP hD hS (Nat.le_of_ble_eq_true rfl) (Nat.le_of_ble_eq_true rfl) dX6_answer_96 hok
                  · have hok := hok.2 k_1_8
                    have q_1_0 := sw_ni k_1_0 (z := 0) (by decide)
                    have q_1_1 := sw_ni k_1_1 (z := 1) (by decide)
                    have q_1_2 := sw_ni k_1_2 (z := 2) (by decide)
                    have q_1_3 := sw_ni k_1_3 (z := 3) (by decide)
                    have q_1_4 := sw_ni k_1_4 (z := 4) (by decide)
                    have q_1_5 := sw_ni k_1_5 (z := 5) (by decide)
                    have q_1_6 := sw_ni k_1_6 (z := 6) (by decide)
                    have q_1_7 := sw_ni k_1_7 (z := 7) (by decide)
                    have q_1_8 := sw_ni k_1_8 (z := 8) (by decide)
                    refine lv_tableOut (tgt := 97) hx hb dX6_answer_1 (by omega) (by decide) ?_
                    refine lv_aload_n hx hb dX6_answer_97 rfl (lv_at hl 0 rfl) ?_
                    refine xg (ci := 6) S inX6 rfl hK hP cW_80 9 (by decide) rfl kw_5_91 rfl dX6_answer_98 ?_
                    exact yEnd S hr hlocks hP hD hS (Nat.le_of_ble_eq_true rfl) (Nat.le_of_ble_eq_true rfl) dX6_answer_101 hok

set_option maxHeartbeats 8000000 in
set_option maxRecDepth 100000 in
theorem v_X8_ofRun (l : Launch) (D : va_G) (cI cZ cJ : ClassId) (o : Nat) (u : Nat → Nat) (T : Nat) (ra : Nat → Nat) (ga : SG) (σ : FS) (a1 : Int32) (Φ : Int32 → FS → Prop) (sz : Nat) (hok : (wp_X8_ofRun σ a1 Φ)) : Met l yX8_ofRun (uW yX8_ofRun cX8_ofRun 2 (some .int)) ({ frames := 1, cells := 0, slots := 0, locals := 21 }) (va_Pc [.ref o, .int a1] (aS ra ga D (tyL cI cZ cJ) (cW o u cI cZ cJ T σ) sz)) (yQi Φ D (cW o u cI cZ cJ T) (va_A (cW o u cI cZ cJ T σ) sz)) 0 0 (va_A (cW o u cI cZ cJ T σ) sz) := by
  refine aStart (lv := [(0, .ref o), (1, .int a1)]) (Qc := fun A => yQi Φ D (cW o u cI cZ cJ T) A) (by decide) (Nat.le_of_ble_eq_true rfl) rfl ?_
  intro p e s m args below meth c ls A H S hr hlocks hnm hl hK hP hD hS hA hB
  have hx := S.1
  have hb := S.2.1
  refine lv_iload_n hx hb dX8_ofRun_0 rfl (lv_at hl 1 rfl) ?_
  refine lv_if_lt (tgt := 14) hx hb dX8_ofRun_1 (by decide) (fun c_1 => ?_) (fun c_1 => ?_)
  · have hok := hok.1 c_1
    refine lv_iconst (v := 0) hx hb dX8_ofRun_14 (by decide) ?_
    exact False.elim hok
  · have hok := hok.2 c_1
    refine lv_iload_n hx hb dX8_ofRun_4 rfl (lv_at hl 1 rfl) ?_
    refine lv_bipush (v := 10) hx hb dX8_ofRun_5 (by decide) ?_
    refine lv_icmp_gt (tgt := 14) hx hb dX8_ofRun_7 (by decide) (fun c_7 => ?_) (fun c_7 => ?_)
    · have hok := hok.1 c_7
      refine lv_iconst (v := 0) hx hb dX8_ofRun_14 (by decide) ?_
      exact False.elim hok
    · have hok := hok.2 c_7
      refine lv_iconst (v := 1) hx hb dX8_ofRun_10 (by decide) ?_
      refine lv_goto (tgt := 15) hx hb dX8_ofRun_11 (by decide) ?_
      refine ySv (As := [.int 1]) (cw := (cW o u cI cZ cJ T)) S (v_X8_needArgument l D cI cZ cJ o u T ra ga σ 1 _ H.size hok) ms_X8_needArgument kw_1_104 rfl rfl ⟨Nat.le_of_ble_eq_true rfl, Nat.le_of_ble_eq_true rfl⟩ hP hD hK hS hA hB hl.1 (Nat.le_of_ble_eq_true rfl) ⟨Nat.le_of_ble_eq_true rfl, Nat.le_of_ble_eq_true rfl⟩ dX8_ofRun_15 (fun σ1 H locs hok hz hP hD hS => ?_)
      refine lv_iload_n hx hb dX8_ofRun_18 rfl (lv_at hl 1 rfl) ?_
      refine lv_bipush (v := 10) hx hb dX8_ofRun_19 (by decide) ?_
      refine lv_icmp_ne (tgt := 31) hx hb dX8_ofRun_21 (by decide) (fun c_21 => ?_) (fun c_21 => ?_)
      · have hok := hok.2 c_21
        refine lv_aload_n hx hb dX8_ofRun_31 rfl (lv_at hl 0 rfl) ?_
        refine xg (ci := 8) S inX8 rfl hK hP cW_0 7 (by decide) rfl kw_5_190 rfl dX8_ofRun_32 ?_
        refine lv_iload_n hx hb dX8_ofRun_35 rfl (lv_at hl 1 rfl) ?_
        refine yVi (As := [.int a1]) (cw := (cW o u cI cZ cJ T)) (ci := 6) S (v_X6_answer_80 l D cI cZ cJ o u T ra ga σ1 a1 _ H.size hok) mi_X6_answer kw_3_135 rfl rfl ⟨Nat.le_of_ble_eq_true rfl, Nat.le_of_ble_eq_true rfl⟩ hP hD hK hS hA hB cW_80 rfl rfl hl.1 (Nat.le_of_ble_eq_true rfl) ⟨Nat.le_of_ble_eq_true rfl, Nat.le_of_ble_eq_true rfl⟩ dX8_ofRun_36 (fun x3 σ2 H locs hok hz hP hD hS => ?_)
        exact yEnd S hr hlocks hP hD hS (Nat.le_of_ble_eq_true rfl) (Nat.le_of_ble_eq_true rfl) dX8_ofRun_39 hok
      · have hok := hok.1 c_21
        refine lv_aload_n hx hb dX8_ofRun_24 rfl (lv_at hl 0 rfl) ?_
        refine xg (ci := 8) S inX8 rfl hK hP cW_0 13 (by decide) rfl kw_5_196 rfl dX8_ofRun_25 ?_
        refine lv_goto (tgt := 39) hx hb dX8_ofRun_28 (by decide) ?_
        exact yEnd S hr hlocks hP hD hS (Nat.le_of_ble_eq_true rfl) (Nat.le_of_ble_eq_true rfl) dX8_ofRun_39 hok

set_option maxHeartbeats 8000000 in
set_option maxRecDepth 100000 in
theorem v_X6_kept_80 (l : Launch) (D : va_G) (cI cZ cJ : ClassId) (o : Nat) (u : Nat → Nat) (T : Nat) (ra : Nat → Nat) (ga : SG) (σ : FS) (Φ : Int32 → FS → Prop) (sz : Nat) (hok : (wp_X6_kept 80 σ Φ)) : Met l yX6_kept (uW yX6_kept cX6_kept 1 (some .int)) ({ frames := 0, cells := 0, slots := 0, locals := 0 }) (va_Pc [.ref (u 79)] (aS ra ga D (tyL cI cZ cJ) (cW o u cI cZ cJ T σ) sz)) (yQi Φ D (cW o u cI cZ cJ T) (va_A (cW o u cI cZ cJ T σ) sz)) 0 0 (va_A (cW o u cI cZ cJ T σ) sz) := by
  refine aStart (lv := [(0, .ref (u 79))]) (Qc := fun A => yQi Φ D (cW o u cI cZ cJ T) A) (by decide) (Nat.le_of_ble_eq_true rfl) rfl ?_
  intro p e s m args below meth c ls A H S hr hlocks hnm hl hK hP hD hS hA hB
  have hx := S.1
  have hb := S.2.1
  refine lv_aload_n hx hb dX6_kept_0 rfl (lv_at hl 0 rfl) ?_
  refine xg (ci := 6) S inX6 rfl hK hP cW_80 4 (by decide) rfl kw_5_80 rfl dX6_kept_1 ?_
  refine lv_bipush (v := 50) hx hb dX6_kept_4 (by decide) ?_
  refine lv_icmp_ge (tgt := 16) hx hb dX6_kept_6 (by decide) (fun c_6 => ?_) (fun c_6 => ?_)
  · have hok := hok.1 c_6
    refine lv_bipush (v := 50) hx hb dX6_kept_16 (by decide) ?_
    exact yEnd S hr hlocks hP hD hS (Nat.le_of_ble_eq_true rfl) (Nat.le_of_ble_eq_true rfl) dX6_kept_18 hok
  · have hok := hok.2 c_6
    refine lv_aload_n hx hb dX6_kept_9 rfl (lv_at hl 0 rfl) ?_
    refine xg (ci := 6) S inX6 rfl hK hP cW_80 4 (by decide) rfl kw_5_80 rfl dX6_kept_10 ?_
    refine lv_goto (tgt := 18) hx hb dX6_kept_13 (by decide) ?_
    exact yEnd S hr hlocks hP hD hS (Nat.le_of_ble_eq_true rfl) (Nat.le_of_ble_eq_true rfl) dX6_kept_18 hok

set_option maxHeartbeats 8000000 in
set_option maxRecDepth 100000 in
theorem v_X8_printed (l : Launch) (D : va_G) (cI cZ cJ : ClassId) (o : Nat) (u : Nat → Nat) (T : Nat) (ra : Nat → Nat) (ga : SG) (σ : FS) (a1 : Int32) (a2 : Int32) (Φ : Int32 → FS → Prop) (sz : Nat) (hok : (wp_X8_printed σ a1 a2 Φ)) : Met l yX8_printed (uW yX8_printed cX8_printed 3 (some .int)) ({ frames := 1, cells := 0, slots := 0, locals := 20 }) (va_Pc [.ref o, .int a1, .int a2] (aS ra ga D (tyL cI cZ cJ) (cW o u cI cZ cJ T σ) sz)) (yQi Φ D (cW o u cI cZ cJ T) (va_A (cW o u cI cZ cJ T σ) sz)) 0 0 (va_A (cW o u cI cZ cJ T σ) sz) := by
  refine aStart (lv := [(0, .ref o), (1, .int a1), (2, .int a2)]) (Qc := fun A => yQi Φ D (cW o u cI cZ cJ T) A) (by decide) (Nat.le_of_ble_eq_true rfl) rfl ?_
  intro p e s m args below meth c ls A H S hr hlocks hnm hl hK hP hD hS hA hB
  have hx := S.1
  have hb := S.2.1
  refine lv_iload_n hx hb dX8_printed_0 rfl (lv_at hl 1 rfl) ?_
  refine lv_if_lt (tgt := 19) hx hb dX8_printed_1 (by decide) (fun c_1 => ?_) (fun c_1 => ?_)
  · have hok := hok.1 c_1
    refine lv_iconst (v := 0) hx hb dX8_printed_19 (by decide) ?_
    exact False.elim hok
  · have hok := hok.2 c_1
    refine lv_iload_n hx hb dX8_printed_4 rfl (lv_at hl 1 rfl) ?_
    refine lv_aload_n hx hb dX8_printed_5 rfl (lv_at hl 0 rfl) ?_
    refine xg (ci := 8) S inX8 rfl hK hP cW_0 7 (by decide) rfl kw_5_190 rfl dX8_printed_6 ?_
    refine yVi (As := []) (cw := (cW o u cI cZ cJ T)) (ci := 6) S (v_X6_kept_80 l D cI cZ cJ o u T ra ga σ _ H.size hok) mi_X6_kept kw_3_143 rfl rfl ⟨Nat.le_of_ble_eq_true rfl, Nat.le_of_ble_eq_true rfl⟩ hP hD hK hS hA hB cW_80 rfl rfl hl.1 (Nat.le_of_ble_eq_true rfl) ⟨Nat.le_of_ble_eq_true rfl, Nat.le_of_ble_eq_true rfl⟩ dX8_printed_9 (fun x2 σ1 H locs hok hz hP hD hS => ?_)
    refine lv_icmp_ge (tgt := 19) hx hb dX8_printed_12 (by decide) (fun c_12 => ?_) (fun c_12 => ?_)
    · have hok := hok.1 c_12
      refine lv_iconst (v := 0) hx hb dX8_printed_19 (by decide) ?_
      exact False.elim hok
    · have hok := hok.2 c_12
      refine lv_iconst (v := 1) hx hb dX8_printed_15 (by decide) ?_
      refine lv_goto (tgt := 20) hx hb dX8_printed_16 (by decide) ?_
      refine ySv (As := [.int 1]) (cw := (cW o u cI cZ cJ T)) S (v_X8_needPlace l D cI cZ cJ o u T ra ga σ1 1 _ H.size hok) ms_X8_needPlace kw_2_190 rfl rfl ⟨Nat.le_of_ble_eq_true rfl, Nat.le_of_ble_eq_true rfl⟩ hP hD hK hS hA hB hl.1 (Nat.le_of_ble_eq_true rfl) ⟨Nat.le_of_ble_eq_true rfl, Nat.le_of_ble_eq_true rfl⟩ dX8_printed_20 (fun σ3 H locs hok hz hP hD hS => ?_)
      refine lv_iload_n hx hb dX8_printed_23 rfl (lv_at hl 2 rfl) ?_
      refine lv_if_lt (tgt := 36) hx hb dX8_printed_24 (by decide) (fun c_24 => ?_) (fun c_24 => ?_)
      · have hok := hok.1 c_24
        refine lv_iconst (v := 0) hx hb dX8_printed_36 (by decide) ?_
        exact False.elim hok
      · have hok := hok.2 c_24
        refine lv_iload_n hx hb dX8_printed_27 rfl (lv_at hl 2 rfl) ?_
        refine lv_iconst (v := 2) hx hb dX8_printed_28 (by decide) ?_
        refine lv_icmp_gt (tgt := 36) hx hb dX8_printed_29 (by decide) (fun c_29 => ?_) (fun c_29 => ?_)
        · have hok := hok.1 c_29
          refine lv_iconst (v := 0) hx hb dX8_printed_36 (by decide) ?_
          exact False.elim hok
        · have hok := hok.2 c_29
          refine lv_iconst (v := 1) hx hb dX8_printed_32 (by decide) ?_
          refine lv_goto (tgt := 37) hx hb dX8_printed_33 (by decide) ?_
          refine ySv (As := [.int 1]) (cw := (cW o u cI cZ cJ T)) S (v_X8_needArgument l D cI cZ cJ o u T ra ga σ3 1 _ H.size hok) ms_X8_needArgument kw_1_104 rfl rfl ⟨Nat.le_of_ble_eq_true rfl, Nat.le_of_ble_eq_true rfl⟩ hP hD hK hS hA hB hl.1 (Nat.le_of_ble_eq_true rfl) ⟨Nat.le_of_ble_eq_true rfl, Nat.le_of_ble_eq_true rfl⟩ dX8_printed_37 (fun σ4 H locs hok hz hP hD hS => ?_)
          refine lv_iload_n hx hb dX8_printed_40 rfl (lv_at hl 2 rfl) ?_
          by_cases k_41_0 : a2 = 0
          · have hok := hok.1 k_41_0
            rw [k_41_0]
            refine lv_lookup (off := 27) (tgt := 68) hx hb dX8_printed_41 (by decide) (by decide) (by decide) ?_
            refine lv_aload_n hx hb dX8_printed_68 rfl (lv_at hl 0 rfl) ?_
            refine xg (ci := 8) S inX8 rfl hK hP cW_0 7 (by decide) rfl kw_5_190 rfl dX8_printed_69 ?_
            refine xg (ci := 6) S inX6 rfl hK hP cW_80 11 (by decide) rfl kw_5_95 rfl dX8_printed_72 ?_
            refine lv_iload_n hx hb dX8_printed_75 rfl (lv_at hl 1 rfl) ?_
            have h_76 := hok.1
            have hok := hok.2
            refine xiald (t0 := 0) (v := (g σ4 81 a1)) S hK hP cW_81 rfl h_76 rfl dX8_printed_76 ?_
            exact yEnd S hr hlocks hP hD hS (Nat.le_of_ble_eq_true rfl) (Nat.le_of_ble_eq_true rfl) dX8_printed_77 hok
          · have hok := hok.2 k_41_0
            by_cases k_41_1 : a2 = 1
            · have hok := hok.1 k_41_1
              rw [k_41_1]
              refine lv_lookup (off := 37) (tgt := 78) hx hb dX8_printed_41 (by decide) (by decide) (by decide) ?_
              refine lv_aload_n hx hb dX8_printed_78 rfl (lv_at hl 0 rfl) ?_
              refine xg (ci := 8) S inX8 rfl hK hP cW_0 7 (by decide) rfl kw_5_190 rfl dX8_printed_79 ?_
              refine xg (ci := 6) S inX6 rfl hK hP cW_80 12 (by decide) rfl kw_5_97 rfl dX8_printed_82 ?_
              refine lv_iload_n hx hb dX8_printed_85 rfl (lv_at hl 1 rfl) ?_
              have h_86 := hok.1
              have hok := hok.2
              refine xiald (t0 := 0) (v := (g σ4 82 a1)) S hK hP cW_82 rfl h_86 rfl dX8_printed_86 ?_
              exact yEnd S hr hlocks hP hD hS (Nat.le_of_ble_eq_true rfl) (Nat.le_of_ble_eq_true rfl) dX8_printed_87 hok
            · have hok := hok.2 k_41_1
              have q_41_0 := sw_ni k_41_0 (z := 0) (by decide)
              have q_41_1 := sw_ni k_41_1 (z := 1) (by decide)
              refine lv_lookup (off := 47) (tgt := 88) hx hb dX8_printed_41 (by decide) (by show (if (0 : Int) = a2.toInt then (27 : Int) else if (1 : Int) = a2.toInt then (37 : Int) else 47) = 47; rw [if_neg (fun h => q_41_0 h.symm), if_neg (fun h => q_41_1 h.symm)]) (by decide) ?_
              refine lv_aload_n hx hb dX8_printed_88 rfl (lv_at hl 0 rfl) ?_
              refine xg (ci := 8) S inX8 rfl hK hP cW_0 7 (by decide) rfl kw_5_190 rfl dX8_printed_89 ?_
              refine xg (ci := 6) S inX6 rfl hK hP cW_80 13 (by decide) rfl kw_5_99 rfl dX8_printed_92 ?_
              refine lv_iload_n hx hb dX8_printed_95 rfl (lv_at hl 1 rfl) ?_
              have h_96 := hok.1
              have hok := hok.2
              refine xiald (t0 := 0) (v := (g σ4 83 a1)) S hK hP cW_83 rfl h_96 rfl dX8_printed_96 ?_
              exact yEnd S hr hlocks hP hD hS (Nat.le_of_ble_eq_true rfl) (Nat.le_of_ble_eq_true rfl) dX8_printed_97 hok

set_option maxHeartbeats 8000000 in
set_option maxRecDepth 100000 in
theorem v_X0_isPushed_52 (l : Launch) (D : va_G) (cI cZ cJ : ClassId) (o : Nat) (u : Nat → Nat) (T : Nat) (ra : Nat → Nat) (ga : SG) (σ : FS) (a1 : Int32) (Φ : Int32 → FS → Prop) (sz : Nat) (hok : (wp_X0_isPushed 52 σ a1 Φ)) : Met l yX0_isPushed (uW yX0_isPushed cX0_isPushed 2 (some .boolean)) ({ frames := 0, cells := 0, slots := 0, locals := 0 }) (va_Pc [.ref (u 51), .int a1] (aS ra ga D (tyL cI cZ cJ) (cW o u cI cZ cJ T σ) sz)) (yQi Φ D (cW o u cI cZ cJ T) (va_A (cW o u cI cZ cJ T σ) sz)) 0 0 (va_A (cW o u cI cZ cJ T σ) sz) := by
  refine aStart (lv := [(0, .ref (u 51)), (1, .int a1)]) (Qc := fun A => yQi Φ D (cW o u cI cZ cJ T) A) (by decide) (Nat.le_of_ble_eq_true rfl) rfl ?_
  intro p e s m args below meth c ls A H S hr hlocks hnm hl hK hP hD hS hA hB
  have hx := S.1
  have hb := S.2.1
  refine lv_aload_n hx hb dX0_isPushed_0 rfl (lv_at hl 0 rfl) ?_
  refine xg (ci := 0) S inX0 rfl hK hP cW_52 2 (by decide) rfl kw_4_217 rfl dX0_isPushed_1 ?_
  refine xg (ci := 4) S inX4 rfl hK hP cW_20 7 (by decide) rfl kw_4_105 rfl dX0_isPushed_4 ?_
  refine lv_iload_n hx hb dX0_isPushed_7 rfl (lv_at hl 1 rfl) ?_
  have h_8 := hok.1
  have hok := hok.2
  refine xzald (t0 := 1) (v := (g σ 26 a1)) S hK hP cW_26 rfl h_8 rfl dX0_isPushed_8 ?_
  refine lv_if_eq (tgt := 25) hx hb dX0_isPushed_9 (by decide) (fun c_9 => ?_) (fun c_9 => ?_)
  · have hok := hok.1 c_9
    refine lv_iconst (v := 0) hx hb dX0_isPushed_25 (by decide) ?_
    exact yEndZ S hr hlocks hP hD hS (Nat.le_of_ble_eq_true rfl) (Nat.le_of_ble_eq_true rfl) dX0_isPushed_26 rfl hok
  · have hok := hok.2 c_9
    refine lv_aload_n hx hb dX0_isPushed_12 rfl (lv_at hl 0 rfl) ?_
    refine xg (ci := 0) S inX0 rfl hK hP cW_52 3 (by decide) rfl kw_4_218 rfl dX0_isPushed_13 ?_
    refine lv_iconst (v := 1) hx hb dX0_isPushed_16 (by decide) ?_
    refine xiand (v := (σ.1 52 3) &&& 1) S dX0_isPushed_17 rfl ?_
    refine lv_if_eq (tgt := 25) hx hb dX0_isPushed_18 (by decide) (fun c_18 => ?_) (fun c_18 => ?_)
    · have hok := hok.1 c_18
      refine lv_iconst (v := 0) hx hb dX0_isPushed_25 (by decide) ?_
      exact yEndZ S hr hlocks hP hD hS (Nat.le_of_ble_eq_true rfl) (Nat.le_of_ble_eq_true rfl) dX0_isPushed_26 rfl hok
    · have hok := hok.2 c_18
      refine lv_iconst (v := 1) hx hb dX0_isPushed_21 (by decide) ?_
      refine lv_goto (tgt := 26) hx hb dX0_isPushed_22 (by decide) ?_
      exact yEndZ S hr hlocks hP hD hS (Nat.le_of_ble_eq_true rfl) (Nat.le_of_ble_eq_true rfl) dX0_isPushed_26 rfl hok

set_option maxHeartbeats 8000000 in
set_option maxRecDepth 100000 in
theorem v_X0_lengthOfPart_52 (l : Launch) (D : va_G) (cI cZ cJ : ClassId) (o : Nat) (u : Nat → Nat) (T : Nat) (ra : Nat → Nat) (ga : SG) (σ : FS) (a1 : Int32) (Φ : Int32 → FS → Prop) (sz : Nat) (hok : (wp_X0_lengthOfPart 52 σ a1 Φ)) : Met l yX0_lengthOfPart (uW yX0_lengthOfPart cX0_lengthOfPart 2 (some .int)) ({ frames := 0, cells := 0, slots := 0, locals := 0 }) (va_Pc [.ref (u 51), .int a1] (aS ra ga D (tyL cI cZ cJ) (cW o u cI cZ cJ T σ) sz)) (yQi Φ D (cW o u cI cZ cJ T) (va_A (cW o u cI cZ cJ T σ) sz)) 0 0 (va_A (cW o u cI cZ cJ T σ) sz) := by
  refine aStart (lv := [(0, .ref (u 51)), (1, .int a1)]) (Qc := fun A => yQi Φ D (cW o u cI cZ cJ T) A) (by decide) (Nat.le_of_ble_eq_true rfl) rfl ?_
  intro p e s m args below meth c ls A H S hr hlocks hnm hl hK hP hD hS hA hB
  have hx := S.1
  have hb := S.2.1
  refine lv_iload_n hx hb dX0_lengthOfPart_0 rfl (lv_at hl 1 rfl) ?_
  refine lv_iconst (v := (-1)) hx hb dX0_lengthOfPart_1 (by decide) ?_
  refine lv_icmp_ne (tgt := 9) hx hb dX0_lengthOfPart_2 (by decide) (fun c_2 => ?_) (fun c_2 => ?_)
  · have hok := hok.2 c_2
    refine lv_aload_n hx hb dX0_lengthOfPart_9 rfl (lv_at hl 0 rfl) ?_
    refine xg (ci := 0) S inX0 rfl hK hP cW_52 14 (by decide) rfl kw_5_4 rfl dX0_lengthOfPart_10 ?_
    refine lv_iload_n hx hb dX0_lengthOfPart_13 rfl (lv_at hl 1 rfl) ?_
    have h_14 := hok.1
    have hok := hok.2
    refine xiald (t0 := 0) (v := (g σ 62 a1)) S hK hP cW_62 rfl h_14 rfl dX0_lengthOfPart_14 ?_
    exact yEnd S hr hlocks hP hD hS (Nat.le_of_ble_eq_true rfl) (Nat.le_of_ble_eq_true rfl) dX0_lengthOfPart_15 hok
  · have hok := hok.1 c_2
    refine lv_iconst (v := 0) hx hb dX0_lengthOfPart_5 (by decide) ?_
    refine lv_goto (tgt := 15) hx hb dX0_lengthOfPart_6 (by decide) ?_
    exact yEnd S hr hlocks hP hD hS (Nat.le_of_ble_eq_true rfl) (Nat.le_of_ble_eq_true rfl) dX0_lengthOfPart_15 hok

set_option maxHeartbeats 8000000 in
set_option maxRecDepth 100000 in
theorem v_X0_isJump_52 (l : Launch) (D : va_G) (cI cZ cJ : ClassId) (o : Nat) (u : Nat → Nat) (T : Nat) (ra : Nat → Nat) (ga : SG) (σ : FS) (a1 : Int32) (Φ : Int32 → FS → Prop) (sz : Nat) (hok : (wp_X0_isJump 52 σ a1 Φ)) : Met l yX0_isJump (uW yX0_isJump cX0_isJump 2 (some .boolean)) ({ frames := 0, cells := 0, slots := 0, locals := 0 }) (va_Pc [.ref (u 51), .int a1] (aS ra ga D (tyL cI cZ cJ) (cW o u cI cZ cJ T σ) sz)) (yQi Φ D (cW o u cI cZ cJ T) (va_A (cW o u cI cZ cJ T σ) sz)) 0 0 (va_A (cW o u cI cZ cJ T σ) sz) := by
  refine aStart (lv := [(0, .ref (u 51)), (1, .int a1)]) (Qc := fun A => yQi Φ D (cW o u cI cZ cJ T) A) (by decide) (Nat.le_of_ble_eq_true rfl) rfl ?_
  intro p e s m args below meth c ls A H S hr hlocks hnm hl hK hP hD hS hA hB
  have hx := S.1
  have hb := S.2.1
  refine lv_aload_n hx hb dX0_isJump_0 rfl (lv_at hl 0 rfl) ?_
  refine xg (ci := 0) S inX0 rfl hK hP cW_52 2 (by decide) rfl kw_4_217 rfl dX0_isJump_1 ?_
  refine xg (ci := 4) S inX4 rfl hK hP cW_20 9 (by decide) rfl kw_4_110 rfl dX0_isJump_4 ?_
  refine lv_iload_n hx hb dX0_isJump_7 rfl (lv_at hl 1 rfl) ?_
  have h_8 := hok.1
  have hok := hok.2
  refine xzald (t0 := 1) (v := (g σ 28 a1)) S hK hP cW_28 rfl h_8 rfl dX0_isJump_8 ?_
  refine lv_if_eq (tgt := 25) hx hb dX0_isJump_9 (by decide) (fun c_9 => ?_) (fun c_9 => ?_)
  · have hok := hok.1 c_9
    refine lv_iconst (v := 0) hx hb dX0_isJump_25 (by decide) ?_
    exact yEndZ S hr hlocks hP hD hS (Nat.le_of_ble_eq_true rfl) (Nat.le_of_ble_eq_true rfl) dX0_isJump_26 rfl hok
  · have hok := hok.2 c_9
    refine lv_aload_n hx hb dX0_isJump_12 rfl (lv_at hl 0 rfl) ?_
    refine xg (ci := 0) S inX0 rfl hK hP cW_52 3 (by decide) rfl kw_4_218 rfl dX0_isJump_13 ?_
    refine lv_iconst (v := 2) hx hb dX0_isJump_16 (by decide) ?_
    refine xiand (v := (σ.1 52 3) &&& 2) S dX0_isJump_17 rfl ?_
    refine lv_if_eq (tgt := 25) hx hb dX0_isJump_18 (by decide) (fun c_18 => ?_) (fun c_18 => ?_)
    · have hok := hok.1 c_18
      refine lv_iconst (v := 0) hx hb dX0_isJump_25 (by decide) ?_
      exact yEndZ S hr hlocks hP hD hS (Nat.le_of_ble_eq_true rfl) (Nat.le_of_ble_eq_true rfl) dX0_isJump_26 rfl hok
    · have hok := hok.2 c_18
      refine lv_iconst (v := 1) hx hb dX0_isJump_21 (by decide) ?_
      refine lv_goto (tgt := 26) hx hb dX0_isJump_22 (by decide) ?_
      exact yEndZ S hr hlocks hP hD hS (Nat.le_of_ble_eq_true rfl) (Nat.le_of_ble_eq_true rfl) dX0_isJump_26 rfl hok

set_option maxHeartbeats 8000000 in
set_option maxRecDepth 100000 in
theorem v_X0_ownLength_52 (l : Launch) (D : va_G) (cI cZ cJ : ClassId) (o : Nat) (u : Nat → Nat) (T : Nat) (ra : Nat → Nat) (ga : SG) (σ : FS) (a1 : Int32) (Φ : Int32 → FS → Prop) (sz : Nat) (hok : (wp_X0_ownLength 52 σ a1 Φ)) : Met l yX0_ownLength (uW yX0_ownLength cX0_ownLength 2 (some .int)) ({ frames := 1, cells := 0, slots := 0, locals := 21 }) (va_Pc [.ref (u 51), .int a1] (aS ra ga D (tyL cI cZ cJ) (cW o u cI cZ cJ T σ) sz)) (yQi Φ D (cW o u cI cZ cJ T) (va_A (cW o u cI cZ cJ T σ) sz)) 0 0 (va_A (cW o u cI cZ cJ T σ) sz) := by
  refine aStart (lv := [(0, .ref (u 51)), (1, .int a1)]) (Qc := fun A => yQi Φ D (cW o u cI cZ cJ T) A) (by decide) (Nat.le_of_ble_eq_true rfl) rfl ?_
  intro p e s m args below meth c ls A H S hr hlocks hnm hl hK hP hD hS hA hB
  have hx := S.1
  have hb := S.2.1
  refine lv_aload_n hx hb dX0_ownLength_0 rfl (lv_at hl 0 rfl) ?_
  refine xg (ci := 0) S inX0 rfl hK hP cW_52 1 (by decide) rfl kw_4_216 rfl dX0_ownLength_1 ?_
  refine xg (ci := 5) S inX5 rfl hK hP cW_13 1 (by decide) rfl kw_4_44 rfl dX0_ownLength_4 ?_
  refine lv_iload_n hx hb dX0_ownLength_7 rfl (lv_at hl 1 rfl) ?_
  have h_8 := hok.1
  have hok := hok.2
  refine xiald (t0 := 0) (v := (g σ 14 a1)) S hK hP cW_14 rfl h_8 rfl dX0_ownLength_8 ?_
  refine lv_topi (fun x1 ex1 => ?_)
  have hok := hok x1 ex1
  by_cases k_9_0 : x1 = 9
  · have hok := hok.1 k_9_0
    rw [k_9_0]
    refine lv_tableIn (off := 57) (tgt := 66) hx hb dX0_ownLength_9 (by decide) (by decide) (by decide) (by decide) ?_
    refine lv_aload_n hx hb dX0_ownLength_66 rfl (lv_at hl 0 rfl) ?_
    refine xg (ci := 0) S inX0 rfl hK hP cW_52 2 (by decide) rfl kw_4_217 rfl dX0_ownLength_67 ?_
    refine xg (ci := 4) S inX4 rfl hK hP cW_20 10 (by decide) rfl kw_4_114 rfl dX0_ownLength_70 ?_
    refine lv_iload_n hx hb dX0_ownLength_73 rfl (lv_at hl 1 rfl) ?_
    have h_74 := hok.1
    have hok := hok.2
    refine xiald (t0 := 0) (v := (g σ 29 a1)) S hK hP cW_29 rfl h_74 rfl dX0_ownLength_74 ?_
    refine lv_iconst (v := 2) hx hb dX0_ownLength_75 (by decide) ?_
    refine lv_icmp_ne (tgt := 83) hx hb dX0_ownLength_76 (by decide) (fun c_76 => ?_) (fun c_76 => ?_)
    · have hok := hok.2 c_76
      refine lv_iconst (v := 0) hx hb dX0_ownLength_83 (by decide) ?_
      exact yEnd S hr hlocks hP hD hS (Nat.le_of_ble_eq_true rfl) (Nat.le_of_ble_eq_true rfl) dX0_ownLength_84 hok
    · have hok := hok.1 c_76
      refine lv_iconst (v := 2) hx hb dX0_ownLength_79 (by decide) ?_
      refine lv_goto (tgt := 84) hx hb dX0_ownLength_80 (by decide) ?_
      exact yEnd S hr hlocks hP hD hS (Nat.le_of_ble_eq_true rfl) (Nat.le_of_ble_eq_true rfl) dX0_ownLength_84 hok
  · have hok := hok.2 k_9_0
    by_cases k_9_1 : x1 = 10
    · have hok := hok.1 k_9_1
      rw [k_9_1]
      refine lv_tableIn (off := 111) (tgt := 120) hx hb dX0_ownLength_9 (by decide) (by decide) (by decide) (by decide) ?_
      refine lv_iconst (v := 1) hx hb dX0_ownLength_120 (by decide) ?_
      exact yEnd S hr hlocks hP hD hS (Nat.le_of_ble_eq_true rfl) (Nat.le_of_ble_eq_true rfl) dX0_ownLength_121 hok
    · have hok := hok.2 k_9_1
      by_cases k_9_2 : x1 = 11
      · have hok := hok.1 k_9_2
        rw [k_9_2]
        refine lv_tableIn (off := 111) (tgt := 120) hx hb dX0_ownLength_9 (by decide) (by decide) (by decide) (by decide) ?_
        refine lv_iconst (v := 1) hx hb dX0_ownLength_120 (by decide) ?_
        exact yEnd S hr hlocks hP hD hS (Nat.le_of_ble_eq_true rfl) (Nat.le_of_ble_eq_true rfl) dX0_ownLength_121 hok
      · have hok := hok.2 k_9_2
        by_cases k_9_3 : x1 = 12
        · have hok := hok.1 k_9_3
          rw [k_9_3]
          refine lv_tableIn (off := 55) (tgt := 64) hx hb dX0_ownLength_9 (by decide) (by decide) (by decide) (by decide) ?_
          refine lv_iconst (v := 0) hx hb dX0_ownLength_64 (by decide) ?_
          exact yEnd S hr hlocks hP hD hS (Nat.le_of_ble_eq_true rfl) (Nat.le_of_ble_eq_true rfl) dX0_ownLength_65 hok
        · have hok := hok.2 k_9_3
          by_cases k_9_4 : x1 = 13
          · have hok := hok.1 k_9_4
            rw [k_9_4]
            refine lv_tableIn (off := 111) (tgt := 120) hx hb dX0_ownLength_9 (by decide) (by decide) (by decide) (by decide) ?_
            refine lv_iconst (v := 1) hx hb dX0_ownLength_120 (by decide) ?_
            exact yEnd S hr hlocks hP hD hS (Nat.le_of_ble_eq_true rfl) (Nat.le_of_ble_eq_true rfl) dX0_ownLength_121 hok
          · have hok := hok.2 k_9_4
            by_cases k_9_5 : x1 = 14
            · have hok := hok.1 k_9_5
              rw [k_9_5]
              refine lv_tableIn (off := 111) (tgt := 120) hx hb dX0_ownLength_9 (by decide) (by decide) (by decide) (by decide) ?_
              refine lv_iconst (v := 1) hx hb dX0_ownLength_120 (by decide) ?_
              exact yEnd S hr hlocks hP hD hS (Nat.le_of_ble_eq_true rfl) (Nat.le_of_ble_eq_true rfl) dX0_ownLength_121 hok
            · have hok := hok.2 k_9_5
              by_cases k_9_6 : x1 = 15
              · have hok := hok.1 k_9_6
                rw [k_9_6]
                refine lv_tableIn (off := 76) (tgt := 85) hx hb dX0_ownLength_9 (by decide) (by decide) (by decide) (by decide) ?_
                refine lv_aload_n hx hb dX0_ownLength_85 rfl (lv_at hl 0 rfl) ?_
                refine xg (ci := 0) S inX0 rfl hK hP cW_52 1 (by decide) rfl kw_4_216 rfl dX0_ownLength_86 ?_
                refine xg (ci := 5) S inX5 rfl hK hP cW_13 2 (by decide) rfl kw_4_48 rfl dX0_ownLength_89 ?_
                refine lv_iload_n hx hb dX0_ownLength_92 rfl (lv_at hl 1 rfl) ?_
                have h_93 := hok.1
                have hok := hok.2
                refine xiald (t0 := 0) (v := (g σ 15 a1)) S hK hP cW_15 rfl h_93 rfl dX0_ownLength_93 ?_
                refine lv_iconst (v := (-1)) hx hb dX0_ownLength_94 (by decide) ?_
                refine lv_icmp_ne (tgt := 102) hx hb dX0_ownLength_95 (by decide) (fun c_95 => ?_) (fun c_95 => ?_)
                · have hok := hok.2 c_95
                  refine lv_iconst (v := 2) hx hb dX0_ownLength_102 (by decide) ?_
                  exact yEnd S hr hlocks hP hD hS (Nat.le_of_ble_eq_true rfl) (Nat.le_of_ble_eq_true rfl) dX0_ownLength_103 hok
                · have hok := hok.1 c_95
                  refine lv_iconst (v := 1) hx hb dX0_ownLength_98 (by decide) ?_
                  refine lv_goto (tgt := 103) hx hb dX0_ownLength_99 (by decide) ?_
                  exact yEnd S hr hlocks hP hD hS (Nat.le_of_ble_eq_true rfl) (Nat.le_of_ble_eq_true rfl) dX0_ownLength_103 hok
              · have hok := hok.2 k_9_6
                by_cases k_9_7 : x1 = 16
                · have hok := hok.1 k_9_7
                  rw [k_9_7]
                  refine lv_tableIn (off := 95) (tgt := 104) hx hb dX0_ownLength_9 (by decide) (by decide) (by decide) (by decide) ?_
                  refine lv_iconst (v := 4) hx hb dX0_ownLength_104 (by decide) ?_
                  exact yEnd S hr hlocks hP hD hS (Nat.le_of_ble_eq_true rfl) (Nat.le_of_ble_eq_true rfl) dX0_ownLength_105 hok
                · have hok := hok.2 k_9_7
                  by_cases k_9_8 : x1 = 17
                  · have hok := hok.1 k_9_8
                    rw [k_9_8]
                    refine lv_tableIn (off := 111) (tgt := 120) hx hb dX0_ownLength_9 (by decide) (by decide) (by decide) (by decide) ?_
                    refine lv_iconst (v := 1) hx hb dX0_ownLength_120 (by decide) ?_
                    exact yEnd S hr hlocks hP hD hS (Nat.le_of_ble_eq_true rfl) (Nat.le_of_ble_eq_true rfl) dX0_ownLength_121 hok
                  · have hok := hok.2 k_9_8
                    by_cases k_9_9 : x1 = 18
                    · have hok := hok.1 k_9_9
                      rw [k_9_9]
                      refine lv_tableIn (off := 97) (tgt := 106) hx hb dX0_ownLength_9 (by decide) (by decide) (by decide) (by decide) ?_
                      refine lv_aload_n hx hb dX0_ownLength_106 rfl (lv_at hl 0 rfl) ?_
                      refine lv_iload_n hx hb dX0_ownLength_107 rfl (lv_at hl 1 rfl) ?_
                      refine yVi (As := [.int a1]) (cw := (cW o u cI cZ cJ T)) (ci := 0) S (v_X0_isJump_52 l D cI cZ cJ o u T ra ga σ a1 _ H.size hok) mi_X0_isJump kw_2_78 rfl rfl ⟨Nat.le_of_ble_eq_true rfl, Nat.le_of_ble_eq_true rfl⟩ hP hD hK hS hA hB cW_52 rfl rfl hl.1 (Nat.le_of_ble_eq_true rfl) ⟨Nat.le_of_ble_eq_true rfl, Nat.le_of_ble_eq_true rfl⟩ dX0_ownLength_108 (fun x3 σ2 H locs hok hz hP hD hS => ?_)
                      refine lv_if_eq (tgt := 118) hx hb dX0_ownLength_111 (by decide) (fun c_111 => ?_) (fun c_111 => ?_)
                      · have hok := hok.1 c_111
                        refine lv_iconst (v := 1) hx hb dX0_ownLength_118 (by decide) ?_
                        exact yEnd S hr hlocks hP hD hS (Nat.le_of_ble_eq_true rfl) (Nat.le_of_ble_eq_true rfl) dX0_ownLength_119 hok
                      · have hok := hok.2 c_111
                        refine lv_iconst (v := 0) hx hb dX0_ownLength_114 (by decide) ?_
                        refine lv_goto (tgt := 119) hx hb dX0_ownLength_115 (by decide) ?_
                        exact yEnd S hr hlocks hP hD hS (Nat.le_of_ble_eq_true rfl) (Nat.le_of_ble_eq_true rfl) dX0_ownLength_119 hok
                    · have hok := hok.2 k_9_9
                      have q_9_0 := sw_ni k_9_0 (z := 9) (by decide)
                      have q_9_1 := sw_ni k_9_1 (z := 10) (by decide)
                      have q_9_2 := sw_ni k_9_2 (z := 11) (by decide)
                      have q_9_3 := sw_ni k_9_3 (z := 12) (by decide)
                      have q_9_4 := sw_ni k_9_4 (z := 13) (by decide)
                      have q_9_5 := sw_ni k_9_5 (z := 14) (by decide)
                      have q_9_6 := sw_ni k_9_6 (z := 15) (by decide)
                      have q_9_7 := sw_ni k_9_7 (z := 16) (by decide)
                      have q_9_8 := sw_ni k_9_8 (z := 17) (by decide)
                      have q_9_9 := sw_ni k_9_9 (z := 18) (by decide)
                      refine lv_tableOut (tgt := 120) hx hb dX0_ownLength_9 (by omega) (by decide) ?_
                      refine lv_iconst (v := 1) hx hb dX0_ownLength_120 (by decide) ?_
                      exact yEnd S hr hlocks hP hD hS (Nat.le_of_ble_eq_true rfl) (Nat.le_of_ble_eq_true rfl) dX0_ownLength_121 hok

set_option maxHeartbeats 8000000 in
set_option maxRecDepth 100000 in
theorem v_X0_clear_52 (l : Launch) (D : va_G) (cI cZ cJ : ClassId) (o : Nat) (u : Nat → Nat) (T : Nat) (ra : Nat → Nat) (ga : SG) (σ : FS) (a1 : Int32) (a2 : Int32) (Φ : FS → Prop) (sz : Nat) (hok : (wp_X0_clear 52 σ a1 a2 Φ)) : Met l yX0_clear (uW yX0_clear cX0_clear 4 none) ({ frames := 0, cells := 0, slots := 0, locals := 0 }) (va_Pc [.ref (u 51), .int a1, .int a2] (aS ra ga D (tyL cI cZ cJ) (cW o u cI cZ cJ T σ) sz)) (yQv Φ D (cW o u cI cZ cJ T) (va_A (cW o u cI cZ cJ T σ) sz)) 0 0 (va_A (cW o u cI cZ cJ T σ) sz) := by
  refine aStart (lv := [(0, .ref (u 51)), (1, .int a1), (2, .int a2)]) (Qc := fun A => yQv Φ D (cW o u cI cZ cJ T) A) (by decide) (Nat.le_of_ble_eq_true rfl) rfl ?_
  intro p e s m args below meth c ls A H S hr hlocks hnm hl hK hP hD hS hA hB
  have hx := S.1
  have hb := S.2.1
  refine lv_iload_n hx hb dX0_clear_0 rfl (lv_at hl 1 rfl) ?_
  refine lv_istore_n (lv' := [(3, .int a1), (0, .ref (u 51)), (1, .int a1), (2, .int a2)]) hx hb dX0_clear_1 rfl hl (by decide) rfl (fun ls hl => ?_)
  have lp2 : ∀ (K : FS → Int32 → Prop), (∀ (τ0 : FS) (l3_0 : Int32) (H : Heap) (locs : List Loc) (ls : Array Slot), K τ0 l3_0 → lv_has ls 4 [(3, .int l3_0), (0, .ref (u 51)), (1, .int a1), (2, .int a2)] → va_P D vwCl (cW o u cI cZ cJ T τ0) H → va_D A (cW o u cI cZ cJ T τ0) → va_S A s.heap H locs → W p l e ({ frames := 0, cells := 0, slots := 0, locals := 0 }) s m args below meth c H locs 0 0 (MQ below (yQv Φ D (cW o u cI cZ cJ T) A) args s 0 0 A) (F0 m 34 ls [])) → ∀ (n0 : Nat) (τ0 : FS) (l3_0 : Int32) (H : Heap) (locs : List Loc) (ls : Array Slot), wp_X0_clear_2 52 a1 a2 Φ K n0 τ0 l3_0 → lv_has ls 4 [(3, .int l3_0), (0, .ref (u 51)), (1, .int a1), (2, .int a2)] → va_P D vwCl (cW o u cI cZ cJ T τ0) H → va_D A (cW o u cI cZ cJ T τ0) → va_S A s.heap H locs → W p l e ({ frames := 0, cells := 0, slots := 0, locals := 0 }) s m args below meth c H locs 0 0 (MQ below (yQv Φ D (cW o u cI cZ cJ T) A) args s 0 0 A) (F0 m 2 ls []) := by
    intro K hk n0
    induction n0 with
    | zero => intro τ0 l3_0 H locs ls hok; exact False.elim hok
    | succ n0 ih2 =>
      intro τ0 l3_0 H locs ls hok hl hP hD hS
      refine lv_iload_n hx hb dX0_clear_2 rfl (lv_at hl 0 rfl) ?_
      refine lv_iload_n hx hb dX0_clear_3 rfl (lv_at hl 3 rfl) ?_
      refine lv_icmp_ge (tgt := 34) hx hb dX0_clear_4 (by decide) (fun c_4 => ?_) (fun c_4 => ?_)
      · have hok := hok.1 c_4
        exact hk τ0 l3_0 H locs ls hok (lv_sub hl [0, 1, 2, 3] rfl) hP hD hS
      · have hok := hok.2 c_4
        refine lv_iload_n hx hb dX0_clear_7 rfl (lv_at hl 0 rfl) ?_
        refine lv_sipush (v := 460) hx hb dX0_clear_8 (by decide) ?_
        refine lv_icmp_ge (tgt := 34) hx hb dX0_clear_11 (by decide) (fun c_11 => ?_) (fun c_11 => ?_)
        · have hok := hok.1 c_11
          exact hk τ0 l3_0 H locs ls hok (lv_sub hl [0, 1, 2, 3] rfl) hP hD hS
        · have hok := hok.2 c_11
          refine lv_aload_n hx hb dX0_clear_14 rfl (lv_at hl 1 rfl) ?_
          refine xg (ci := 0) S inX0 rfl hK hP cW_52 11 (by decide) rfl kw_4_238 rfl dX0_clear_15 ?_
          refine lv_iload_n hx hb dX0_clear_18 rfl (lv_at hl 0 rfl) ?_
          refine lv_iconst (v := (-1)) hx hb dX0_clear_19 (by decide) ?_
          have h_20 := hok.1
          have hok := hok.2
          refine yiast (t0 := 0) (cw := (cW o u cI cZ cJ T)) S hK hP hD hS cW_59 rfl h_20 dX0_clear_20 cWa_59 (fun σ1 H locs eσ1 hP hD hS => ?_)
          have hok := hok σ1 eσ1
          refine lv_aload_n hx hb dX0_clear_21 rfl (lv_at hl 1 rfl) ?_
          refine xg (ci := 0) S inX0 rfl hK hP cW_52 12 (by decide) rfl kw_5_0 rfl dX0_clear_22 ?_
          refine lv_iload_n hx hb dX0_clear_25 rfl (lv_at hl 0 rfl) ?_
          refine lv_iconst (v := 0) hx hb dX0_clear_26 (by decide) ?_
          have h_27 := hok.1
          have hok := hok.2
          refine yiast (t0 := 0) (cw := (cW o u cI cZ cJ T)) S hK hP hD hS cW_60 rfl h_27 dX0_clear_27 cWa_60 (fun σ2 H locs eσ2 hP hD hS => ?_)
          have hok := hok σ2 eσ2
          refine lv_iinc (v := l3_0 + 1) (lv' := [(3, .int (l3_0 + 1)), (0, .ref (u 51)), (1, .int a1), (2, .int a2)]) hx hb dX0_clear_28 hl (k := 0) rfl rfl (by decide) rfl (fun ls hl => ?_)
          refine lv_goto (tgt := 2) hx hb dX0_clear_31 (by decide) ?_
          exact ih2 σ2 (l3_0 + 1) H locs ls hok (lv_sub hl [0, 1, 2, 3] rfl) hP hD hS
  refine lp2 _ ?_ FUEL σ a1 _ _ _ hok (lv_sub hl [0, 1, 2, 3] rfl) hP hD hS
  intro σ3 x4 H locs ls hok hl hP hD hS
  exact yEndv S hr hlocks hP hD hS (Nat.le_of_ble_eq_true rfl) (Nat.le_of_ble_eq_true rfl) dX0_clear_34 hok

set_option maxHeartbeats 8000000 in
set_option maxRecDepth 100000 in
theorem v_X0_put_52 (l : Launch) (D : va_G) (cI cZ cJ : ClassId) (o : Nat) (u : Nat → Nat) (T : Nat) (ra : Nat → Nat) (ga : SG) (σ : FS) (a1 : Int32) (a2 : Int32) (a3 : Int32) (a4 : Int32) (a5 : Int32) (Φ : FS → Prop) (sz : Nat) (hok : (wp_X0_put 52 σ a1 a2 a3 a4 a5 Φ)) : Met l yX0_put (uW yX0_put cX0_put 6 none) ({ frames := 0, cells := 0, slots := 0, locals := 0 }) (va_Pc [.ref (u 51), .int a1, .int a2, .int a3, .int a4, .int a5] (aS ra ga D (tyL cI cZ cJ) (cW o u cI cZ cJ T σ) sz)) (yQv Φ D (cW o u cI cZ cJ T) (va_A (cW o u cI cZ cJ T σ) sz)) 0 0 (va_A (cW o u cI cZ cJ T σ) sz) := by
  refine aStart (lv := [(0, .ref (u 51)), (1, .int a1), (2, .int a2), (3, .int a3), (4, .int a4), (5, .int a5)]) (Qc := fun A => yQv Φ D (cW o u cI cZ cJ T) A) (by decide) (Nat.le_of_ble_eq_true rfl) rfl ?_
  intro p e s m args below meth c ls A H S hr hlocks hnm hl hK hP hD hS hA hB
  have hx := S.1
  have hb := S.2.1
  refine lv_iload_n hx hb dX0_put_0 rfl (lv_at hl 1 rfl) ?_
  refine lv_if_lt (tgt := 41) hx hb dX0_put_1 (by decide) (fun c_1 => ?_) (fun c_1 => ?_)
  · have hok := hok.1 c_1
    exact yEndv S hr hlocks hP hD hS (Nat.le_of_ble_eq_true rfl) (Nat.le_of_ble_eq_true rfl) dX0_put_41 hok
  · have hok := hok.2 c_1
    refine lv_iload_n hx hb dX0_put_4 rfl (lv_at hl 1 rfl) ?_
    refine lv_sipush (v := 460) hx hb dX0_put_5 (by decide) ?_
    refine lv_icmp_ge (tgt := 41) hx hb dX0_put_8 (by decide) (fun c_8 => ?_) (fun c_8 => ?_)
    · have hok := hok.1 c_8
      exact yEndv S hr hlocks hP hD hS (Nat.le_of_ble_eq_true rfl) (Nat.le_of_ble_eq_true rfl) dX0_put_41 hok
    · have hok := hok.2 c_8
      refine lv_aload_n hx hb dX0_put_11 rfl (lv_at hl 0 rfl) ?_
      refine xg (ci := 0) S inX0 rfl hK hP cW_52 7 (by decide) rfl kw_4_227 rfl dX0_put_12 ?_
      refine lv_iload_n hx hb dX0_put_15 rfl (lv_at hl 1 rfl) ?_
      refine lv_iload_n hx hb dX0_put_16 rfl (lv_at hl 2 rfl) ?_
      have h_17 := hok.1
      have hok := hok.2
      refine yiast (t0 := 0) (cw := (cW o u cI cZ cJ T)) S hK hP hD hS cW_55 rfl h_17 dX0_put_17 cWa_55 (fun σ1 H locs eσ1 hP hD hS => ?_)
      have hok := hok σ1 eσ1
      refine lv_aload_n hx hb dX0_put_18 rfl (lv_at hl 0 rfl) ?_
      refine xg (ci := 0) S inX0 rfl hK hP cW_52 8 (by decide) rfl kw_4_230 rfl dX0_put_19 ?_
      refine lv_iload_n hx hb dX0_put_22 rfl (lv_at hl 1 rfl) ?_
      refine lv_iload_n hx hb dX0_put_23 rfl (lv_at hl 3 rfl) ?_
      have h_24 := hok.1
      have hok := hok.2
      refine yiast (t0 := 0) (cw := (cW o u cI cZ cJ T)) S hK hP hD hS cW_56 rfl h_24 dX0_put_24 cWa_56 (fun σ2 H locs eσ2 hP hD hS => ?_)
      have hok := hok σ2 eσ2
      refine lv_aload_n hx hb dX0_put_25 rfl (lv_at hl 0 rfl) ?_
      refine xg (ci := 0) S inX0 rfl hK hP cW_52 9 (by decide) rfl kw_4_233 rfl dX0_put_26 ?_
      refine lv_iload_n hx hb dX0_put_29 rfl (lv_at hl 1 rfl) ?_
      refine lv_iload hx hb dX0_put_30 (lv_at hl 4 rfl) ?_
      have h_32 := hok.1
      have hok := hok.2
      refine yiast (t0 := 0) (cw := (cW o u cI cZ cJ T)) S hK hP hD hS cW_57 rfl h_32 dX0_put_32 cWa_57 (fun σ3 H locs eσ3 hP hD hS => ?_)
      have hok := hok σ3 eσ3
      refine lv_aload_n hx hb dX0_put_33 rfl (lv_at hl 0 rfl) ?_
      refine xg (ci := 0) S inX0 rfl hK hP cW_52 10 (by decide) rfl kw_4_236 rfl dX0_put_34 ?_
      refine lv_iload_n hx hb dX0_put_37 rfl (lv_at hl 1 rfl) ?_
      refine lv_iload hx hb dX0_put_38 (lv_at hl 5 rfl) ?_
      have h_40 := hok.1
      have hok := hok.2
      refine yiast (t0 := 0) (cw := (cW o u cI cZ cJ T)) S hK hP hD hS cW_58 rfl h_40 dX0_put_40 cWa_58 (fun σ4 H locs eσ4 hP hD hS => ?_)
      have hok := hok σ4 eσ4
      exact yEndv S hr hlocks hP hD hS (Nat.le_of_ble_eq_true rfl) (Nat.le_of_ble_eq_true rfl) dX0_put_41 hok

set_option maxHeartbeats 8000000 in
set_option maxRecDepth 100000 in
theorem v_X0_placeProcedures_52 (l : Launch) (D : va_G) (cI cZ cJ : ClassId) (o : Nat) (u : Nat → Nat) (T : Nat) (ra : Nat → Nat) (ga : SG) (σ : FS) (Φ : FS → Prop) (sz : Nat) (hok : (wp_X0_placeProcedures 52 σ Φ)) : Met l yX0_placeProcedures (uW yX0_placeProcedures cX0_placeProcedures 4 none) ({ frames := 1, cells := 0, slots := 0, locals := 25 }) (va_Pc [.ref (u 51)] (aS ra ga D (tyL cI cZ cJ) (cW o u cI cZ cJ T σ) sz)) (yQv Φ D (cW o u cI cZ cJ T) (va_A (cW o u cI cZ cJ T σ) sz)) 0 0 (va_A (cW o u cI cZ cJ T σ) sz) := by
  refine aStart (lv := [(0, .ref (u 51))]) (Qc := fun A => yQv Φ D (cW o u cI cZ cJ T) A) (by decide) (Nat.le_of_ble_eq_true rfl) rfl ?_
  intro p e s m args below meth c ls A H S hr hlocks hnm hl hK hP hD hS hA hB
  have hx := S.1
  have hb := S.2.1
  refine lv_aload_n hx hb dX0_placeProcedures_0 rfl (lv_at hl 0 rfl) ?_
  refine lv_iconst (v := 0) hx hb dX0_placeProcedures_1 (by decide) ?_
  refine yp (ci := 0) (v := .int 0) (cw := (cW o u cI cZ cJ T)) S inX0 tyX0 tyX0_ok nmX0 rfl hK hP hD hS cW_52 4 (by decide) kw_4_219 rfl rfl rfl rfl (Nat.le_of_ble_eq_true rfl) dX0_placeProcedures_2 cWp_52_4 (fun σ1 H locs eσ1 hP hD hS => ?_)
  have hok := hok σ1 eσ1
  refine lv_iconst (v := 0) hx hb dX0_placeProcedures_5 (by decide) ?_
  refine lv_istore_n (lv' := [(1, .int 0), (0, .ref (u 51))]) hx hb dX0_placeProcedures_6 rfl hl (by decide) rfl (fun ls hl => ?_)
  have lp7 : ∀ (K : FS → Int32 → Prop), (∀ (τ0 : FS) (l1_0 : Int32) (H : Heap) (locs : List Loc) (ls : Array Slot), K τ0 l1_0 → lv_has ls 4 [(1, .int l1_0), (0, .ref (u 51))] → va_P D vwCl (cW o u cI cZ cJ T τ0) H → va_D A (cW o u cI cZ cJ T τ0) → va_S A s.heap H locs → W p l e ({ frames := 1, cells := 0, slots := 0, locals := 25 }) s m args below meth c H locs 0 0 (MQ below (yQv Φ D (cW o u cI cZ cJ T) A) args s 0 0 A) (F0 m 132 ls [])) → ∀ (n0 : Nat) (τ0 : FS) (l1_0 : Int32) (H : Heap) (locs : List Loc) (ls : Array Slot), wp_X0_placeProcedures_7 52 Φ K n0 τ0 l1_0 → lv_has ls 4 [(1, .int l1_0), (0, .ref (u 51))] → va_P D vwCl (cW o u cI cZ cJ T τ0) H → va_D A (cW o u cI cZ cJ T τ0) → va_S A s.heap H locs → W p l e ({ frames := 1, cells := 0, slots := 0, locals := 25 }) s m args below meth c H locs 0 0 (MQ below (yQv Φ D (cW o u cI cZ cJ T) A) args s 0 0 A) (F0 m 7 ls []) := by
    intro K hk n0
    induction n0 with
    | zero => intro τ0 l1_0 H locs ls hok; exact False.elim hok
    | succ n0 ih7 =>
      intro τ0 l1_0 H locs ls hok hl hP hD hS
      refine lv_iload_n hx hb dX0_placeProcedures_7 rfl (lv_at hl 0 rfl) ?_
      refine lv_aload_n hx hb dX0_placeProcedures_8 rfl (lv_at hl 1 rfl) ?_
      refine xg (ci := 0) S inX0 rfl hK hP cW_52 0 (by decide) rfl kw_4_215 rfl dX0_placeProcedures_9 ?_
      refine xg (ci := 1) S inX1 rfl hK hP cW_1 0 (by decide) rfl kw_3_214 rfl dX0_placeProcedures_12 ?_
      refine lv_icmp_ge (tgt := 132) hx hb dX0_placeProcedures_15 (by decide) (fun c_15 => ?_) (fun c_15 => ?_)
      · have hok := hok.1 c_15
        exact hk τ0 l1_0 H locs ls hok (lv_sub hl [0, 1] rfl) hP hD hS
      · have hok := hok.2 c_15
        refine lv_aload_n hx hb dX0_placeProcedures_18 rfl (lv_at hl 1 rfl) ?_
        refine xg (ci := 0) S inX0 rfl hK hP cW_52 0 (by decide) rfl kw_4_215 rfl dX0_placeProcedures_19 ?_
        refine xg (ci := 1) S inX1 rfl hK hP cW_1 6 (by decide) rfl kw_3_234 rfl dX0_placeProcedures_22 ?_
        refine lv_iload_n hx hb dX0_placeProcedures_25 rfl (lv_at hl 0 rfl) ?_
        have h_26 := hok.1
        have hok := hok.2
        refine xiald (t0 := 0) (v := (g τ0 7 l1_0)) S hK hP cW_7 rfl h_26 rfl dX0_placeProcedures_26 ?_
        refine lv_topi (fun x2 ex2 => ?_)
        have hok := hok x2 ex2
        refine lv_istore_n (lv' := [(2, .int x2), (1, .int l1_0), (0, .ref (u 51))]) hx hb dX0_placeProcedures_27 rfl hl (by decide) rfl (fun ls hl => ?_)
        refine lv_aload_n hx hb dX0_placeProcedures_28 rfl (lv_at hl 2 rfl) ?_
        refine lv_iload_n hx hb dX0_placeProcedures_29 rfl (lv_at hl 0 rfl) ?_
        refine yVi (As := [.int x2]) (cw := (cW o u cI cZ cJ T)) (ci := 0) S (v_X0_lengthOfPart_52 l D cI cZ cJ o u T ra ga τ0 x2 _ H.size hok) mi_X0_lengthOfPart kw_2_68 rfl rfl ⟨Nat.le_of_ble_eq_true rfl, Nat.le_of_ble_eq_true rfl⟩ hP hD hK hS hA hB cW_52 rfl rfl hl.1 (Nat.le_of_ble_eq_true rfl) ⟨Nat.le_of_ble_eq_true rfl, Nat.le_of_ble_eq_true rfl⟩ dX0_placeProcedures_30 (fun x4 σ3 H locs hok hz hP hD hS => ?_)
        refine lv_istore_n (lv' := [(3, .int x4), (2, .int x2), (1, .int l1_0), (0, .ref (u 51))]) hx hb dX0_placeProcedures_33 rfl hl (by decide) rfl (fun ls hl => ?_)
        refine lv_aload_n hx hb dX0_placeProcedures_34 rfl (lv_at hl 3 rfl) ?_
        refine xg (ci := 0) S inX0 rfl hK hP cW_52 5 (by decide) rfl kw_4_222 rfl dX0_placeProcedures_35 ?_
        refine lv_iload_n hx hb dX0_placeProcedures_38 rfl (lv_at hl 2 rfl) ?_
        refine lv_aload_n hx hb dX0_placeProcedures_39 rfl (lv_at hl 3 rfl) ?_
        refine xg (ci := 0) S inX0 rfl hK hP cW_52 4 (by decide) rfl kw_4_219 rfl dX0_placeProcedures_40 ?_
        have h_43 := hok.1
        have hok := hok.2
        refine yiast (t0 := 0) (cw := (cW o u cI cZ cJ T)) S hK hP hD hS cW_53 rfl h_43 dX0_placeProcedures_43 cWa_53 (fun σ5 H locs eσ5 hP hD hS => ?_)
        have hok := hok σ5 eσ5
        refine lv_aload_n hx hb dX0_placeProcedures_44 rfl (lv_at hl 3 rfl) ?_
        refine xg (ci := 0) S inX0 rfl hK hP cW_52 6 (by decide) rfl kw_4_225 rfl dX0_placeProcedures_45 ?_
        refine lv_iload_n hx hb dX0_placeProcedures_48 rfl (lv_at hl 2 rfl) ?_
        refine lv_iload_n hx hb dX0_placeProcedures_49 rfl (lv_at hl 0 rfl) ?_
        refine lv_iconst (v := 2) hx hb dX0_placeProcedures_50 (by decide) ?_
        refine xiadd (v := x4 + 2) S dX0_placeProcedures_51 rfl ?_
        have h_52 := hok.1
        have hok := hok.2
        refine yiast (t0 := 0) (cw := (cW o u cI cZ cJ T)) S hK hP hD hS cW_54 rfl h_52 dX0_placeProcedures_52 cWa_54 (fun σ6 H locs eσ6 hP hD hS => ?_)
        have hok := hok σ6 eσ6
        refine lv_iload_n hx hb dX0_placeProcedures_53 rfl (lv_at hl 1 rfl) ?_
        refine lv_iconst (v := (-1)) hx hb dX0_placeProcedures_54 (by decide) ?_
        refine lv_icmp_eq (tgt := 68) hx hb dX0_placeProcedures_55 (by decide) (fun c_55 => ?_) (fun c_55 => ?_)
        · have hok := hok.1 c_55
          refine lv_aload_n hx hb dX0_placeProcedures_68 rfl (lv_at hl 3 rfl) ?_
          refine lv_dup hx hb dX0_placeProcedures_69 rfl ?_
          refine xg (ci := 0) S inX0 rfl hK hP cW_52 4 (by decide) rfl kw_4_219 rfl dX0_placeProcedures_70 ?_
          refine lv_aload_n hx hb dX0_placeProcedures_73 rfl (lv_at hl 3 rfl) ?_
          refine xg (ci := 0) S inX0 rfl hK hP cW_52 6 (by decide) rfl kw_4_225 rfl dX0_placeProcedures_74 ?_
          refine lv_iload_n hx hb dX0_placeProcedures_77 rfl (lv_at hl 2 rfl) ?_
          have h_78 := hok.1
          have hok := hok.2
          refine xiald (t0 := 0) (v := (g σ6 54 l1_0)) S hK hP cW_54 rfl h_78 rfl dX0_placeProcedures_78 ?_
          refine xiadd (v := (σ6.1 52 4) + (g σ6 54 l1_0)) S dX0_placeProcedures_79 rfl ?_
          refine yp (ci := 0) (v := .int ((σ6.1 52 4) + (g σ6 54 l1_0))) (cw := (cW o u cI cZ cJ T)) S inX0 tyX0 tyX0_ok nmX0 rfl hK hP hD hS cW_52 4 (by decide) kw_4_219 rfl rfl rfl rfl (Nat.le_of_ble_eq_true rfl) dX0_placeProcedures_80 cWp_52_4 (fun σ7 H locs eσ7 hP hD hS => ?_)
          have hok := hok σ7 eσ7
          refine lv_aload_n hx hb dX0_placeProcedures_83 rfl (lv_at hl 3 rfl) ?_
          refine lv_aload_n hx hb dX0_placeProcedures_84 rfl (lv_at hl 3 rfl) ?_
          refine xg (ci := 0) S inX0 rfl hK hP cW_52 5 (by decide) rfl kw_4_222 rfl dX0_placeProcedures_85 ?_
          refine lv_iload_n hx hb dX0_placeProcedures_88 rfl (lv_at hl 2 rfl) ?_
          have h_89 := hok.1
          have hok := hok.2
          refine xiald (t0 := 0) (v := (g σ7 53 l1_0)) S hK hP cW_53 rfl h_89 rfl dX0_placeProcedures_89 ?_
          refine lv_aload_n hx hb dX0_placeProcedures_90 rfl (lv_at hl 3 rfl) ?_
          refine xg (ci := 0) S inX0 rfl hK hP cW_52 4 (by decide) rfl kw_4_219 rfl dX0_placeProcedures_91 ?_
          refine yVv (As := [.int (g σ7 53 l1_0), .int (σ7.1 52 4)]) (cw := (cW o u cI cZ cJ T)) (ci := 0) S (v_X0_clear_52 l D cI cZ cJ o u T ra ga σ7 (g σ7 53 l1_0) (σ7.1 52 4) _ H.size hok) mi_X0_clear kw_2_86 rfl rfl ⟨Nat.le_of_ble_eq_true rfl, Nat.le_of_ble_eq_true rfl⟩ hP hD hK hS hA hB cW_52 rfl rfl hl.1 (Nat.le_of_ble_eq_true rfl) ⟨Nat.le_of_ble_eq_true rfl, Nat.le_of_ble_eq_true rfl⟩ dX0_placeProcedures_94 (fun σ8 H locs hok hz hP hD hS => ?_)
          refine lv_aload_n hx hb dX0_placeProcedures_97 rfl (lv_at hl 3 rfl) ?_
          refine lv_aload_n hx hb dX0_placeProcedures_98 rfl (lv_at hl 3 rfl) ?_
          refine xg (ci := 0) S inX0 rfl hK hP cW_52 4 (by decide) rfl kw_4_219 rfl dX0_placeProcedures_99 ?_
          refine lv_iconst (v := 2) hx hb dX0_placeProcedures_102 (by decide) ?_
          refine xisub (v := (σ8.1 52 4) - 2) S dX0_placeProcedures_103 rfl ?_
          refine lv_iconst (v := 1) hx hb dX0_placeProcedures_104 (by decide) ?_
          refine lv_iconst (v := 0) hx hb dX0_placeProcedures_105 (by decide) ?_
          refine lv_iconst (v := 0) hx hb dX0_placeProcedures_106 (by decide) ?_
          refine lv_iconst (v := (-1)) hx hb dX0_placeProcedures_107 (by decide) ?_
          refine yVv (As := [.int ((σ8.1 52 4) - 2), .int 1, .int 0, .int 0, .int (-1)]) (cw := (cW o u cI cZ cJ T)) (ci := 0) S (v_X0_put_52 l D cI cZ cJ o u T ra ga σ8 ((σ8.1 52 4) - 2) 1 0 0 (-1) _ H.size hok) mi_X0_put kw_2_90 rfl rfl ⟨Nat.le_of_ble_eq_true rfl, Nat.le_of_ble_eq_true rfl⟩ hP hD hK hS hA hB cW_52 rfl rfl hl.1 (Nat.le_of_ble_eq_true rfl) ⟨Nat.le_of_ble_eq_true rfl, Nat.le_of_ble_eq_true rfl⟩ dX0_placeProcedures_108 (fun σ9 H locs hok hz hP hD hS => ?_)
          refine lv_aload_n hx hb dX0_placeProcedures_111 rfl (lv_at hl 3 rfl) ?_
          refine lv_aload_n hx hb dX0_placeProcedures_112 rfl (lv_at hl 3 rfl) ?_
          refine xg (ci := 0) S inX0 rfl hK hP cW_52 4 (by decide) rfl kw_4_219 rfl dX0_placeProcedures_113 ?_
          refine lv_iconst (v := 1) hx hb dX0_placeProcedures_116 (by decide) ?_
          refine xisub (v := (σ9.1 52 4) - 1) S dX0_placeProcedures_117 rfl ?_
          refine lv_bipush (v := 15) hx hb dX0_placeProcedures_118 (by decide) ?_
          refine lv_iconst (v := 0) hx hb dX0_placeProcedures_120 (by decide) ?_
          refine lv_iconst (v := 0) hx hb dX0_placeProcedures_121 (by decide) ?_
          refine lv_iconst (v := (-1)) hx hb dX0_placeProcedures_122 (by decide) ?_
          refine yVv (As := [.int ((σ9.1 52 4) - 1), .int 15, .int 0, .int 0, .int (-1)]) (cw := (cW o u cI cZ cJ T)) (ci := 0) S (v_X0_put_52 l D cI cZ cJ o u T ra ga σ9 ((σ9.1 52 4) - 1) 15 0 0 (-1) _ H.size hok) mi_X0_put kw_2_90 rfl rfl ⟨Nat.le_of_ble_eq_true rfl, Nat.le_of_ble_eq_true rfl⟩ hP hD hK hS hA hB cW_52 rfl rfl hl.1 (Nat.le_of_ble_eq_true rfl) ⟨Nat.le_of_ble_eq_true rfl, Nat.le_of_ble_eq_true rfl⟩ dX0_placeProcedures_123 (fun σ10 H locs hok hz hP hD hS => ?_)
          refine lv_iinc (v := l1_0 + 1) (lv' := [(1, .int (l1_0 + 1)), (3, .int x4), (2, .int x2), (0, .ref (u 51))]) hx hb dX0_placeProcedures_126 hl (k := 2) rfl rfl (by decide) rfl (fun ls hl => ?_)
          refine lv_goto (tgt := 7) hx hb dX0_placeProcedures_129 (by decide) ?_
          exact ih7 σ10 (l1_0 + 1) H locs ls hok (lv_sub hl [0, 3] rfl) hP hD hS
        · have hok := hok.2 c_55
          refine lv_aload_n hx hb dX0_placeProcedures_58 rfl (lv_at hl 3 rfl) ?_
          refine xg (ci := 0) S inX0 rfl hK hP cW_52 13 (by decide) rfl kw_5_2 rfl dX0_placeProcedures_59 ?_
          refine lv_iload_n hx hb dX0_placeProcedures_62 rfl (lv_at hl 1 rfl) ?_
          refine lv_aload_n hx hb dX0_placeProcedures_63 rfl (lv_at hl 3 rfl) ?_
          refine xg (ci := 0) S inX0 rfl hK hP cW_52 4 (by decide) rfl kw_4_219 rfl dX0_placeProcedures_64 ?_
          have h_67 := hok.1
          have hok := hok.2
          refine yiast (t0 := 0) (cw := (cW o u cI cZ cJ T)) S hK hP hD hS cW_61 rfl h_67 dX0_placeProcedures_67 cWa_61 (fun σ11 H locs eσ11 hP hD hS => ?_)
          have hok := hok σ11 eσ11
          refine lv_aload_n hx hb dX0_placeProcedures_68 rfl (lv_at hl 3 rfl) ?_
          refine lv_dup hx hb dX0_placeProcedures_69 rfl ?_
          refine xg (ci := 0) S inX0 rfl hK hP cW_52 4 (by decide) rfl kw_4_219 rfl dX0_placeProcedures_70 ?_
          refine lv_aload_n hx hb dX0_placeProcedures_73 rfl (lv_at hl 3 rfl) ?_
          refine xg (ci := 0) S inX0 rfl hK hP cW_52 6 (by decide) rfl kw_4_225 rfl dX0_placeProcedures_74 ?_
          refine lv_iload_n hx hb dX0_placeProcedures_77 rfl (lv_at hl 2 rfl) ?_
          have h_78 := hok.1
          have hok := hok.2
          refine xiald (t0 := 0) (v := (g σ11 54 l1_0)) S hK hP cW_54 rfl h_78 rfl dX0_placeProcedures_78 ?_
          refine xiadd (v := (σ11.1 52 4) + (g σ11 54 l1_0)) S dX0_placeProcedures_79 rfl ?_
          refine yp (ci := 0) (v := .int ((σ11.1 52 4) + (g σ11 54 l1_0))) (cw := (cW o u cI cZ cJ T)) S inX0 tyX0 tyX0_ok nmX0 rfl hK hP hD hS cW_52 4 (by decide) kw_4_219 rfl rfl rfl rfl (Nat.le_of_ble_eq_true rfl) dX0_placeProcedures_80 cWp_52_4 (fun σ12 H locs eσ12 hP hD hS => ?_)
          have hok := hok σ12 eσ12
          refine lv_aload_n hx hb dX0_placeProcedures_83 rfl (lv_at hl 3 rfl) ?_
          refine lv_aload_n hx hb dX0_placeProcedures_84 rfl (lv_at hl 3 rfl) ?_
          refine xg (ci := 0) S inX0 rfl hK hP cW_52 5 (by decide) rfl kw_4_222 rfl dX0_placeProcedures_85 ?_
          refine lv_iload_n hx hb dX0_placeProcedures_88 rfl (lv_at hl 2 rfl) ?_
          have h_89 := hok.1
          have hok := hok.2
          refine xiald (t0 := 0) (v := (g σ12 53 l1_0)) S hK hP cW_53 rfl h_89 rfl dX0_placeProcedures_89 ?_
          refine lv_aload_n hx hb dX0_placeProcedures_90 rfl (lv_at hl 3 rfl) ?_
          refine xg (ci := 0) S inX0 rfl hK hP cW_52 4 (by decide) rfl kw_4_219 rfl dX0_placeProcedures_91 ?_
          refine yVv (As := [.int (g σ12 53 l1_0), .int (σ12.1 52 4)]) (cw := (cW o u cI cZ cJ T)) (ci := 0) S (v_X0_clear_52 l D cI cZ cJ o u T ra ga σ12 (g σ12 53 l1_0) (σ12.1 52 4) _ H.size hok) mi_X0_clear kw_2_86 rfl rfl ⟨Nat.le_of_ble_eq_true rfl, Nat.le_of_ble_eq_true rfl⟩ hP hD hK hS hA hB cW_52 rfl rfl hl.1 (Nat.le_of_ble_eq_true rfl) ⟨Nat.le_of_ble_eq_true rfl, Nat.le_of_ble_eq_true rfl⟩ dX0_placeProcedures_94 (fun σ13 H locs hok hz hP hD hS => ?_)
          refine lv_aload_n hx hb dX0_placeProcedures_97 rfl (lv_at hl 3 rfl) ?_
          refine lv_aload_n hx hb dX0_placeProcedures_98 rfl (lv_at hl 3 rfl) ?_
          refine xg (ci := 0) S inX0 rfl hK hP cW_52 4 (by decide) rfl kw_4_219 rfl dX0_placeProcedures_99 ?_
          refine lv_iconst (v := 2) hx hb dX0_placeProcedures_102 (by decide) ?_
          refine xisub (v := (σ13.1 52 4) - 2) S dX0_placeProcedures_103 rfl ?_
          refine lv_iconst (v := 1) hx hb dX0_placeProcedures_104 (by decide) ?_
          refine lv_iconst (v := 0) hx hb dX0_placeProcedures_105 (by decide) ?_
          refine lv_iconst (v := 0) hx hb dX0_placeProcedures_106 (by decide) ?_
          refine lv_iconst (v := (-1)) hx hb dX0_placeProcedures_107 (by decide) ?_
          refine yVv (As := [.int ((σ13.1 52 4) - 2), .int 1, .int 0, .int 0, .int (-1)]) (cw := (cW o u cI cZ cJ T)) (ci := 0) S (v_X0_put_52 l D cI cZ cJ o u T ra ga σ13 ((σ13.1 52 4) - 2) 1 0 0 (-1) _ H.size hok) mi_X0_put kw_2_90 rfl rfl ⟨Nat.le_of_ble_eq_true rfl, Nat.le_of_ble_eq_true rfl⟩ hP hD hK hS hA hB cW_52 rfl rfl hl.1 (Nat.le_of_ble_eq_true rfl) ⟨Nat.le_of_ble_eq_true rfl, Nat.le_of_ble_eq_true rfl⟩ dX0_placeProcedures_108 (fun σ14 H locs hok hz hP hD hS => ?_)
          refine lv_aload_n hx hb dX0_placeProcedures_111 rfl (lv_at hl 3 rfl) ?_
          refine lv_aload_n hx hb dX0_placeProcedures_112 rfl (lv_at hl 3 rfl) ?_
          refine xg (ci := 0) S inX0 rfl hK hP cW_52 4 (by decide) rfl kw_4_219 rfl dX0_placeProcedures_113 ?_
          refine lv_iconst (v := 1) hx hb dX0_placeProcedures_116 (by decide) ?_
          refine xisub (v := (σ14.1 52 4) - 1) S dX0_placeProcedures_117 rfl ?_
          refine lv_bipush (v := 15) hx hb dX0_placeProcedures_118 (by decide) ?_
          refine lv_iconst (v := 0) hx hb dX0_placeProcedures_120 (by decide) ?_
          refine lv_iconst (v := 0) hx hb dX0_placeProcedures_121 (by decide) ?_
          refine lv_iconst (v := (-1)) hx hb dX0_placeProcedures_122 (by decide) ?_
          refine yVv (As := [.int ((σ14.1 52 4) - 1), .int 15, .int 0, .int 0, .int (-1)]) (cw := (cW o u cI cZ cJ T)) (ci := 0) S (v_X0_put_52 l D cI cZ cJ o u T ra ga σ14 ((σ14.1 52 4) - 1) 15 0 0 (-1) _ H.size hok) mi_X0_put kw_2_90 rfl rfl ⟨Nat.le_of_ble_eq_true rfl, Nat.le_of_ble_eq_true rfl⟩ hP hD hK hS hA hB cW_52 rfl rfl hl.1 (Nat.le_of_ble_eq_true rfl) ⟨Nat.le_of_ble_eq_true rfl, Nat.le_of_ble_eq_true rfl⟩ dX0_placeProcedures_123 (fun σ15 H locs hok hz hP hD hS => ?_)
          refine lv_iinc (v := l1_0 + 1) (lv' := [(1, .int (l1_0 + 1)), (3, .int x4), (2, .int x2), (0, .ref (u 51))]) hx hb dX0_placeProcedures_126 hl (k := 2) rfl rfl (by decide) rfl (fun ls hl => ?_)
          refine lv_goto (tgt := 7) hx hb dX0_placeProcedures_129 (by decide) ?_
          exact ih7 σ15 (l1_0 + 1) H locs ls hok (lv_sub hl [0, 3] rfl) hP hD hS
  refine lp7 _ ?_ FUEL σ1 0 _ _ _ hok (lv_sub hl [0, 1] rfl) hP hD hS
  intro σ16 x17 H locs ls hok hl hP hD hS
  exact yEndv S hr hlocks hP hD hS (Nat.le_of_ble_eq_true rfl) (Nat.le_of_ble_eq_true rfl) dX0_placeProcedures_132 hok

set_option maxHeartbeats 8000000 in
set_option maxRecDepth 100000 in
theorem v_X0_swallow_52 (l : Launch) (D : va_G) (cI cZ cJ : ClassId) (o : Nat) (u : Nat → Nat) (T : Nat) (ra : Nat → Nat) (ga : SG) (σ : FS) (a1 : Int32) (a2 : Int32) (Φ : FS → Prop) (sz : Nat) (hok : (wp_X0_swallow 52 σ a1 a2 Φ)) : Met l yX0_swallow (uW yX0_swallow cX0_swallow 3 none) ({ frames := 0, cells := 0, slots := 0, locals := 0 }) (va_Pc [.ref (u 51), .int a1, .int a2] (aS ra ga D (tyL cI cZ cJ) (cW o u cI cZ cJ T σ) sz)) (yQv Φ D (cW o u cI cZ cJ T) (va_A (cW o u cI cZ cJ T σ) sz)) 0 0 (va_A (cW o u cI cZ cJ T σ) sz) := by
  refine aStart (lv := [(0, .ref (u 51)), (1, .int a1), (2, .int a2)]) (Qc := fun A => yQv Φ D (cW o u cI cZ cJ T) A) (by decide) (Nat.le_of_ble_eq_true rfl) rfl ?_
  intro p e s m args below meth c ls A H S hr hlocks hnm hl hK hP hD hS hA hB
  have hx := S.1
  have hb := S.2.1
  refine lv_iload_n hx hb dX0_swallow_0 rfl (lv_at hl 1 rfl) ?_
  refine lv_iconst (v := (-1)) hx hb dX0_swallow_1 (by decide) ?_
  refine lv_icmp_eq (tgt := 19) hx hb dX0_swallow_2 (by decide) (fun c_2 => ?_) (fun c_2 => ?_)
  · have hok := hok.1 c_2
    exact yEndv S hr hlocks hP hD hS (Nat.le_of_ble_eq_true rfl) (Nat.le_of_ble_eq_true rfl) dX0_swallow_19 hok
  · have hok := hok.2 c_2
    refine lv_aload_n hx hb dX0_swallow_5 rfl (lv_at hl 0 rfl) ?_
    refine xg (ci := 0) S inX0 rfl hK hP cW_52 13 (by decide) rfl kw_5_2 rfl dX0_swallow_6 ?_
    refine lv_iload_n hx hb dX0_swallow_9 rfl (lv_at hl 1 rfl) ?_
    refine lv_iload_n hx hb dX0_swallow_10 rfl (lv_at hl 2 rfl) ?_
    have h_11 := hok.1
    have hok := hok.2
    refine yiast (t0 := 0) (cw := (cW o u cI cZ cJ T)) S hK hP hD hS cW_61 rfl h_11 dX0_swallow_11 cWa_61 (fun σ1 H locs eσ1 hP hD hS => ?_)
    have hok := hok σ1 eσ1
    refine lv_aload_n hx hb dX0_swallow_12 rfl (lv_at hl 0 rfl) ?_
    refine xg (ci := 0) S inX0 rfl hK hP cW_52 16 (by decide) rfl kw_5_8 rfl dX0_swallow_13 ?_
    refine lv_iload_n hx hb dX0_swallow_16 rfl (lv_at hl 1 rfl) ?_
    refine lv_iconst (v := 1) hx hb dX0_swallow_17 (by decide) ?_
    have h_18 := hok.1
    have hok := hok.2
    refine yzast (t0 := 1) (cw := (cW o u cI cZ cJ T)) S hK hP hD hS cW_64 rfl h_18 dX0_swallow_18 (cWa_64 (Or.inr rfl)) (fun σ2 H locs eσ2 hP hD hS => ?_)
    have hok := hok σ2 eσ2
    exact yEndv S hr hlocks hP hD hS (Nat.le_of_ble_eq_true rfl) (Nat.le_of_ble_eq_true rfl) dX0_swallow_19 hok

set_option maxHeartbeats 8000000 in
set_option maxRecDepth 100000 in
theorem v_X0_place_52 (l : Launch) (D : va_G) (cI cZ cJ : ClassId) (o : Nat) (u : Nat → Nat) (T : Nat) (ra : Nat → Nat) (ga : SG) (σ : FS) (a1 : Int32) (a2 : Int32) (Φ : FS → Prop) (sz : Nat) (hok : (wp_X0_place 52 σ a1 a2 Φ)) : Met l yX0_place (uW yX0_place cX0_place 3 none) ({ frames := 0, cells := 0, slots := 0, locals := 0 }) (va_Pc [.ref (u 51), .int a1, .int a2] (aS ra ga D (tyL cI cZ cJ) (cW o u cI cZ cJ T σ) sz)) (yQv Φ D (cW o u cI cZ cJ T) (va_A (cW o u cI cZ cJ T σ) sz)) 0 0 (va_A (cW o u cI cZ cJ T σ) sz) := by
  refine aStart (lv := [(0, .ref (u 51)), (1, .int a1), (2, .int a2)]) (Qc := fun A => yQv Φ D (cW o u cI cZ cJ T) A) (by decide) (Nat.le_of_ble_eq_true rfl) rfl ?_
  intro p e s m args below meth c ls A H S hr hlocks hnm hl hK hP hD hS hA hB
  have hx := S.1
  have hb := S.2.1
  refine lv_iload_n hx hb dX0_place_0 rfl (lv_at hl 1 rfl) ?_
  refine lv_iconst (v := (-1)) hx hb dX0_place_1 (by decide) ?_
  refine lv_icmp_eq (tgt := 12) hx hb dX0_place_2 (by decide) (fun c_2 => ?_) (fun c_2 => ?_)
  · have hok := hok.1 c_2
    exact yEndv S hr hlocks hP hD hS (Nat.le_of_ble_eq_true rfl) (Nat.le_of_ble_eq_true rfl) dX0_place_12 hok
  · have hok := hok.2 c_2
    refine lv_aload_n hx hb dX0_place_5 rfl (lv_at hl 0 rfl) ?_
    refine xg (ci := 0) S inX0 rfl hK hP cW_52 13 (by decide) rfl kw_5_2 rfl dX0_place_6 ?_
    refine lv_iload_n hx hb dX0_place_9 rfl (lv_at hl 1 rfl) ?_
    refine lv_iload_n hx hb dX0_place_10 rfl (lv_at hl 2 rfl) ?_
    have h_11 := hok.1
    have hok := hok.2
    refine yiast (t0 := 0) (cw := (cW o u cI cZ cJ T)) S hK hP hD hS cW_61 rfl h_11 dX0_place_11 cWa_61 (fun σ1 H locs eσ1 hP hD hS => ?_)
    have hok := hok σ1 eσ1
    exact yEndv S hr hlocks hP hD hS (Nat.le_of_ble_eq_true rfl) (Nat.le_of_ble_eq_true rfl) dX0_place_12 hok

set_option maxHeartbeats 8000000 in
set_option maxRecDepth 100000 in
theorem v_X0_placeParts_52 (l : Launch) (D : va_G) (cI cZ cJ : ClassId) (o : Nat) (u : Nat → Nat) (T : Nat) (ra : Nat → Nat) (ga : SG) (σ : FS) (a1 : Int32) (Φ : FS → Prop) (sz : Nat) (hok : (wp_X0_placeParts 52 σ a1 Φ)) : Met l yX0_placeParts (uW yX0_placeParts cX0_placeParts 8 none) ({ frames := 1, cells := 0, slots := 0, locals := 22 }) (va_Pc [.ref (u 51), .int a1] (aS ra ga D (tyL cI cZ cJ) (cW o u cI cZ cJ T σ) sz)) (yQv Φ D (cW o u cI cZ cJ T) (va_A (cW o u cI cZ cJ T σ) sz)) 0 0 (va_A (cW o u cI cZ cJ T σ) sz) := by
  refine aStart (lv := [(0, .ref (u 51)), (1, .int a1)]) (Qc := fun A => yQv Φ D (cW o u cI cZ cJ T) A) (by decide) (Nat.le_of_ble_eq_true rfl) rfl ?_
  intro p e s m args below meth c ls A H S hr hlocks hnm hl hK hP hD hS hA hB
  have hx := S.1
  have hb := S.2.1
  refine lv_aload_n hx hb dX0_placeParts_0 rfl (lv_at hl 0 rfl) ?_
  refine xg (ci := 0) S inX0 rfl hK hP cW_52 13 (by decide) rfl kw_5_2 rfl dX0_placeParts_1 ?_
  refine lv_iload_n hx hb dX0_placeParts_4 rfl (lv_at hl 1 rfl) ?_
  have h_5 := hok.1
  have hok := hok.2
  refine xiald (t0 := 0) (v := (g σ 61 a1)) S hK hP cW_61 rfl h_5 rfl dX0_placeParts_5 ?_
  refine lv_topi (fun x1 ex1 => ?_)
  have hok := hok x1 ex1
  refine lv_istore_n (lv' := [(2, .int x1), (0, .ref (u 51)), (1, .int a1)]) hx hb dX0_placeParts_6 rfl hl (by decide) rfl (fun ls hl => ?_)
  refine lv_aload_n hx hb dX0_placeParts_7 rfl (lv_at hl 1 rfl) ?_
  refine lv_iload_n hx hb dX0_placeParts_8 rfl (lv_at hl 2 rfl) ?_
  refine yVi (As := [.int a1]) (cw := (cW o u cI cZ cJ T)) (ci := 0) S (v_X0_isPushed_52 l D cI cZ cJ o u T ra ga σ a1 _ H.size hok) mi_X0_isPushed kw_2_62 rfl rfl ⟨Nat.le_of_ble_eq_true rfl, Nat.le_of_ble_eq_true rfl⟩ hP hD hK hS hA hB cW_52 rfl rfl hl.1 (Nat.le_of_ble_eq_true rfl) ⟨Nat.le_of_ble_eq_true rfl, Nat.le_of_ble_eq_true rfl⟩ dX0_placeParts_9 (fun x3 σ2 H locs hok hz hP hD hS => ?_)
  refine lv_if_ne (tgt := 24) hx hb dX0_placeParts_12 (by decide) (fun c_12 => ?_) (fun c_12 => ?_)
  · have hok := hok.2 c_12
    refine lv_aload_n hx hb dX0_placeParts_24 rfl (lv_at hl 1 rfl) ?_
    refine lv_aload_n hx hb dX0_placeParts_25 rfl (lv_at hl 1 rfl) ?_
    refine xg (ci := 0) S inX0 rfl hK hP cW_52 1 (by decide) rfl kw_4_216 rfl dX0_placeParts_26 ?_
    refine lv_iload_n hx hb dX0_placeParts_29 rfl (lv_at hl 2 rfl) ?_
    refine yVi (As := [.int a1]) (cw := (cW o u cI cZ cJ T)) (ci := 5) S (v_X5_partB l D cI cZ cJ o u T ra ga σ2 a1 _ H.size hok) mi_X5_partB kw_2_72 rfl rfl ⟨Nat.le_of_ble_eq_true rfl, Nat.le_of_ble_eq_true rfl⟩ hP hD hK hS hA hB cW_13 rfl rfl hl.1 (Nat.le_of_ble_eq_true rfl) ⟨Nat.le_of_ble_eq_true rfl, Nat.le_of_ble_eq_true rfl⟩ dX0_placeParts_30 (fun x5 σ4 H locs hok hz hP hD hS => ?_)
    refine lv_iload_n hx hb dX0_placeParts_33 rfl (lv_at hl 0 rfl) ?_
    refine yVv (As := [.int x5, .int x1]) (cw := (cW o u cI cZ cJ T)) (ci := 0) S (v_X0_swallow_52 l D cI cZ cJ o u T ra ga σ4 x5 x1 _ H.size hok) mi_X0_swallow kw_2_98 rfl rfl ⟨Nat.le_of_ble_eq_true rfl, Nat.le_of_ble_eq_true rfl⟩ hP hD hK hS hA hB cW_52 rfl rfl hl.1 (Nat.le_of_ble_eq_true rfl) ⟨Nat.le_of_ble_eq_true rfl, Nat.le_of_ble_eq_true rfl⟩ dX0_placeParts_34 (fun σ6 H locs hok hz hP hD hS => ?_)
    refine lv_aload_n hx hb dX0_placeParts_37 rfl (lv_at hl 1 rfl) ?_
    refine lv_aload_n hx hb dX0_placeParts_38 rfl (lv_at hl 1 rfl) ?_
    refine xg (ci := 0) S inX0 rfl hK hP cW_52 1 (by decide) rfl kw_4_216 rfl dX0_placeParts_39 ?_
    refine lv_iload_n hx hb dX0_placeParts_42 rfl (lv_at hl 2 rfl) ?_
    refine yVi (As := [.int a1]) (cw := (cW o u cI cZ cJ T)) (ci := 5) S (v_X5_partC l D cI cZ cJ o u T ra ga σ6 a1 _ H.size hok) mi_X5_partC kw_2_73 rfl rfl ⟨Nat.le_of_ble_eq_true rfl, Nat.le_of_ble_eq_true rfl⟩ hP hD hK hS hA hB cW_13 rfl rfl hl.1 (Nat.le_of_ble_eq_true rfl) ⟨Nat.le_of_ble_eq_true rfl, Nat.le_of_ble_eq_true rfl⟩ dX0_placeParts_43 (fun x8 σ7 H locs hok hz hP hD hS => ?_)
    refine lv_iload_n hx hb dX0_placeParts_46 rfl (lv_at hl 0 rfl) ?_
    refine yVv (As := [.int x8, .int x1]) (cw := (cW o u cI cZ cJ T)) (ci := 0) S (v_X0_swallow_52 l D cI cZ cJ o u T ra ga σ7 x8 x1 _ H.size hok) mi_X0_swallow kw_2_98 rfl rfl ⟨Nat.le_of_ble_eq_true rfl, Nat.le_of_ble_eq_true rfl⟩ hP hD hK hS hA hB cW_52 rfl rfl hl.1 (Nat.le_of_ble_eq_true rfl) ⟨Nat.le_of_ble_eq_true rfl, Nat.le_of_ble_eq_true rfl⟩ dX0_placeParts_47 (fun σ9 H locs hok hz hP hD hS => ?_)
    exact yEndv S hr hlocks hP hD hS (Nat.le_of_ble_eq_true rfl) (Nat.le_of_ble_eq_true rfl) dX0_placeParts_50 hok
  · have hok := hok.1 c_12
    refine lv_aload_n hx hb dX0_placeParts_15 rfl (lv_at hl 1 rfl) ?_
    refine xg (ci := 0) S inX0 rfl hK hP cW_52 16 (by decide) rfl kw_5_8 rfl dX0_placeParts_16 ?_
    refine lv_iload_n hx hb dX0_placeParts_19 rfl (lv_at hl 2 rfl) ?_
    have h_20 := hok.1
    have hok := hok.2
    refine xzald (t0 := 1) (v := (g σ2 64 a1)) S hK hP cW_64 rfl h_20 rfl dX0_placeParts_20 ?_
    refine lv_if_eq (tgt := 51) hx hb dX0_placeParts_21 (by decide) (fun c_21 => ?_) (fun c_21 => ?_)
    · have hok := hok.1 c_21
      refine lv_iconst (v := 0) hx hb dX0_placeParts_51 (by decide) ?_
      refine lv_istore_n (lv' := [(3, .int 0), (2, .int x1), (0, .ref (u 51)), (1, .int a1)]) hx hb dX0_placeParts_52 rfl hl (by decide) rfl (fun ls hl => ?_)
      refine lv_iconst (v := 0) hx hb dX0_placeParts_53 (by decide) ?_
      refine lv_istore (lv' := [(4, .int 0), (3, .int 0), (2, .int x1), (0, .ref (u 51)), (1, .int a1)]) hx hb dX0_placeParts_54 hl (by decide) rfl (fun ls hl => ?_)
      refine lv_aload_n hx hb dX0_placeParts_56 rfl (lv_at hl 3 rfl) ?_
      refine xg (ci := 0) S inX0 rfl hK hP cW_52 1 (by decide) rfl kw_4_216 rfl dX0_placeParts_57 ?_
      refine xg (ci := 5) S inX5 rfl hK hP cW_13 1 (by decide) rfl kw_4_44 rfl dX0_placeParts_60 ?_
      refine lv_iload_n hx hb dX0_placeParts_63 rfl (lv_at hl 4 rfl) ?_
      have h_64 := hok.1
      have hok := hok.2
      refine xiald (t0 := 0) (v := (g σ2 14 a1)) S hK hP cW_14 rfl h_64 rfl dX0_placeParts_64 ?_
      refine lv_topi (fun x10 ex10 => ?_)
      have hok := hok x10 ex10
      by_cases k_65_0 : x10 = 9
      · have hok := hok.1 k_65_0
        rw [k_65_0]
        refine lv_lookup (off := 49) (tgt := 114) hx hb dX0_placeParts_65 (by decide) (by decide) (by decide) ?_
        refine lv_aload_n hx hb dX0_placeParts_114 rfl (lv_at hl 3 rfl) ?_
        refine xg (ci := 0) S inX0 rfl hK hP cW_52 2 (by decide) rfl kw_4_217 rfl dX0_placeParts_115 ?_
        refine xg (ci := 4) S inX4 rfl hK hP cW_20 10 (by decide) rfl kw_4_114 rfl dX0_placeParts_118 ?_
        refine lv_iload_n hx hb dX0_placeParts_121 rfl (lv_at hl 4 rfl) ?_
        have h_122 := hok.1
        have hok := hok.2
        refine xiald (t0 := 0) (v := (g σ2 29 a1)) S hK hP cW_29 rfl h_122 rfl dX0_placeParts_122 ?_
        refine lv_iconst (v := 2) hx hb dX0_placeParts_123 (by decide) ?_
        refine lv_icmp_ne (tgt := 131) hx hb dX0_placeParts_124 (by decide) (fun c_124 => ?_) (fun c_124 => ?_)
        · have hok := hok.2 c_124
          refine lv_iconst (v := 0) hx hb dX0_placeParts_131 (by decide) ?_
          refine lv_istore_n (lv' := [(3, .int 0), (4, .int 0), (2, .int x1), (0, .ref (u 51)), (1, .int a1)]) hx hb dX0_placeParts_132 rfl hl (by decide) rfl (fun ls hl => ?_)
          refine lv_iload_n hx hb dX0_placeParts_133 rfl (lv_at hl 0 rfl) ?_
          refine lv_istore (lv' := [(4, .int 0), (3, .int 0), (2, .int x1), (0, .ref (u 51)), (1, .int a1)]) hx hb dX0_placeParts_134 hl (by decide) rfl (fun ls hl => ?_)
          refine lv_goto (tgt := 139) hx hb dX0_placeParts_136 (by decide) ?_
          refine lv_aload_n hx hb dX0_placeParts_139 rfl (lv_at hl 3 rfl) ?_
          refine xg (ci := 0) S inX0 rfl hK hP cW_52 1 (by decide) rfl kw_4_216 rfl dX0_placeParts_140 ?_
          refine lv_iload_n hx hb dX0_placeParts_143 rfl (lv_at hl 4 rfl) ?_
          refine yVi (As := [.int a1]) (cw := (cW o u cI cZ cJ T)) (ci := 5) S (v_X5_partB l D cI cZ cJ o u T ra ga σ2 a1 _ H.size hok) mi_X5_partB kw_2_72 rfl rfl ⟨Nat.le_of_ble_eq_true rfl, Nat.le_of_ble_eq_true rfl⟩ hP hD hK hS hA hB cW_13 rfl rfl hl.1 (Nat.le_of_ble_eq_true rfl) ⟨Nat.le_of_ble_eq_true rfl, Nat.le_of_ble_eq_true rfl⟩ dX0_placeParts_144 (fun x12 σ11 H locs hok hz hP hD hS => ?_)
          refine lv_istore (lv' := [(5, .int x12), (4, .int 0), (3, .int 0), (2, .int x1), (0, .ref (u 51)), (1, .int a1)]) hx hb dX0_placeParts_147 hl (by decide) rfl (fun ls hl => ?_)
          refine lv_iload_n hx hb dX0_placeParts_149 rfl (lv_at hl 3 rfl) ?_
          refine lv_iload_n hx hb dX0_placeParts_150 rfl (lv_at hl 2 rfl) ?_
          refine xiadd (v := x1 + 0) S dX0_placeParts_151 rfl ?_
          refine lv_aload_n hx hb dX0_placeParts_152 rfl (lv_at hl 4 rfl) ?_
          refine lv_iload hx hb dX0_placeParts_153 (lv_at hl 0 rfl) ?_
          refine yVi (As := [.int x12]) (cw := (cW o u cI cZ cJ T)) (ci := 0) S (v_X0_lengthOfPart_52 l D cI cZ cJ o u T ra ga σ11 x12 _ H.size hok) mi_X0_lengthOfPart kw_2_68 rfl rfl ⟨Nat.le_of_ble_eq_true rfl, Nat.le_of_ble_eq_true rfl⟩ hP hD hK hS hA hB cW_52 rfl rfl hl.1 (Nat.le_of_ble_eq_true rfl) ⟨Nat.le_of_ble_eq_true rfl, Nat.le_of_ble_eq_true rfl⟩ dX0_placeParts_155 (fun x14 σ13 H locs hok hz hP hD hS => ?_)
          refine xiadd (v := (x1 + 0) + x14) S dX0_placeParts_158 rfl ?_
          refine lv_iload hx hb dX0_placeParts_159 (lv_at hl 1 rfl) ?_
          refine xiadd (v := ((x1 + 0) + x14) + 0) S dX0_placeParts_161 rfl ?_
          refine lv_topi (fun x15 ex15 => ?_)
          have hok := hok x15 ex15
          refine lv_istore (lv' := [(6, .int x15), (5, .int x12), (4, .int 0), (3, .int 0), (2, .int x1), (0, .ref (u 51)), (1, .int a1)]) hx hb dX0_placeParts_162 hl (by decide) rfl (fun ls hl => ?_)
          refine lv_aload_n hx hb dX0_placeParts_164 rfl (lv_at hl 5 rfl) ?_
          refine xg (ci := 0) S inX0 rfl hK hP cW_52 1 (by decide) rfl kw_4_216 rfl dX0_placeParts_165 ?_
          refine lv_iload_n hx hb dX0_placeParts_168 rfl (lv_at hl 6 rfl) ?_
          refine yVi (As := [.int a1]) (cw := (cW o u cI cZ cJ T)) (ci := 5) S (v_X5_partC l D cI cZ cJ o u T ra ga σ13 a1 _ H.size hok) mi_X5_partC kw_2_73 rfl rfl ⟨Nat.le_of_ble_eq_true rfl, Nat.le_of_ble_eq_true rfl⟩ hP hD hK hS hA hB cW_13 rfl rfl hl.1 (Nat.le_of_ble_eq_true rfl) ⟨Nat.le_of_ble_eq_true rfl, Nat.le_of_ble_eq_true rfl⟩ dX0_placeParts_169 (fun x17 σ16 H locs hok hz hP hD hS => ?_)
          refine lv_istore (lv' := [(7, .int x17), (6, .int x15), (5, .int x12), (4, .int 0), (3, .int 0), (2, .int x1), (0, .ref (u 51)), (1, .int a1)]) hx hb dX0_placeParts_172 hl (by decide) rfl (fun ls hl => ?_)
          refine lv_aload_n hx hb dX0_placeParts_174 rfl (lv_at hl 6 rfl) ?_
          refine lv_iload hx hb dX0_placeParts_175 (lv_at hl 2 rfl) ?_
          refine lv_iload_n hx hb dX0_placeParts_177 rfl (lv_at hl 5 rfl) ?_
          refine lv_iload_n hx hb dX0_placeParts_178 rfl (lv_at hl 4 rfl) ?_
          refine xiadd (v := x1 + 0) S dX0_placeParts_179 rfl ?_
          refine yVv (As := [.int x12, .int (x1 + 0)]) (cw := (cW o u cI cZ cJ T)) (ci := 0) S (v_X0_place_52 l D cI cZ cJ o u T ra ga σ16 x12 (x1 + 0) _ H.size hok) mi_X0_place kw_2_102 rfl rfl ⟨Nat.le_of_ble_eq_true rfl, Nat.le_of_ble_eq_true rfl⟩ hP hD hK hS hA hB cW_52 rfl rfl hl.1 (Nat.le_of_ble_eq_true rfl) ⟨Nat.le_of_ble_eq_true rfl, Nat.le_of_ble_eq_true rfl⟩ dX0_placeParts_180 (fun σ18 H locs hok hz hP hD hS => ?_)
          refine lv_aload_n hx hb dX0_placeParts_183 rfl (lv_at hl 6 rfl) ?_
          refine lv_iload hx hb dX0_placeParts_184 (lv_at hl 0 rfl) ?_
          refine lv_iload hx hb dX0_placeParts_186 (lv_at hl 1 rfl) ?_
          refine yVv (As := [.int x17, .int x15]) (cw := (cW o u cI cZ cJ T)) (ci := 0) S (v_X0_place_52 l D cI cZ cJ o u T ra ga σ18 x17 x15 _ H.size hok) mi_X0_place kw_2_102 rfl rfl ⟨Nat.le_of_ble_eq_true rfl, Nat.le_of_ble_eq_true rfl⟩ hP hD hK hS hA hB cW_52 rfl rfl hl.1 (Nat.le_of_ble_eq_true rfl) ⟨Nat.le_of_ble_eq_true rfl, Nat.le_of_ble_eq_true rfl⟩ dX0_placeParts_188 (fun σ19 H locs hok hz hP hD hS => ?_)
          refine lv_aload_n hx hb dX0_placeParts_191 rfl (lv_at hl 6 rfl) ?_
          refine lv_aload_n hx hb dX0_placeParts_192 rfl (lv_at hl 6 rfl) ?_
          refine xg (ci := 0) S inX0 rfl hK hP cW_52 1 (by decide) rfl kw_4_216 rfl dX0_placeParts_193 ?_
          refine lv_iload_n hx hb dX0_placeParts_196 rfl (lv_at hl 7 rfl) ?_
          refine yVi (As := [.int a1]) (cw := (cW o u cI cZ cJ T)) (ci := 5) S (v_X5_partA l D cI cZ cJ o u T ra ga σ19 a1 _ H.size hok) mi_X5_partA kw_2_67 rfl rfl ⟨Nat.le_of_ble_eq_true rfl, Nat.le_of_ble_eq_true rfl⟩ hP hD hK hS hA hB cW_13 rfl rfl hl.1 (Nat.le_of_ble_eq_true rfl) ⟨Nat.le_of_ble_eq_true rfl, Nat.le_of_ble_eq_true rfl⟩ dX0_placeParts_197 (fun x21 σ20 H locs hok hz hP hD hS => ?_)
          refine lv_iload hx hb dX0_placeParts_200 (lv_at hl 1 rfl) ?_
          refine lv_aload_n hx hb dX0_placeParts_202 rfl (lv_at hl 6 rfl) ?_
          refine lv_iload hx hb dX0_placeParts_203 (lv_at hl 0 rfl) ?_
          refine yVi (As := [.int x17]) (cw := (cW o u cI cZ cJ T)) (ci := 0) S (v_X0_lengthOfPart_52 l D cI cZ cJ o u T ra ga σ20 x17 _ H.size hok) mi_X0_lengthOfPart kw_2_68 rfl rfl ⟨Nat.le_of_ble_eq_true rfl, Nat.le_of_ble_eq_true rfl⟩ hP hD hK hS hA hB cW_52 rfl rfl hl.1 (Nat.le_of_ble_eq_true rfl) ⟨Nat.le_of_ble_eq_true rfl, Nat.le_of_ble_eq_true rfl⟩ dX0_placeParts_205 (fun x23 σ22 H locs hok hz hP hD hS => ?_)
          refine xiadd (v := x15 + x23) S dX0_placeParts_208 rfl ?_
          refine lv_iconst (v := 1) hx hb dX0_placeParts_209 (by decide) ?_
          refine xiadd (v := (x15 + x23) + 1) S dX0_placeParts_210 rfl ?_
          refine yVv (As := [.int x21, .int ((x15 + x23) + 1)]) (cw := (cW o u cI cZ cJ T)) (ci := 0) S (v_X0_place_52 l D cI cZ cJ o u T ra ga σ22 x21 ((x15 + x23) + 1) _ H.size hok) mi_X0_place kw_2_102 rfl rfl ⟨Nat.le_of_ble_eq_true rfl, Nat.le_of_ble_eq_true rfl⟩ hP hD hK hS hA hB cW_52 rfl rfl hl.1 (Nat.le_of_ble_eq_true rfl) ⟨Nat.le_of_ble_eq_true rfl, Nat.le_of_ble_eq_true rfl⟩ dX0_placeParts_211 (fun σ24 H locs hok hz hP hD hS => ?_)
          exact yEndv S hr hlocks hP hD hS (Nat.le_of_ble_eq_true rfl) (Nat.le_of_ble_eq_true rfl) dX0_placeParts_214 hok
        · have hok := hok.1 c_124
          refine lv_iconst (v := 1) hx hb dX0_placeParts_127 (by decide) ?_
          refine lv_goto (tgt := 132) hx hb dX0_placeParts_128 (by decide) ?_
          refine lv_istore_n (lv' := [(3, .int 1), (4, .int 0), (2, .int x1), (0, .ref (u 51)), (1, .int a1)]) hx hb dX0_placeParts_132 rfl hl (by decide) rfl (fun ls hl => ?_)
          refine lv_iload_n hx hb dX0_placeParts_133 rfl (lv_at hl 0 rfl) ?_
          refine lv_istore (lv' := [(4, .int 1), (3, .int 1), (2, .int x1), (0, .ref (u 51)), (1, .int a1)]) hx hb dX0_placeParts_134 hl (by decide) rfl (fun ls hl => ?_)
          refine lv_goto (tgt := 139) hx hb dX0_placeParts_136 (by decide) ?_
          refine lv_aload_n hx hb dX0_placeParts_139 rfl (lv_at hl 3 rfl) ?_
          refine xg (ci := 0) S inX0 rfl hK hP cW_52 1 (by decide) rfl kw_4_216 rfl dX0_placeParts_140 ?_
          refine lv_iload_n hx hb dX0_placeParts_143 rfl (lv_at hl 4 rfl) ?_
          refine yVi (As := [.int a1]) (cw := (cW o u cI cZ cJ T)) (ci := 5) S (v_X5_partB l D cI cZ cJ o u T ra ga σ2 a1 _ H.size hok) mi_X5_partB kw_2_72 rfl rfl ⟨Nat.le_of_ble_eq_true rfl, Nat.le_of_ble_eq_true rfl⟩ hP hD hK hS hA hB cW_13 rfl rfl hl.1 (Nat.le_of_ble_eq_true rfl) ⟨Nat.le_of_ble_eq_true rfl, Nat.le_of_ble_eq_true rfl⟩ dX0_placeParts_144 (fun x26 σ25 H locs hok hz hP hD hS => ?_)
          refine lv_istore (lv' := [(5, .int x26), (4, .int 1), (3, .int 1), (2, .int x1), (0, .ref (u 51)), (1, .int a1)]) hx hb dX0_placeParts_147 hl (by decide) rfl (fun ls hl => ?_)
          refine lv_iload_n hx hb dX0_placeParts_149 rfl (lv_at hl 3 rfl) ?_
          refine lv_iload_n hx hb dX0_placeParts_150 rfl (lv_at hl 2 rfl) ?_
          refine xiadd (v := x1 + 1) S dX0_placeParts_151 rfl ?_
          refine lv_aload_n hx hb dX0_placeParts_152 rfl (lv_at hl 4 rfl) ?_
          refine lv_iload hx hb dX0_placeParts_153 (lv_at hl 0 rfl) ?_
          refine yVi (As := [.int x26]) (cw := (cW o u cI cZ cJ T)) (ci := 0) S (v_X0_lengthOfPart_52 l D cI cZ cJ o u T ra ga σ25 x26 _ H.size hok) mi_X0_lengthOfPart kw_2_68 rfl rfl ⟨Nat.le_of_ble_eq_true rfl, Nat.le_of_ble_eq_true rfl⟩ hP hD hK hS hA hB cW_52 rfl rfl hl.1 (Nat.le_of_ble_eq_true rfl) ⟨Nat.le_of_ble_eq_true rfl, Nat.le_of_ble_eq_true rfl⟩ dX0_placeParts_155 (fun x28 σ27 H locs hok hz hP hD hS => ?_)
          refine xiadd (v := (x1 + 1) + x28) S dX0_placeParts_158 rfl ?_
          refine lv_iload hx hb dX0_placeParts_159 (lv_at hl 1 rfl) ?_
          refine xiadd (v := ((x1 + 1) + x28) + 1) S dX0_placeParts_161 rfl ?_
          refine lv_topi (fun x29 ex29 => ?_)
          have hok := hok x29 ex29
          refine lv_istore (lv' := [(6, .int x29), (5, .int x26), (4, .int 1), (3, .int 1), (2, .int x1), (0, .ref (u 51)), (1, .int a1)]) hx hb dX0_placeParts_162 hl (by decide) rfl (fun ls hl => ?_)
          refine lv_aload_n hx hb dX0_placeParts_164 rfl (lv_at hl 5 rfl) ?_
          refine xg (ci := 0) S inX0 rfl hK hP cW_52 1 (by decide) rfl kw_4_216 rfl dX0_placeParts_165 ?_
          refine lv_iload_n hx hb dX0_placeParts_168 rfl (lv_at hl 6 rfl) ?_
          refine yVi (As := [.int a1]) (cw := (cW o u cI cZ cJ T)) (ci := 5) S (v_X5_partC l D cI cZ cJ o u T ra ga σ27 a1 _ H.size hok) mi_X5_partC kw_2_73 rfl rfl ⟨Nat.le_of_ble_eq_true rfl, Nat.le_of_ble_eq_true rfl⟩ hP hD hK hS hA hB cW_13 rfl rfl hl.1 (Nat.le_of_ble_eq_true rfl) ⟨Nat.le_of_ble_eq_true rfl, Nat.le_of_ble_eq_true rfl⟩ dX0_placeParts_169 (fun x31 σ30 H locs hok hz hP hD hS => ?_)
          refine lv_istore (lv' := [(7, .int x31), (6, .int x29), (5, .int x26), (4, .int 1), (3, .int 1), (2, .int x1), (0, .ref (u 51)), (1, .int a1)]) hx hb dX0_placeParts_172 hl (by decide) rfl (fun ls hl => ?_)
          refine lv_aload_n hx hb dX0_placeParts_174 rfl (lv_at hl 6 rfl) ?_
          refine lv_iload hx hb dX0_placeParts_175 (lv_at hl 2 rfl) ?_
          refine lv_iload_n hx hb dX0_placeParts_177 rfl (lv_at hl 5 rfl) ?_
          refine lv_iload_n hx hb dX0_placeParts_178 rfl (lv_at hl 4 rfl) ?_
          refine xiadd (v := x1 + 1) S dX0_placeParts_179 rfl ?_
          refine yVv (As := [.int x26, .int (x1 + 1)]) (cw := (cW o u cI cZ cJ T)) (ci := 0) S (v_X0_place_52 l D cI cZ cJ o u T ra ga σ30 x26 (x1 + 1) _ H.size hok) mi_X0_place kw_2_102 rfl rfl ⟨Nat.le_of_ble_eq_true rfl, Nat.le_of_ble_eq_true rfl⟩ hP hD hK hS hA hB cW_52 rfl rfl hl.1 (Nat.le_of_ble_eq_true rfl) ⟨Nat.le_of_ble_eq_true rfl, Nat.le_of_ble_eq_true rfl⟩ dX0_placeParts_180 (fun σ32 H locs hok hz hP hD hS => ?_)
          refine lv_aload_n hx hb dX0_placeParts_183 rfl (lv_at hl 6 rfl) ?_
          refine lv_iload hx hb dX0_placeParts_184 (lv_at hl 0 rfl) ?_
          refine lv_iload hx hb dX0_placeParts_186 (lv_at hl 1 rfl) ?_
          refine yVv (As := [.int x31, .int x29]) (cw := (cW o u cI cZ cJ T)) (ci := 0) S (v_X0_place_52 l D cI cZ cJ o u T ra ga σ32 x31 x29 _ H.size hok) mi_X0_place kw_2_102 rfl rfl ⟨Nat.le_of_ble_eq_true rfl, Nat.le_of_ble_eq_true rfl⟩ hP hD hK hS hA hB cW_52 rfl rfl hl.1 (Nat.le_of_ble_eq_true rfl) ⟨Nat.le_of_ble_eq_true rfl, Nat.le_of_ble_eq_true rfl⟩ dX0_placeParts_188 (fun σ33 H locs hok hz hP hD hS => ?_)
          refine lv_aload_n hx hb dX0_placeParts_191 rfl (lv_at hl 6 rfl) ?_
          refine lv_aload_n hx hb dX0_placeParts_192 rfl (lv_at hl 6 rfl) ?_
          refine xg (ci := 0) S inX0 rfl hK hP cW_52 1 (by decide) rfl kw_4_216 rfl dX0_placeParts_193 ?_
          refine lv_iload_n hx hb dX0_placeParts_196 rfl (lv_at hl 7 rfl) ?_
          refine yVi (As := [.int a1]) (cw := (cW o u cI cZ cJ T)) (ci := 5) S (v_X5_partA l D cI cZ cJ o u T ra ga σ33 a1 _ H.size hok) mi_X5_partA kw_2_67 rfl rfl ⟨Nat.le_of_ble_eq_true rfl, Nat.le_of_ble_eq_true rfl⟩ hP hD hK hS hA hB cW_13 rfl rfl hl.1 (Nat.le_of_ble_eq_true rfl) ⟨Nat.le_of_ble_eq_true rfl, Nat.le_of_ble_eq_true rfl⟩ dX0_placeParts_197 (fun x35 σ34 H locs hok hz hP hD hS => ?_)
          refine lv_iload hx hb dX0_placeParts_200 (lv_at hl 1 rfl) ?_
          refine lv_aload_n hx hb dX0_placeParts_202 rfl (lv_at hl 6 rfl) ?_
          refine lv_iload hx hb dX0_placeParts_203 (lv_at hl 0 rfl) ?_
          refine yVi (As := [.int x31]) (cw := (cW o u cI cZ cJ T)) (ci := 0) S (v_X0_lengthOfPart_52 l D cI cZ cJ o u T ra ga σ34 x31 _ H.size hok) mi_X0_lengthOfPart kw_2_68 rfl rfl ⟨Nat.le_of_ble_eq_true rfl, Nat.le_of_ble_eq_true rfl⟩ hP hD hK hS hA hB cW_52 rfl rfl hl.1 (Nat.le_of_ble_eq_true rfl) ⟨Nat.le_of_ble_eq_true rfl, Nat.le_of_ble_eq_true rfl⟩ dX0_placeParts_205 (fun x37 σ36 H locs hok hz hP hD hS => ?_)
          refine xiadd (v := x29 + x37) S dX0_placeParts_208 rfl ?_
          refine lv_iconst (v := 1) hx hb dX0_placeParts_209 (by decide) ?_
          refine xiadd (v := (x29 + x37) + 1) S dX0_placeParts_210 rfl ?_
          refine yVv (As := [.int x35, .int ((x29 + x37) + 1)]) (cw := (cW o u cI cZ cJ T)) (ci := 0) S (v_X0_place_52 l D cI cZ cJ o u T ra ga σ36 x35 ((x29 + x37) + 1) _ H.size hok) mi_X0_place kw_2_102 rfl rfl ⟨Nat.le_of_ble_eq_true rfl, Nat.le_of_ble_eq_true rfl⟩ hP hD hK hS hA hB cW_52 rfl rfl hl.1 (Nat.le_of_ble_eq_true rfl) ⟨Nat.le_of_ble_eq_true rfl, Nat.le_of_ble_eq_true rfl⟩ dX0_placeParts_211 (fun σ38 H locs hok hz hP hD hS => ?_)
          exact yEndv S hr hlocks hP hD hS (Nat.le_of_ble_eq_true rfl) (Nat.le_of_ble_eq_true rfl) dX0_placeParts_214 hok
      · have hok := hok.2 k_65_0
        by_cases k_65_1 : x10 = 15
        · have hok := hok.1 k_65_1
          rw [k_65_1]
          refine lv_lookup (off := 43) (tgt := 108) hx hb dX0_placeParts_65 (by decide) (by decide) (by decide) ?_
          refine lv_iconst (v := 1) hx hb dX0_placeParts_108 (by decide) ?_
          refine lv_istore (lv' := [(4, .int 1), (3, .int 0), (2, .int x1), (0, .ref (u 51)), (1, .int a1)]) hx hb dX0_placeParts_109 hl (by decide) rfl (fun ls hl => ?_)
          refine lv_goto (tgt := 139) hx hb dX0_placeParts_111 (by decide) ?_
          refine lv_aload_n hx hb dX0_placeParts_139 rfl (lv_at hl 3 rfl) ?_
          refine xg (ci := 0) S inX0 rfl hK hP cW_52 1 (by decide) rfl kw_4_216 rfl dX0_placeParts_140 ?_
          refine lv_iload_n hx hb dX0_placeParts_143 rfl (lv_at hl 4 rfl) ?_
          refine yVi (As := [.int a1]) (cw := (cW o u cI cZ cJ T)) (ci := 5) S (v_X5_partB l D cI cZ cJ o u T ra ga σ2 a1 _ H.size hok) mi_X5_partB kw_2_72 rfl rfl ⟨Nat.le_of_ble_eq_true rfl, Nat.le_of_ble_eq_true rfl⟩ hP hD hK hS hA hB cW_13 rfl rfl hl.1 (Nat.le_of_ble_eq_true rfl) ⟨Nat.le_of_ble_eq_true rfl, Nat.le_of_ble_eq_true rfl⟩ dX0_placeParts_144 (fun x40 σ39 H locs hok hz hP hD hS => ?_)
          refine lv_istore (lv' := [(5, .int x40), (4, .int 1), (3, .int 0), (2, .int x1), (0, .ref (u 51)), (1, .int a1)]) hx hb dX0_placeParts_147 hl (by decide) rfl (fun ls hl => ?_)
          refine lv_iload_n hx hb dX0_placeParts_149 rfl (lv_at hl 3 rfl) ?_
          refine lv_iload_n hx hb dX0_placeParts_150 rfl (lv_at hl 2 rfl) ?_
          refine xiadd (v := x1 + 0) S dX0_placeParts_151 rfl ?_
          refine lv_aload_n hx hb dX0_placeParts_152 rfl (lv_at hl 4 rfl) ?_
          refine lv_iload hx hb dX0_placeParts_153 (lv_at hl 0 rfl) ?_
          refine yVi (As := [.int x40]) (cw := (cW o u cI cZ cJ T)) (ci := 0) S (v_X0_lengthOfPart_52 l D cI cZ cJ o u T ra ga σ39 x40 _ H.size hok) mi_X0_lengthOfPart kw_2_68 rfl rfl ⟨Nat.le_of_ble_eq_true rfl, Nat.le_of_ble_eq_true rfl⟩ hP hD hK hS hA hB cW_52 rfl rfl hl.1 (Nat.le_of_ble_eq_true rfl) ⟨Nat.le_of_ble_eq_true rfl, Nat.le_of_ble_eq_true rfl⟩ dX0_placeParts_155 (fun x42 σ41 H locs hok hz hP hD hS => ?_)
          refine xiadd (v := (x1 + 0) + x42) S dX0_placeParts_158 rfl ?_
          refine lv_iload hx hb dX0_placeParts_159 (lv_at hl 1 rfl) ?_
          refine xiadd (v := ((x1 + 0) + x42) + 1) S dX0_placeParts_161 rfl ?_
          refine lv_topi (fun x43 ex43 => ?_)
          have hok := hok x43 ex43
          refine lv_istore (lv' := [(6, .int x43), (5, .int x40), (4, .int 1), (3, .int 0), (2, .int x1), (0, .ref (u 51)), (1, .int a1)]) hx hb dX0_placeParts_162 hl (by decide) rfl (fun ls hl => ?_)
          refine lv_aload_n hx hb dX0_placeParts_164 rfl (lv_at hl 5 rfl) ?_
          refine xg (ci := 0) S inX0 rfl hK hP cW_52 1 (by decide) rfl kw_4_216 rfl dX0_placeParts_165 ?_
          refine lv_iload_n hx hb dX0_placeParts_168 rfl (lv_at hl 6 rfl) ?_
          refine yVi (As := [.int a1]) (cw := (cW o u cI cZ cJ T)) (ci := 5) S (v_X5_partC l D cI cZ cJ o u T ra ga σ41 a1 _ H.size hok) mi_X5_partC kw_2_73 rfl rfl ⟨Nat.le_of_ble_eq_true rfl, Nat.le_of_ble_eq_true rfl⟩ hP hD hK hS hA hB cW_13 rfl rfl hl.1 (Nat.le_of_ble_eq_true rfl) ⟨Nat.le_of_ble_eq_true rfl, Nat.le_of_ble_eq_true rfl⟩ dX0_placeParts_169 (fun x45 σ44 H locs hok hz hP hD hS => ?_)
          refine lv_istore (lv' := [(7, .int x45), (6, .int x43), (5, .int x40), (4, .int 1), (3, .int 0), (2, .int x1), (0, .ref (u 51)), (1, .int a1)]) hx hb dX0_placeParts_172 hl (by decide) rfl (fun ls hl => ?_)
          refine lv_aload_n hx hb dX0_placeParts_174 rfl (lv_at hl 6 rfl) ?_
          refine lv_iload hx hb dX0_placeParts_175 (lv_at hl 2 rfl) ?_
          refine lv_iload_n hx hb dX0_placeParts_177 rfl (lv_at hl 5 rfl) ?_
          refine lv_iload_n hx hb dX0_placeParts_178 rfl (lv_at hl 4 rfl) ?_
          refine xiadd (v := x1 + 0) S dX0_placeParts_179 rfl ?_
          refine yVv (As := [.int x40, .int (x1 + 0)]) (cw := (cW o u cI cZ cJ T)) (ci := 0) S (v_X0_place_52 l D cI cZ cJ o u T ra ga σ44 x40 (x1 + 0) _ H.size hok) mi_X0_place kw_2_102 rfl rfl ⟨Nat.le_of_ble_eq_true rfl, Nat.le_of_ble_eq_true rfl⟩ hP hD hK hS hA hB cW_52 rfl rfl hl.1 (Nat.le_of_ble_eq_true rfl) ⟨Nat.le_of_ble_eq_true rfl, Nat.le_of_ble_eq_true rfl⟩ dX0_placeParts_180 (fun σ46 H locs hok hz hP hD hS => ?_)
          refine lv_aload_n hx hb dX0_placeParts_183 rfl (lv_at hl 6 rfl) ?_
          refine lv_iload hx hb dX0_placeParts_184 (lv_at hl 0 rfl) ?_
          refine lv_iload hx hb dX0_placeParts_186 (lv_at hl 1 rfl) ?_
          refine yVv (As := [.int x45, .int x43]) (cw := (cW o u cI cZ cJ T)) (ci := 0) S (v_X0_place_52 l D cI cZ cJ o u T ra ga σ46 x45 x43 _ H.size hok) mi_X0_place kw_2_102 rfl rfl ⟨Nat.le_of_ble_eq_true rfl, Nat.le_of_ble_eq_true rfl⟩ hP hD hK hS hA hB cW_52 rfl rfl hl.1 (Nat.le_of_ble_eq_true rfl) ⟨Nat.le_of_ble_eq_true rfl, Nat.le_of_ble_eq_true rfl⟩ dX0_placeParts_188 (fun σ47 H locs hok hz hP hD hS => ?_)
          refine lv_aload_n hx hb dX0_placeParts_191 rfl (lv_at hl 6 rfl) ?_
          refine lv_aload_n hx hb dX0_placeParts_192 rfl (lv_at hl 6 rfl) ?_
          refine xg (ci := 0) S inX0 rfl hK hP cW_52 1 (by decide) rfl kw_4_216 rfl dX0_placeParts_193 ?_
          refine lv_iload_n hx hb dX0_placeParts_196 rfl (lv_at hl 7 rfl) ?_
          refine yVi (As := [.int a1]) (cw := (cW o u cI cZ cJ T)) (ci := 5) S (v_X5_partA l D cI cZ cJ o u T ra ga σ47 a1 _ H.size hok) mi_X5_partA kw_2_67 rfl rfl ⟨Nat.le_of_ble_eq_true rfl, Nat.le_of_ble_eq_true rfl⟩ hP hD hK hS hA hB cW_13 rfl rfl hl.1 (Nat.le_of_ble_eq_true rfl) ⟨Nat.le_of_ble_eq_true rfl, Nat.le_of_ble_eq_true rfl⟩ dX0_placeParts_197 (fun x49 σ48 H locs hok hz hP hD hS => ?_)
          refine lv_iload hx hb dX0_placeParts_200 (lv_at hl 1 rfl) ?_
          refine lv_aload_n hx hb dX0_placeParts_202 rfl (lv_at hl 6 rfl) ?_
          refine lv_iload hx hb dX0_placeParts_203 (lv_at hl 0 rfl) ?_
          refine yVi (As := [.int x45]) (cw := (cW o u cI cZ cJ T)) (ci := 0) S (v_X0_lengthOfPart_52 l D cI cZ cJ o u T ra ga σ48 x45 _ H.size hok) mi_X0_lengthOfPart kw_2_68 rfl rfl ⟨Nat.le_of_ble_eq_true rfl, Nat.le_of_ble_eq_true rfl⟩ hP hD hK hS hA hB cW_52 rfl rfl hl.1 (Nat.le_of_ble_eq_true rfl) ⟨Nat.le_of_ble_eq_true rfl, Nat.le_of_ble_eq_true rfl⟩ dX0_placeParts_205 (fun x51 σ50 H locs hok hz hP hD hS => ?_)
          refine xiadd (v := x43 + x51) S dX0_placeParts_208 rfl ?_
          refine lv_iconst (v := 1) hx hb dX0_placeParts_209 (by decide) ?_
          refine xiadd (v := (x43 + x51) + 1) S dX0_placeParts_210 rfl ?_
          refine yVv (As := [.int x49, .int ((x43 + x51) + 1)]) (cw := (cW o u cI cZ cJ T)) (ci := 0) S (v_X0_place_52 l D cI cZ cJ o u T ra ga σ50 x49 ((x43 + x51) + 1) _ H.size hok) mi_X0_place kw_2_102 rfl rfl ⟨Nat.le_of_ble_eq_true rfl, Nat.le_of_ble_eq_true rfl⟩ hP hD hK hS hA hB cW_52 rfl rfl hl.1 (Nat.le_of_ble_eq_true rfl) ⟨Nat.le_of_ble_eq_true rfl, Nat.le_of_ble_eq_true rfl⟩ dX0_placeParts_211 (fun σ52 H locs hok hz hP hD hS => ?_)
          exact yEndv S hr hlocks hP hD hS (Nat.le_of_ble_eq_true rfl) (Nat.le_of_ble_eq_true rfl) dX0_placeParts_214 hok
        · have hok := hok.2 k_65_1
          by_cases k_65_2 : x10 = 16
          · have hok := hok.1 k_65_2
            rw [k_65_2]
            refine lv_lookup (off := 35) (tgt := 100) hx hb dX0_placeParts_65 (by decide) (by decide) (by decide) ?_
            refine lv_iconst (v := 1) hx hb dX0_placeParts_100 (by decide) ?_
            refine lv_istore_n (lv' := [(3, .int 1), (4, .int 0), (2, .int x1), (0, .ref (u 51)), (1, .int a1)]) hx hb dX0_placeParts_101 rfl hl (by decide) rfl (fun ls hl => ?_)
            refine lv_iconst (v := 1) hx hb dX0_placeParts_102 (by decide) ?_
            refine lv_istore (lv' := [(4, .int 1), (3, .int 1), (2, .int x1), (0, .ref (u 51)), (1, .int a1)]) hx hb dX0_placeParts_103 hl (by decide) rfl (fun ls hl => ?_)
            refine lv_goto (tgt := 139) hx hb dX0_placeParts_105 (by decide) ?_
            refine lv_aload_n hx hb dX0_placeParts_139 rfl (lv_at hl 3 rfl) ?_
            refine xg (ci := 0) S inX0 rfl hK hP cW_52 1 (by decide) rfl kw_4_216 rfl dX0_placeParts_140 ?_
            refine lv_iload_n hx hb dX0_placeParts_143 rfl (lv_at hl 4 rfl) ?_
            refine yVi (As := [.int a1]) (cw := (cW o u cI cZ cJ T)) (ci := 5) S (v_X5_partB l D cI cZ cJ o u T ra ga σ2 a1 _ H.size hok) mi_X5_partB kw_2_72 rfl rfl ⟨Nat.le_of_ble_eq_true rfl, Nat.le_of_ble_eq_true rfl⟩ hP hD hK hS hA hB cW_13 rfl rfl hl.1 (Nat.le_of_ble_eq_true rfl) ⟨Nat.le_of_ble_eq_true rfl, Nat.le_of_ble_eq_true rfl⟩ dX0_placeParts_144 (fun x54 σ53 H locs hok hz hP hD hS => ?_)
            refine lv_istore (lv' := [(5, .int x54), (4, .int 1), (3, .int 1), (2, .int x1), (0, .ref (u 51)), (1, .int a1)]) hx hb dX0_placeParts_147 hl (by decide) rfl (fun ls hl => ?_)
            refine lv_iload_n hx hb dX0_placeParts_149 rfl (lv_at hl 3 rfl) ?_
            refine lv_iload_n hx hb dX0_placeParts_150 rfl (lv_at hl 2 rfl) ?_
            refine xiadd (v := x1 + 1) S dX0_placeParts_151 rfl ?_
            refine lv_aload_n hx hb dX0_placeParts_152 rfl (lv_at hl 4 rfl) ?_
            refine lv_iload hx hb dX0_placeParts_153 (lv_at hl 0 rfl) ?_
            refine yVi (As := [.int x54]) (cw := (cW o u cI cZ cJ T)) (ci := 0) S (v_X0_lengthOfPart_52 l D cI cZ cJ o u T ra ga σ53 x54 _ H.size hok) mi_X0_lengthOfPart kw_2_68 rfl rfl ⟨Nat.le_of_ble_eq_true rfl, Nat.le_of_ble_eq_true rfl⟩ hP hD hK hS hA hB cW_52 rfl rfl hl.1 (Nat.le_of_ble_eq_true rfl) ⟨Nat.le_of_ble_eq_true rfl, Nat.le_of_ble_eq_true rfl⟩ dX0_placeParts_155 (fun x56 σ55 H locs hok hz hP hD hS => ?_)
            refine xiadd (v := (x1 + 1) + x56) S dX0_placeParts_158 rfl ?_
            refine lv_iload hx hb dX0_placeParts_159 (lv_at hl 1 rfl) ?_
            refine xiadd (v := ((x1 + 1) + x56) + 1) S dX0_placeParts_161 rfl ?_
            refine lv_topi (fun x57 ex57 => ?_)
            have hok := hok x57 ex57
            refine lv_istore (lv' := [(6, .int x57), (5, .int x54), (4, .int 1), (3, .int 1), (2, .int x1), (0, .ref (u 51)), (1, .int a1)]) hx hb dX0_placeParts_162 hl (by decide) rfl (fun ls hl => ?_)
            refine lv_aload_n hx hb dX0_placeParts_164 rfl (lv_at hl 5 rfl) ?_
            refine xg (ci := 0) S inX0 rfl hK hP cW_52 1 (by decide) rfl kw_4_216 rfl dX0_placeParts_165 ?_
            refine lv_iload_n hx hb dX0_placeParts_168 rfl (lv_at hl 6 rfl) ?_
            refine yVi (As := [.int a1]) (cw := (cW o u cI cZ cJ T)) (ci := 5) S (v_X5_partC l D cI cZ cJ o u T ra ga σ55 a1 _ H.size hok) mi_X5_partC kw_2_73 rfl rfl ⟨Nat.le_of_ble_eq_true rfl, Nat.le_of_ble_eq_true rfl⟩ hP hD hK hS hA hB cW_13 rfl rfl hl.1 (Nat.le_of_ble_eq_true rfl) ⟨Nat.le_of_ble_eq_true rfl, Nat.le_of_ble_eq_true rfl⟩ dX0_placeParts_169 (fun x59 σ58 H locs hok hz hP hD hS => ?_)
            refine lv_istore (lv' := [(7, .int x59), (6, .int x57), (5, .int x54), (4, .int 1), (3, .int 1), (2, .int x1), (0, .ref (u 51)), (1, .int a1)]) hx hb dX0_placeParts_172 hl (by decide) rfl (fun ls hl => ?_)
            refine lv_aload_n hx hb dX0_placeParts_174 rfl (lv_at hl 6 rfl) ?_
            refine lv_iload hx hb dX0_placeParts_175 (lv_at hl 2 rfl) ?_
            refine lv_iload_n hx hb dX0_placeParts_177 rfl (lv_at hl 5 rfl) ?_
            refine lv_iload_n hx hb dX0_placeParts_178 rfl (lv_at hl 4 rfl) ?_
            refine xiadd (v := x1 + 1) S dX0_placeParts_179 rfl ?_
            refine yVv (As := [.int x54, .int (x1 + 1)]) (cw := (cW o u cI cZ cJ T)) (ci := 0) S (v_X0_place_52 l D cI cZ cJ o u T ra ga σ58 x54 (x1 + 1) _ H.size hok) mi_X0_place kw_2_102 rfl rfl ⟨Nat.le_of_ble_eq_true rfl, Nat.le_of_ble_eq_true rfl⟩ hP hD hK hS hA hB cW_52 rfl rfl hl.1 (Nat.le_of_ble_eq_true rfl) ⟨Nat.le_of_ble_eq_true rfl, Nat.le_of_ble_eq_true rfl⟩ dX0_placeParts_180 (fun σ60 H locs hok hz hP hD hS => ?_)
            refine lv_aload_n hx hb dX0_placeParts_183 rfl (lv_at hl 6 rfl) ?_
            refine lv_iload hx hb dX0_placeParts_184 (lv_at hl 0 rfl) ?_
            refine lv_iload hx hb dX0_placeParts_186 (lv_at hl 1 rfl) ?_
            refine yVv (As := [.int x59, .int x57]) (cw := (cW o u cI cZ cJ T)) (ci := 0) S (v_X0_place_52 l D cI cZ cJ o u T ra ga σ60 x59 x57 _ H.size hok) mi_X0_place kw_2_102 rfl rfl ⟨Nat.le_of_ble_eq_true rfl, Nat.le_of_ble_eq_true rfl⟩ hP hD hK hS hA hB cW_52 rfl rfl hl.1 (Nat.le_of_ble_eq_true rfl) ⟨Nat.le_of_ble_eq_true rfl, Nat.le_of_ble_eq_true rfl⟩ dX0_placeParts_188 (fun σ61 H locs hok hz hP hD hS => ?_)
            refine lv_aload_n hx hb dX0_placeParts_191 rfl (lv_at hl 6 rfl) ?_
            refine lv_aload_n hx hb dX0_placeParts_192 rfl (lv_at hl 6 rfl) ?_
            refine xg (ci := 0) S inX0 rfl hK hP cW_52 1 (by decide) rfl kw_4_216 rfl dX0_placeParts_193 ?_
            refine lv_iload_n hx hb dX0_placeParts_196 rfl (lv_at hl 7 rfl) ?_
            refine yVi (As := [.int a1]) (cw := (cW o u cI cZ cJ T)) (ci := 5) S (v_X5_partA l D cI cZ cJ o u T ra ga σ61 a1 _ H.size hok) mi_X5_partA kw_2_67 rfl rfl ⟨Nat.le_of_ble_eq_true rfl, Nat.le_of_ble_eq_true rfl⟩ hP hD hK hS hA hB cW_13 rfl rfl hl.1 (Nat.le_of_ble_eq_true rfl) ⟨Nat.le_of_ble_eq_true rfl, Nat.le_of_ble_eq_true rfl⟩ dX0_placeParts_197 (fun x63 σ62 H locs hok hz hP hD hS => ?_)
            refine lv_iload hx hb dX0_placeParts_200 (lv_at hl 1 rfl) ?_
            refine lv_aload_n hx hb dX0_placeParts_202 rfl (lv_at hl 6 rfl) ?_
            refine lv_iload hx hb dX0_placeParts_203 (lv_at hl 0 rfl) ?_
            refine yVi (As := [.int x59]) (cw := (cW o u cI cZ cJ T)) (ci := 0) S (v_X0_lengthOfPart_52 l D cI cZ cJ o u T ra ga σ62 x59 _ H.size hok) mi_X0_lengthOfPart kw_2_68 rfl rfl ⟨Nat.le_of_ble_eq_true rfl, Nat.le_of_ble_eq_true rfl⟩ hP hD hK hS hA hB cW_52 rfl rfl hl.1 (Nat.le_of_ble_eq_true rfl) ⟨Nat.le_of_ble_eq_true rfl, Nat.le_of_ble_eq_true rfl⟩ dX0_placeParts_205 (fun x65 σ64 H locs hok hz hP hD hS => ?_)
            refine xiadd (v := x57 + x65) S dX0_placeParts_208 rfl ?_
            refine lv_iconst (v := 1) hx hb dX0_placeParts_209 (by decide) ?_
            refine xiadd (v := (x57 + x65) + 1) S dX0_placeParts_210 rfl ?_
            refine yVv (As := [.int x63, .int ((x57 + x65) + 1)]) (cw := (cW o u cI cZ cJ T)) (ci := 0) S (v_X0_place_52 l D cI cZ cJ o u T ra ga σ64 x63 ((x57 + x65) + 1) _ H.size hok) mi_X0_place kw_2_102 rfl rfl ⟨Nat.le_of_ble_eq_true rfl, Nat.le_of_ble_eq_true rfl⟩ hP hD hK hS hA hB cW_52 rfl rfl hl.1 (Nat.le_of_ble_eq_true rfl) ⟨Nat.le_of_ble_eq_true rfl, Nat.le_of_ble_eq_true rfl⟩ dX0_placeParts_211 (fun σ66 H locs hok hz hP hD hS => ?_)
            exact yEndv S hr hlocks hP hD hS (Nat.le_of_ble_eq_true rfl) (Nat.le_of_ble_eq_true rfl) dX0_placeParts_214 hok
          · have hok := hok.2 k_65_2
            have q_65_0 := sw_ni k_65_0 (z := 9) (by decide)
            have q_65_1 := sw_ni k_65_1 (z := 15) (by decide)
            have q_65_2 := sw_ni k_65_2 (z := 16) (by decide)
            refine lv_lookup (off := 74) (tgt := 139) hx hb dX0_placeParts_65 (by decide) (by show (if (9 : Int) = x10.toInt then (49 : Int) else if (15 : Int) = x10.toInt then (43 : Int) else if (16 : Int) = x10.toInt then (35 : Int) else 74) = 74; rw [if_neg (fun h => q_65_0 h.symm), if_neg (fun h => q_65_1 h.symm), if_neg (fun h => q_65_2 h.symm)]) (by decide) ?_
            refine lv_aload_n hx hb dX0_placeParts_139 rfl (lv_at hl 3 rfl) ?_
            refine xg (ci := 0) S inX0 rfl hK hP cW_52 1 (by decide) rfl kw_4_216 rfl dX0_placeParts_140 ?_
            refine lv_iload_n hx hb dX0_placeParts_143 rfl (lv_at hl 4 rfl) ?_
            refine yVi (As := [.int a1]) (cw := (cW o u cI cZ cJ T)) (ci := 5) S (v_X5_partB l D cI cZ cJ o u T ra ga σ2 a1 _ H.size hok) mi_X5_partB kw_2_72 rfl rfl ⟨Nat.le_of_ble_eq_true rfl, Nat.le_of_ble_eq_true rfl⟩ hP hD hK hS hA hB cW_13 rfl rfl hl.1 (Nat.le_of_ble_eq_true rfl) ⟨Nat.le_of_ble_eq_true rfl, Nat.le_of_ble_eq_true rfl⟩ dX0_placeParts_144 (fun x68 σ67 H locs hok hz hP hD hS => ?_)
            refine lv_istore (lv' := [(5, .int x68), (4, .int 0), (3, .int 0), (2, .int x1), (0, .ref (u 51)), (1, .int a1)]) hx hb dX0_placeParts_147 hl (by decide) rfl (fun ls hl => ?_)
            refine lv_iload_n hx hb dX0_placeParts_149 rfl (lv_at hl 3 rfl) ?_
            refine lv_iload_n hx hb dX0_placeParts_150 rfl (lv_at hl 2 rfl) ?_
            refine xiadd (v := x1 + 0) S dX0_placeParts_151 rfl ?_
            refine lv_aload_n hx hb dX0_placeParts_152 rfl (lv_at hl 4 rfl) ?_
            refine lv_iload hx hb dX0_placeParts_153 (lv_at hl 0 rfl) ?_
            refine yVi (As := [.int x68]) (cw := (cW o u cI cZ cJ T)) (ci := 0) S (v_X0_lengthOfPart_52 l D cI cZ cJ o u T ra ga σ67 x68 _ H.size hok) mi_X0_lengthOfPart kw_2_68 rfl rfl ⟨Nat.le_of_ble_eq_true rfl, Nat.le_of_ble_eq_true rfl⟩ hP hD hK hS hA hB cW_52 rfl rfl hl.1 (Nat.le_of_ble_eq_true rfl) ⟨Nat.le_of_ble_eq_true rfl, Nat.le_of_ble_eq_true rfl⟩ dX0_placeParts_155 (fun x70 σ69 H locs hok hz hP hD hS => ?_)
            refine xiadd (v := (x1 + 0) + x70) S dX0_placeParts_158 rfl ?_
            refine lv_iload hx hb dX0_placeParts_159 (lv_at hl 1 rfl) ?_
            refine xiadd (v := ((x1 + 0) + x70) + 0) S dX0_placeParts_161 rfl ?_
            refine lv_topi (fun x71 ex71 => ?_)
            have hok := hok x71 ex71
            refine lv_istore (lv' := [(6, .int x71), (5, .int x68), (4, .int 0), (3, .int 0), (2, .int x1), (0, .ref (u 51)), (1, .int a1)]) hx hb dX0_placeParts_162 hl (by decide) rfl (fun ls hl => ?_)
            refine lv_aload_n hx hb dX0_placeParts_164 rfl (lv_at hl 5 rfl) ?_
            refine xg (ci := 0) S inX0 rfl hK hP cW_52 1 (by decide) rfl kw_4_216 rfl dX0_placeParts_165 ?_
            refine lv_iload_n hx hb dX0_placeParts_168 rfl (lv_at hl 6 rfl) ?_
            refine yVi (As := [.int a1]) (cw := (cW o u cI cZ cJ T)) (ci := 5) S (v_X5_partC l D cI cZ cJ o u T ra ga σ69 a1 _ H.size hok) mi_X5_partC kw_2_73 rfl rfl ⟨Nat.le_of_ble_eq_true rfl, Nat.le_of_ble_eq_true rfl⟩ hP hD hK hS hA hB cW_13 rfl rfl hl.1 (Nat.le_of_ble_eq_true rfl) ⟨Nat.le_of_ble_eq_true rfl, Nat.le_of_ble_eq_true rfl⟩ dX0_placeParts_169 (fun x73 σ72 H locs hok hz hP hD hS => ?_)
            refine lv_istore (lv' := [(7, .int x73), (6, .int x71), (5, .int x68), (4, .int 0), (3, .int 0), (2, .int x1), (0, .ref (u 51)), (1, .int a1)]) hx hb dX0_placeParts_172 hl (by decide) rfl (fun ls hl => ?_)
            refine lv_aload_n hx hb dX0_placeParts_174 rfl (lv_at hl 6 rfl) ?_
            refine lv_iload hx hb dX0_placeParts_175 (lv_at hl 2 rfl) ?_
            refine lv_iload_n hx hb dX0_placeParts_177 rfl (lv_at hl 5 rfl) ?_
            refine lv_iload_n hx hb dX0_placeParts_178 rfl (lv_at hl 4 rfl) ?_
            refine xiadd (v := x1 + 0) S dX0_placeParts_179 rfl ?_
            refine yVv (As := [.int x68, .int (x1 + 0)]) (cw := (cW o u cI cZ cJ T)) (ci := 0) S (v_X0_place_52 l D cI cZ cJ o u T ra ga σ72 x68 (x1 + 0) _ H.size hok) mi_X0_place kw_2_102 rfl rfl ⟨Nat.le_of_ble_eq_true rfl, Nat.le_of_ble_eq_true rfl⟩ hP hD hK hS hA hB cW_52 rfl rfl hl.1 (Nat.le_of_ble_eq_true rfl) ⟨Nat.le_of_ble_eq_true rfl, Nat.le_of_ble_eq_true rfl⟩ dX0_placeParts_180 (fun σ74 H locs hok hz hP hD hS => ?_)
            refine lv_aload_n hx hb dX0_placeParts_183 rfl (lv_at hl 6 rfl) ?_
            refine lv_iload hx hb dX0_placeParts_184 (lv_at hl 0 rfl) ?_
            refine lv_iload hx hb dX0_placeParts_186 (lv_at hl 1 rfl) ?_
            refine yVv (As := [.int x73, .int x71]) (cw := (cW o u cI cZ cJ T)) (ci := 0) S (v_X0_place_52 l D cI cZ cJ o u T ra ga σ74 x73 x71 _ H.size hok) mi_X0_place kw_2_102 rfl rfl ⟨Nat.le_of_ble_eq_true rfl, Nat.le_of_ble_eq_true rfl⟩ hP hD hK hS hA hB cW_52 rfl rfl hl.1 (Nat.le_of_ble_eq_true rfl) ⟨Nat.le_of_ble_eq_true rfl, Nat.le_of_ble_eq_true rfl⟩ dX0_placeParts_188 (fun σ75 H locs hok hz hP hD hS => ?_)
            refine lv_aload_n hx hb dX0_placeParts_191 rfl (lv_at hl 6 rfl) ?_
            refine lv_aload_n hx hb dX0_placeParts_192 rfl (lv_at hl 6 rfl) ?_
            refine xg (ci := 0) S inX0 rfl hK hP cW_52 1 (by decide) rfl kw_4_216 rfl dX0_placeParts_193 ?_
            refine lv_iload_n hx hb dX0_placeParts_196 rfl (lv_at hl 7 rfl) ?_
            refine yVi (As := [.int a1]) (cw := (cW o u cI cZ cJ T)) (ci := 5) S (v_X5_partA l D cI cZ cJ o u T ra ga σ75 a1 _ H.size hok) mi_X5_partA kw_2_67 rfl rfl ⟨Nat.le_of_ble_eq_true rfl, Nat.le_of_ble_eq_true rfl⟩ hP hD hK hS hA hB cW_13 rfl rfl hl.1 (Nat.le_of_ble_eq_true rfl) ⟨Nat.le_of_ble_eq_true rfl, Nat.le_of_ble_eq_true rfl⟩ dX0_placeParts_197 (fun x77 σ76 H locs hok hz hP hD hS => ?_)
            refine lv_iload hx hb dX0_placeParts_200 (lv_at hl 1 rfl) ?_
            refine lv_aload_n hx hb dX0_placeParts_202 rfl (lv_at hl 6 rfl) ?_
            refine lv_iload hx hb dX0_placeParts_203 (lv_at hl 0 rfl) ?_
            refine yVi (As := [.int x73]) (cw := (cW o u cI cZ cJ T)) (ci := 0) S (v_X0_lengthOfPart_52 l D cI cZ cJ o u T ra ga σ76 x73 _ H.size hok) mi_X0_lengthOfPart kw_2_68 rfl rfl ⟨Nat.le_of_ble_eq_true rfl, Nat.le_of_ble_eq_true rfl⟩ hP hD hK hS hA hB cW_52 rfl rfl hl.1 (Nat.le_of_ble_eq_true rfl) ⟨Nat.le_of_ble_eq_true rfl, Nat.le_of_ble_eq_true rfl⟩ dX0_placeParts_205 (fun x79 σ78 H locs hok hz hP hD hS => ?_)
            refine xiadd (v := x71 + x79) S dX0_placeParts_208 rfl ?_
            refine lv_iconst (v := 1) hx hb dX0_placeParts_209 (by decide) ?_
            refine xiadd (v := (x71 + x79) + 1) S dX0_placeParts_210 rfl ?_
            refine yVv (As := [.int x77, .int ((x71 + x79) + 1)]) (cw := (cW o u cI cZ cJ T)) (ci := 0) S (v_X0_place_52 l D cI cZ cJ o u T ra ga σ78 x77 ((x71 + x79) + 1) _ H.size hok) mi_X0_place kw_2_102 rfl rfl ⟨Nat.le_of_ble_eq_true rfl, Nat.le_of_ble_eq_true rfl⟩ hP hD hK hS hA hB cW_52 rfl rfl hl.1 (Nat.le_of_ble_eq_true rfl) ⟨Nat.le_of_ble_eq_true rfl, Nat.le_of_ble_eq_true rfl⟩ dX0_placeParts_211 (fun σ80 H locs hok hz hP hD hS => ?_)
            exact yEndv S hr hlocks hP hD hS (Nat.le_of_ble_eq_true rfl) (Nat.le_of_ble_eq_true rfl) dX0_placeParts_214 hok
    · have hok := hok.2 c_21
      refine lv_aload_n hx hb dX0_placeParts_24 rfl (lv_at hl 1 rfl) ?_
      refine lv_aload_n hx hb dX0_placeParts_25 rfl (lv_at hl 1 rfl) ?_
      refine xg (ci := 0) S inX0 rfl hK hP cW_52 1 (by decide) rfl kw_4_216 rfl dX0_placeParts_26 ?_
      refine lv_iload_n hx hb dX0_placeParts_29 rfl (lv_at hl 2 rfl) ?_
      refine yVi (As := [.int a1]) (cw := (cW o u cI cZ cJ T)) (ci := 5) S (v_X5_partB l D cI cZ cJ o u T ra ga σ2 a1 _ H.size hok) mi_X5_partB kw_2_72 rfl rfl ⟨Nat.le_of_ble_eq_true rfl, Nat.le_of_ble_eq_true rfl⟩ hP hD hK hS hA hB cW_13 rfl rfl hl.1 (Nat.le_of_ble_eq_true rfl) ⟨Nat.le_of_ble_eq_true rfl, Nat.le_of_ble_eq_true rfl⟩ dX0_placeParts_30 (fun x82 σ81 H locs hok hz hP hD hS => ?_)
      refine lv_iload_n hx hb dX0_placeParts_33 rfl (lv_at hl 0 rfl) ?_
      refine yVv (As := [.int x82, .int x1]) (cw := (cW o u cI cZ cJ T)) (ci := 0) S (v_X0_swallow_52 l D cI cZ cJ o u T ra ga σ81 x82 x1 _ H.size hok) mi_X0_swallow kw_2_98 rfl rfl ⟨Nat.le_of_ble_eq_true rfl, Nat.le_of_ble_eq_true rfl⟩ hP hD hK hS hA hB cW_52 rfl rfl hl.1 (Nat.le_of_ble_eq_true rfl) ⟨Nat.le_of_ble_eq_true rfl, Nat.le_of_ble_eq_true rfl⟩ dX0_placeParts_34 (fun σ83 H locs hok hz hP hD hS => ?_)
      refine lv_aload_n hx hb dX0_placeParts_37 rfl (lv_at hl 1 rfl) ?_
      refine lv_aload_n hx hb dX0_placeParts_38 rfl (lv_at hl 1 rfl) ?_
      refine xg (ci := 0) S inX0 rfl hK hP cW_52 1 (by decide) rfl kw_4_216 rfl dX0_placeParts_39 ?_
      refine lv_iload_n hx hb dX0_placeParts_42 rfl (lv_at hl 2 rfl) ?_
      refine yVi (As := [.int a1]) (cw := (cW o u cI cZ cJ T)) (ci := 5) S (v_X5_partC l D cI cZ cJ o u T ra ga σ83 a1 _ H.size hok) mi_X5_partC kw_2_73 rfl rfl ⟨Nat.le_of_ble_eq_true rfl, Nat.le_of_ble_eq_true rfl⟩ hP hD hK hS hA hB cW_13 rfl rfl hl.1 (Nat.le_of_ble_eq_true rfl) ⟨Nat.le_of_ble_eq_true rfl, Nat.le_of_ble_eq_true rfl⟩ dX0_placeParts_43 (fun x85 σ84 H locs hok hz hP hD hS => ?_)
      refine lv_iload_n hx hb dX0_placeParts_46 rfl (lv_at hl 0 rfl) ?_
      refine yVv (As := [.int x85, .int x1]) (cw := (cW o u cI cZ cJ T)) (ci := 0) S (v_X0_swallow_52 l D cI cZ cJ o u T ra ga σ84 x85 x1 _ H.size hok) mi_X0_swallow kw_2_98 rfl rfl ⟨Nat.le_of_ble_eq_true rfl, Nat.le_of_ble_eq_true rfl⟩ hP hD hK hS hA hB cW_52 rfl rfl hl.1 (Nat.le_of_ble_eq_true rfl) ⟨Nat.le_of_ble_eq_true rfl, Nat.le_of_ble_eq_true rfl⟩ dX0_placeParts_47 (fun σ86 H locs hok hz hP hD hS => ?_)
      exact yEndv S hr hlocks hP hD hS (Nat.le_of_ble_eq_true rfl) (Nat.le_of_ble_eq_true rfl) dX0_placeParts_50 hok

set_option maxHeartbeats 8000000 in
set_option maxRecDepth 100000 in
theorem v_X0_noteBegin_52 (l : Launch) (D : va_G) (cI cZ cJ : ClassId) (o : Nat) (u : Nat → Nat) (T : Nat) (ra : Nat → Nat) (ga : SG) (σ : FS) (a1 : Int32) (Φ : FS → Prop) (sz : Nat) (hok : (wp_X0_noteBegin 52 σ a1 Φ)) : Met l yX0_noteBegin (uW yX0_noteBegin cX0_noteBegin 3 none) ({ frames := 0, cells := 0, slots := 0, locals := 0 }) (va_Pc [.ref (u 51), .int a1] (aS ra ga D (tyL cI cZ cJ) (cW o u cI cZ cJ T σ) sz)) (yQv Φ D (cW o u cI cZ cJ T) (va_A (cW o u cI cZ cJ T σ) sz)) 0 0 (va_A (cW o u cI cZ cJ T σ) sz) := by
  refine aStart (lv := [(0, .ref (u 51)), (1, .int a1)]) (Qc := fun A => yQv Φ D (cW o u cI cZ cJ T) A) (by decide) (Nat.le_of_ble_eq_true rfl) rfl ?_
  intro p e s m args below meth c ls A H S hr hlocks hnm hl hK hP hD hS hA hB
  have hx := S.1
  have hb := S.2.1
  refine lv_aload_n hx hb dX0_noteBegin_0 rfl (lv_at hl 0 rfl) ?_
  refine xg (ci := 0) S inX0 rfl hK hP cW_52 13 (by decide) rfl kw_5_2 rfl dX0_noteBegin_1 ?_
  refine lv_iload_n hx hb dX0_noteBegin_4 rfl (lv_at hl 1 rfl) ?_
  have h_5 := hok.1
  have hok := hok.2
  refine xiald (t0 := 0) (v := (g σ 61 a1)) S hK hP cW_61 rfl h_5 rfl dX0_noteBegin_5 ?_
  refine lv_topi (fun x1 ex1 => ?_)
  have hok := hok x1 ex1
  refine lv_istore_n (lv' := [(2, .int x1), (0, .ref (u 51)), (1, .int a1)]) hx hb dX0_noteBegin_6 rfl hl (by decide) rfl (fun ls hl => ?_)
  refine lv_iload_n hx hb dX0_noteBegin_7 rfl (lv_at hl 0 rfl) ?_
  refine lv_if_lt (tgt := 47) hx hb dX0_noteBegin_8 (by decide) (fun c_8 => ?_) (fun c_8 => ?_)
  · have hok := hok.1 c_8
    exact yEndv S hr hlocks hP hD hS (Nat.le_of_ble_eq_true rfl) (Nat.le_of_ble_eq_true rfl) dX0_noteBegin_47 hok
  · have hok := hok.2 c_8
    refine lv_iload_n hx hb dX0_noteBegin_11 rfl (lv_at hl 0 rfl) ?_
    refine lv_sipush (v := 460) hx hb dX0_noteBegin_12 (by decide) ?_
    refine lv_icmp_ge (tgt := 47) hx hb dX0_noteBegin_15 (by decide) (fun c_15 => ?_) (fun c_15 => ?_)
    · have hok := hok.1 c_15
      exact yEndv S hr hlocks hP hD hS (Nat.le_of_ble_eq_true rfl) (Nat.le_of_ble_eq_true rfl) dX0_noteBegin_47 hok
    · have hok := hok.2 c_15
      refine lv_aload_n hx hb dX0_noteBegin_18 rfl (lv_at hl 1 rfl) ?_
      refine xg (ci := 0) S inX0 rfl hK hP cW_52 15 (by decide) rfl kw_5_6 rfl dX0_noteBegin_19 ?_
      refine lv_iload_n hx hb dX0_noteBegin_22 rfl (lv_at hl 2 rfl) ?_
      refine lv_aload_n hx hb dX0_noteBegin_23 rfl (lv_at hl 1 rfl) ?_
      refine xg (ci := 0) S inX0 rfl hK hP cW_52 11 (by decide) rfl kw_4_238 rfl dX0_noteBegin_24 ?_
      refine lv_iload_n hx hb dX0_noteBegin_27 rfl (lv_at hl 0 rfl) ?_
      have h_28 := hok.1
      have hok := hok.2
      refine xiald (t0 := 0) (v := (g σ 59 x1)) S hK hP cW_59 rfl h_28 rfl dX0_noteBegin_28 ?_
      have h_29 := hok.1
      have hok := hok.2
      refine yiast (t0 := 0) (cw := (cW o u cI cZ cJ T)) S hK hP hD hS cW_63 rfl h_29 dX0_noteBegin_29 cWa_63 (fun σ2 H locs eσ2 hP hD hS => ?_)
      have hok := hok σ2 eσ2
      refine lv_aload_n hx hb dX0_noteBegin_30 rfl (lv_at hl 1 rfl) ?_
      refine xg (ci := 0) S inX0 rfl hK hP cW_52 11 (by decide) rfl kw_4_238 rfl dX0_noteBegin_31 ?_
      refine lv_iload_n hx hb dX0_noteBegin_34 rfl (lv_at hl 0 rfl) ?_
      refine lv_iload_n hx hb dX0_noteBegin_35 rfl (lv_at hl 2 rfl) ?_
      have h_36 := hok.1
      have hok := hok.2
      refine yiast (t0 := 0) (cw := (cW o u cI cZ cJ T)) S hK hP hD hS cW_59 rfl h_36 dX0_noteBegin_36 cWa_59 (fun σ3 H locs eσ3 hP hD hS => ?_)
      have hok := hok σ3 eσ3
      refine lv_aload_n hx hb dX0_noteBegin_37 rfl (lv_at hl 1 rfl) ?_
      refine xg (ci := 0) S inX0 rfl hK hP cW_52 12 (by decide) rfl kw_5_0 rfl dX0_noteBegin_38 ?_
      refine lv_iload_n hx hb dX0_noteBegin_41 rfl (lv_at hl 0 rfl) ?_
      refine lv_dup2_11 hx hb dX0_noteBegin_42 rfl rfl ?_
      have h_43 := hok.1
      have hok := hok.2
      refine xiald (t0 := 0) (v := (g σ3 60 x1)) S hK hP cW_60 rfl h_43 rfl dX0_noteBegin_43 ?_
      refine lv_iconst (v := 1) hx hb dX0_noteBegin_44 (by decide) ?_
      refine xiadd (v := (g σ3 60 x1) + 1) S dX0_noteBegin_45 rfl ?_
      have h_46 := hok.1
      have hok := hok.2
      refine yiast (t0 := 0) (cw := (cW o u cI cZ cJ T)) S hK hP hD hS cW_60 rfl h_46 dX0_noteBegin_46 cWa_60 (fun σ4 H locs eσ4 hP hD hS => ?_)
      have hok := hok σ4 eσ4
      exact yEndv S hr hlocks hP hD hS (Nat.le_of_ble_eq_true rfl) (Nat.le_of_ble_eq_true rfl) dX0_noteBegin_47 hok

set_option maxHeartbeats 8000000 in
set_option maxRecDepth 100000 in
theorem v_X0_putNamed_52 (l : Launch) (D : va_G) (cI cZ cJ : ClassId) (o : Nat) (u : Nat → Nat) (T : Nat) (ra : Nat → Nat) (ga : SG) (σ : FS) (a1 : Int32) (a2 : Int32) (a3 : Int32) (Φ : FS → Prop) (sz : Nat) (hok : (wp_X0_putNamed 52 σ a1 a2 a3 Φ)) : Met l yX0_putNamed (uW yX0_putNamed cX0_putNamed 4 none) ({ frames := 1, cells := 0, slots := 0, locals := 25 }) (va_Pc [.ref (u 51), .int a1, .int a2, .int a3] (aS ra ga D (tyL cI cZ cJ) (cW o u cI cZ cJ T σ) sz)) (yQv Φ D (cW o u cI cZ cJ T) (va_A (cW o u cI cZ cJ T σ) sz)) 0 0 (va_A (cW o u cI cZ cJ T σ) sz) := by
  refine aStart (lv := [(0, .ref (u 51)), (1, .int a1), (2, .int a2), (3, .int a3)]) (Qc := fun A => yQv Φ D (cW o u cI cZ cJ T) A) (by decide) (Nat.le_of_ble_eq_true rfl) rfl ?_
  intro p e s m args below meth c ls A H S hr hlocks hnm hl hK hP hD hS hA hB
  have hx := S.1
  have hb := S.2.1
  refine lv_aload_n hx hb dX0_putNamed_0 rfl (lv_at hl 0 rfl) ?_
  refine lv_iload_n hx hb dX0_putNamed_1 rfl (lv_at hl 1 rfl) ?_
  refine lv_iload_n hx hb dX0_putNamed_2 rfl (lv_at hl 2 rfl) ?_
  refine lv_aload_n hx hb dX0_putNamed_3 rfl (lv_at hl 0 rfl) ?_
  refine xg (ci := 0) S inX0 rfl hK hP cW_52 2 (by decide) rfl kw_4_217 rfl dX0_putNamed_4 ?_
  refine xg (ci := 4) S inX4 rfl hK hP cW_20 4 (by decide) rfl kw_4_96 rfl dX0_putNamed_7 ?_
  refine lv_iload_n hx hb dX0_putNamed_10 rfl (lv_at hl 3 rfl) ?_
  have h_11 := hok.1
  have hok := hok.2
  refine xiald (t0 := 0) (v := (g σ 23 a3)) S hK hP cW_23 rfl h_11 rfl dX0_putNamed_11 ?_
  refine lv_aload_n hx hb dX0_putNamed_12 rfl (lv_at hl 0 rfl) ?_
  refine xg (ci := 0) S inX0 rfl hK hP cW_52 2 (by decide) rfl kw_4_217 rfl dX0_putNamed_13 ?_
  refine xg (ci := 4) S inX4 rfl hK hP cW_20 6 (by decide) rfl kw_4_103 rfl dX0_putNamed_16 ?_
  refine lv_iload_n hx hb dX0_putNamed_19 rfl (lv_at hl 3 rfl) ?_
  have h_20 := hok.1
  have hok := hok.2
  refine xiald (t0 := 0) (v := (g σ 25 a3)) S hK hP cW_25 rfl h_20 rfl dX0_putNamed_20 ?_
  refine lv_iload_n hx hb dX0_putNamed_21 rfl (lv_at hl 3 rfl) ?_
  refine yVv (As := [.int a1, .int a2, .int (g σ 23 a3), .int (g σ 25 a3), .int a3]) (cw := (cW o u cI cZ cJ T)) (ci := 0) S (v_X0_put_52 l D cI cZ cJ o u T ra ga σ a1 a2 (g σ 23 a3) (g σ 25 a3) a3 _ H.size hok) mi_X0_put kw_2_90 rfl rfl ⟨Nat.le_of_ble_eq_true rfl, Nat.le_of_ble_eq_true rfl⟩ hP hD hK hS hA hB cW_52 rfl rfl hl.1 (Nat.le_of_ble_eq_true rfl) ⟨Nat.le_of_ble_eq_true rfl, Nat.le_of_ble_eq_true rfl⟩ dX0_putNamed_22 (fun σ1 H locs hok hz hP hD hS => ?_)
  exact yEndv S hr hlocks hP hD hS (Nat.le_of_ble_eq_true rfl) (Nat.le_of_ble_eq_true rfl) dX0_putNamed_25 hok

set_option maxHeartbeats 8000000 in
set_option maxRecDepth 100000 in
theorem v_X0_writeIf_52 (l : Launch) (D : va_G) (cI cZ cJ : ClassId) (o : Nat) (u : Nat → Nat) (T : Nat) (ra : Nat → Nat) (ga : SG) (σ : FS) (a1 : Int32) (Φ : FS → Prop) (sz : Nat) (hok : (wp_X0_writeIf 52 σ a1 Φ)) : Met l yX0_writeIf (uW yX0_writeIf cX0_writeIf 5 none) ({ frames := 1, cells := 0, slots := 0, locals := 25 }) (va_Pc [.ref (u 51), .int a1] (aS ra ga D (tyL cI cZ cJ) (cW o u cI cZ cJ T σ) sz)) (yQv Φ D (cW o u cI cZ cJ T) (va_A (cW o u cI cZ cJ T σ) sz)) 0 0 (va_A (cW o u cI cZ cJ T σ) sz) := by
  refine aStart (lv := [(0, .ref (u 51)), (1, .int a1)]) (Qc := fun A => yQv Φ D (cW o u cI cZ cJ T) A) (by decide) (Nat.le_of_ble_eq_true rfl) rfl ?_
  intro p e s m args below meth c ls A H S hr hlocks hnm hl hK hP hD hS hA hB
  have hx := S.1
  have hb := S.2.1
  refine lv_aload_n hx hb dX0_writeIf_0 rfl (lv_at hl 0 rfl) ?_
  refine xg (ci := 0) S inX0 rfl hK hP cW_52 5 (by decide) rfl kw_4_222 rfl dX0_writeIf_1 ?_
  refine lv_aload_n hx hb dX0_writeIf_4 rfl (lv_at hl 0 rfl) ?_
  refine xg (ci := 0) S inX0 rfl hK hP cW_52 2 (by decide) rfl kw_4_217 rfl dX0_writeIf_5 ?_
  refine xg (ci := 4) S inX4 rfl hK hP cW_20 2 (by decide) rfl kw_4_90 rfl dX0_writeIf_8 ?_
  refine lv_iload_n hx hb dX0_writeIf_11 rfl (lv_at hl 1 rfl) ?_
  have h_12 := hok.1
  have hok := hok.2
  refine xiald (t0 := 0) (v := (g σ 21 a1)) S hK hP cW_21 rfl h_12 rfl dX0_writeIf_12 ?_
  have h_13 := hok.1
  have hok := hok.2
  refine xiald (t0 := 0) (v := (g σ 53 (g σ 21 a1))) S hK hP cW_53 rfl h_13 rfl dX0_writeIf_13 ?_
  refine lv_topi (fun x1 ex1 => ?_)
  have hok := hok x1 ex1
  refine lv_istore_n (lv' := [(2, .int x1), (0, .ref (u 51)), (1, .int a1)]) hx hb dX0_writeIf_14 rfl hl (by decide) rfl (fun ls hl => ?_)
  refine lv_aload_n hx hb dX0_writeIf_15 rfl (lv_at hl 1 rfl) ?_
  refine xg (ci := 0) S inX0 rfl hK hP cW_52 13 (by decide) rfl kw_5_2 rfl dX0_writeIf_16 ?_
  refine lv_aload_n hx hb dX0_writeIf_19 rfl (lv_at hl 1 rfl) ?_
  refine xg (ci := 0) S inX0 rfl hK hP cW_52 1 (by decide) rfl kw_4_216 rfl dX0_writeIf_20 ?_
  refine xg (ci := 5) S inX5 rfl hK hP cW_13 4 (by decide) rfl kw_4_59 rfl dX0_writeIf_23 ?_
  refine lv_iload_n hx hb dX0_writeIf_26 rfl (lv_at hl 2 rfl) ?_
  have h_27 := hok.1
  have hok := hok.2
  refine xiald (t0 := 0) (v := (g σ 17 a1)) S hK hP cW_17 rfl h_27 rfl dX0_writeIf_27 ?_
  have h_28 := hok.1
  have hok := hok.2
  refine xiald (t0 := 0) (v := (g σ 61 (g σ 17 a1))) S hK hP cW_61 rfl h_28 rfl dX0_writeIf_28 ?_
  refine lv_aload_n hx hb dX0_writeIf_29 rfl (lv_at hl 1 rfl) ?_
  refine xg (ci := 0) S inX0 rfl hK hP cW_52 14 (by decide) rfl kw_5_4 rfl dX0_writeIf_30 ?_
  refine lv_aload_n hx hb dX0_writeIf_33 rfl (lv_at hl 1 rfl) ?_
  refine xg (ci := 0) S inX0 rfl hK hP cW_52 1 (by decide) rfl kw_4_216 rfl dX0_writeIf_34 ?_
  refine xg (ci := 5) S inX5 rfl hK hP cW_13 4 (by decide) rfl kw_4_59 rfl dX0_writeIf_37 ?_
  refine lv_iload_n hx hb dX0_writeIf_40 rfl (lv_at hl 2 rfl) ?_
  have h_41 := hok.1
  have hok := hok.2
  refine xiald (t0 := 0) (v := (g σ 17 a1)) S hK hP cW_17 rfl h_41 rfl dX0_writeIf_41 ?_
  have h_42 := hok.1
  have hok := hok.2
  refine xiald (t0 := 0) (v := (g σ 62 (g σ 17 a1))) S hK hP cW_62 rfl h_42 rfl dX0_writeIf_42 ?_
  refine xiadd (v := (g σ 61 (g σ 17 a1)) + (g σ 62 (g σ 17 a1))) S dX0_writeIf_43 rfl ?_
  refine lv_topi (fun x2 ex2 => ?_)
  have hok := hok x2 ex2
  refine lv_istore_n (lv' := [(3, .int x2), (2, .int x1), (0, .ref (u 51)), (1, .int a1)]) hx hb dX0_writeIf_44 rfl hl (by decide) rfl (fun ls hl => ?_)
  refine lv_aload_n hx hb dX0_writeIf_45 rfl (lv_at hl 2 rfl) ?_
  refine xg (ci := 0) S inX0 rfl hK hP cW_52 1 (by decide) rfl kw_4_216 rfl dX0_writeIf_46 ?_
  refine xg (ci := 5) S inX5 rfl hK hP cW_13 2 (by decide) rfl kw_4_48 rfl dX0_writeIf_49 ?_
  refine lv_iload_n hx hb dX0_writeIf_52 rfl (lv_at hl 3 rfl) ?_
  have h_53 := hok.1
  have hok := hok.2
  refine xiald (t0 := 0) (v := (g σ 15 a1)) S hK hP cW_15 rfl h_53 rfl dX0_writeIf_53 ?_
  refine lv_iconst (v := (-1)) hx hb dX0_writeIf_54 (by decide) ?_
  refine lv_icmp_eq (tgt := 62) hx hb dX0_writeIf_55 (by decide) (fun c_55 => ?_) (fun c_55 => ?_)
  · have hok := hok.1 c_55
    refine lv_iconst (v := 0) hx hb dX0_writeIf_62 (by decide) ?_
    refine lv_istore (lv' := [(4, .int 0), (3, .int x2), (2, .int x1), (0, .ref (u 51)), (1, .int a1)]) hx hb dX0_writeIf_63 hl (by decide) rfl (fun ls hl => ?_)
    refine lv_aload_n hx hb dX0_writeIf_65 rfl (lv_at hl 3 rfl) ?_
    refine lv_aload_n hx hb dX0_writeIf_66 rfl (lv_at hl 3 rfl) ?_
    refine xg (ci := 0) S inX0 rfl hK hP cW_52 13 (by decide) rfl kw_5_2 rfl dX0_writeIf_67 ?_
    refine lv_aload_n hx hb dX0_writeIf_70 rfl (lv_at hl 3 rfl) ?_
    refine xg (ci := 0) S inX0 rfl hK hP cW_52 1 (by decide) rfl kw_4_216 rfl dX0_writeIf_71 ?_
    refine xg (ci := 5) S inX5 rfl hK hP cW_13 4 (by decide) rfl kw_4_59 rfl dX0_writeIf_74 ?_
    refine lv_iload_n hx hb dX0_writeIf_77 rfl (lv_at hl 4 rfl) ?_
    have h_78 := hok.1
    have hok := hok.2
    refine xiald (t0 := 0) (v := (g σ 17 a1)) S hK hP cW_17 rfl h_78 rfl dX0_writeIf_78 ?_
    have h_79 := hok.1
    have hok := hok.2
    refine xiald (t0 := 0) (v := (g σ 61 (g σ 17 a1))) S hK hP cW_61 rfl h_79 rfl dX0_writeIf_79 ?_
    refine lv_iconst (v := 1) hx hb dX0_writeIf_80 (by decide) ?_
    refine xisub (v := (g σ 61 (g σ 17 a1)) - 1) S dX0_writeIf_81 rfl ?_
    refine lv_bipush (v := 21) hx hb dX0_writeIf_82 (by decide) ?_
    refine lv_iload_n hx hb dX0_writeIf_84 rfl (lv_at hl 1 rfl) ?_
    refine lv_iload hx hb dX0_writeIf_85 (lv_at hl 0 rfl) ?_
    refine lv_if_eq (tgt := 94) hx hb dX0_writeIf_87 (by decide) (fun _ => ?_) (fun c => absurd c (by decide))
    refine lv_iconst (v := 0) hx hb dX0_writeIf_94 (by decide) ?_
    refine xiadd (v := x2 + 0) S dX0_writeIf_95 rfl ?_
    refine lv_iload_n hx hb dX0_writeIf_96 rfl (lv_at hl 2 rfl) ?_
    refine xisub (v := (x2 + 0) - x1) S dX0_writeIf_97 rfl ?_
    refine lv_iconst (v := 0) hx hb dX0_writeIf_98 (by decide) ?_
    refine lv_iload_n hx hb dX0_writeIf_99 rfl (lv_at hl 4 rfl) ?_
    refine yVv (As := [.int ((g σ 61 (g σ 17 a1)) - 1), .int 21, .int ((x2 + 0) - x1), .int 0, .int a1]) (cw := (cW o u cI cZ cJ T)) (ci := 0) S (v_X0_put_52 l D cI cZ cJ o u T ra ga σ ((g σ 61 (g σ 17 a1)) - 1) 21 ((x2 + 0) - x1) 0 a1 _ H.size hok) mi_X0_put kw_2_90 rfl rfl ⟨Nat.le_of_ble_eq_true rfl, Nat.le_of_ble_eq_true rfl⟩ hP hD hK hS hA hB cW_52 rfl rfl hl.1 (Nat.le_of_ble_eq_true rfl) ⟨Nat.le_of_ble_eq_true rfl, Nat.le_of_ble_eq_true rfl⟩ dX0_writeIf_100 (fun σ3 H locs hok hz hP hD hS => ?_)
    refine lv_iload hx hb dX0_writeIf_103 (lv_at hl 0 rfl) ?_
    refine lv_if_eq (tgt := 132) hx hb dX0_writeIf_105 (by decide) (fun _ => ?_) (fun c => absurd c (by decide))
    exact yEndv S hr hlocks hP hD hS (Nat.le_of_ble_eq_true rfl) (Nat.le_of_ble_eq_true rfl) dX0_writeIf_132 hok
  · have hok := hok.2 c_55
    refine lv_iconst (v := 1) hx hb dX0_writeIf_58 (by decide) ?_
    refine lv_goto (tgt := 63) hx hb dX0_writeIf_59 (by decide) ?_
    refine lv_istore (lv' := [(4, .int 1), (3, .int x2), (2, .int x1), (0, .ref (u 51)), (1, .int a1)]) hx hb dX0_writeIf_63 hl (by decide) rfl (fun ls hl => ?_)
    refine lv_aload_n hx hb dX0_writeIf_65 rfl (lv_at hl 3 rfl) ?_
    refine lv_aload_n hx hb dX0_writeIf_66 rfl (lv_at hl 3 rfl) ?_
    refine xg (ci := 0) S inX0 rfl hK hP cW_52 13 (by decide) rfl kw_5_2 rfl dX0_writeIf_67 ?_
    refine lv_aload_n hx hb dX0_writeIf_70 rfl (lv_at hl 3 rfl) ?_
    refine xg (ci := 0) S inX0 rfl hK hP cW_52 1 (by decide) rfl kw_4_216 rfl dX0_writeIf_71 ?_
    refine xg (ci := 5) S inX5 rfl hK hP cW_13 4 (by decide) rfl kw_4_59 rfl dX0_writeIf_74 ?_
    refine lv_iload_n hx hb dX0_writeIf_77 rfl (lv_at hl 4 rfl) ?_
    have h_78 := hok.1
    have hok := hok.2
    refine xiald (t0 := 0) (v := (g σ 17 a1)) S hK hP cW_17 rfl h_78 rfl dX0_writeIf_78 ?_
    have h_79 := hok.1
    have hok := hok.2
    refine xiald (t0 := 0) (v := (g σ 61 (g σ 17 a1))) S hK hP cW_61 rfl h_79 rfl dX0_writeIf_79 ?_
    refine lv_iconst (v := 1) hx hb dX0_writeIf_80 (by decide) ?_
    refine xisub (v := (g σ 61 (g σ 17 a1)) - 1) S dX0_writeIf_81 rfl ?_
    refine lv_bipush (v := 21) hx hb dX0_writeIf_82 (by decide) ?_
    refine lv_iload_n hx hb dX0_writeIf_84 rfl (lv_at hl 1 rfl) ?_
    refine lv_iload hx hb dX0_writeIf_85 (lv_at hl 0 rfl) ?_
    refine lv_if_eq (tgt := 94) hx hb dX0_writeIf_87 (by decide) (fun c => absurd c (by decide)) (fun _ => ?_)
    refine lv_iconst (v := 1) hx hb dX0_writeIf_90 (by decide) ?_
    refine lv_goto (tgt := 95) hx hb dX0_writeIf_91 (by decide) ?_
    refine xiadd (v := x2 + 1) S dX0_writeIf_95 rfl ?_
    refine lv_iload_n hx hb dX0_writeIf_96 rfl (lv_at hl 2 rfl) ?_
    refine xisub (v := (x2 + 1) - x1) S dX0_writeIf_97 rfl ?_
    refine lv_iconst (v := 0) hx hb dX0_writeIf_98 (by decide) ?_
    refine lv_iload_n hx hb dX0_writeIf_99 rfl (lv_at hl 4 rfl) ?_
    refine yVv (As := [.int ((g σ 61 (g σ 17 a1)) - 1), .int 21, .int ((x2 + 1) - x1), .int 0, .int a1]) (cw := (cW o u cI cZ cJ T)) (ci := 0) S (v_X0_put_52 l D cI cZ cJ o u T ra ga σ ((g σ 61 (g σ 17 a1)) - 1) 21 ((x2 + 1) - x1) 0 a1 _ H.size hok) mi_X0_put kw_2_90 rfl rfl ⟨Nat.le_of_ble_eq_true rfl, Nat.le_of_ble_eq_true rfl⟩ hP hD hK hS hA hB cW_52 rfl rfl hl.1 (Nat.le_of_ble_eq_true rfl) ⟨Nat.le_of_ble_eq_true rfl, Nat.le_of_ble_eq_true rfl⟩ dX0_writeIf_100 (fun σ4 H locs hok hz hP hD hS => ?_)
    refine lv_iload hx hb dX0_writeIf_103 (lv_at hl 0 rfl) ?_
    refine lv_if_eq (tgt := 132) hx hb dX0_writeIf_105 (by decide) (fun c => absurd c (by decide)) (fun _ => ?_)
    refine lv_aload_n hx hb dX0_writeIf_108 rfl (lv_at hl 3 rfl) ?_
    refine lv_iload_n hx hb dX0_writeIf_109 rfl (lv_at hl 1 rfl) ?_
    refine lv_bipush (v := 22) hx hb dX0_writeIf_110 (by decide) ?_
    refine lv_aload_n hx hb dX0_writeIf_112 rfl (lv_at hl 3 rfl) ?_
    refine xg (ci := 0) S inX0 rfl hK hP cW_52 13 (by decide) rfl kw_5_2 rfl dX0_writeIf_113 ?_
    refine lv_iload_n hx hb dX0_writeIf_116 rfl (lv_at hl 4 rfl) ?_
    have h_117 := hok.1
    have hok := hok.2
    refine xiald (t0 := 0) (v := (g σ4 61 a1)) S hK hP cW_61 rfl h_117 rfl dX0_writeIf_117 ?_
    refine lv_aload_n hx hb dX0_writeIf_118 rfl (lv_at hl 3 rfl) ?_
    refine xg (ci := 0) S inX0 rfl hK hP cW_52 14 (by decide) rfl kw_5_4 rfl dX0_writeIf_119 ?_
    refine lv_iload_n hx hb dX0_writeIf_122 rfl (lv_at hl 4 rfl) ?_
    have h_123 := hok.1
    have hok := hok.2
    refine xiald (t0 := 0) (v := (g σ4 62 a1)) S hK hP cW_62 rfl h_123 rfl dX0_writeIf_123 ?_
    refine xiadd (v := (g σ4 61 a1) + (g σ4 62 a1)) S dX0_writeIf_124 rfl ?_
    refine lv_iload_n hx hb dX0_writeIf_125 rfl (lv_at hl 2 rfl) ?_
    refine xisub (v := ((g σ4 61 a1) + (g σ4 62 a1)) - x1) S dX0_writeIf_126 rfl ?_
    refine lv_iconst (v := 0) hx hb dX0_writeIf_127 (by decide) ?_
    refine lv_iload_n hx hb dX0_writeIf_128 rfl (lv_at hl 4 rfl) ?_
    refine yVv (As := [.int x2, .int 22, .int (((g σ4 61 a1) + (g σ4 62 a1)) - x1), .int 0, .int a1]) (cw := (cW o u cI cZ cJ T)) (ci := 0) S (v_X0_put_52 l D cI cZ cJ o u T ra ga σ4 x2 22 (((g σ4 61 a1) + (g σ4 62 a1)) - x1) 0 a1 _ H.size hok) mi_X0_put kw_2_90 rfl rfl ⟨Nat.le_of_ble_eq_true rfl, Nat.le_of_ble_eq_true rfl⟩ hP hD hK hS hA hB cW_52 rfl rfl hl.1 (Nat.le_of_ble_eq_true rfl) ⟨Nat.le_of_ble_eq_true rfl, Nat.le_of_ble_eq_true rfl⟩ dX0_writeIf_129 (fun σ5 H locs hok hz hP hD hS => ?_)
    exact yEndv S hr hlocks hP hD hS (Nat.le_of_ble_eq_true rfl) (Nat.le_of_ble_eq_true rfl) dX0_writeIf_132 hok

set_option maxHeartbeats 8000000 in
set_option maxRecDepth 100000 in
theorem v_X0_writeLoop_52 (l : Launch) (D : va_G) (cI cZ cJ : ClassId) (o : Nat) (u : Nat → Nat) (T : Nat) (ra : Nat → Nat) (ga : SG) (σ : FS) (a1 : Int32) (a2 : Int32) (Φ : FS → Prop) (sz : Nat) (hok : (wp_X0_writeLoop 52 σ a1 a2 Φ)) : Met l yX0_writeLoop (uW yX0_writeLoop cX0_writeLoop 4 none) ({ frames := 1, cells := 0, slots := 0, locals := 25 }) (va_Pc [.ref (u 51), .int a1, .int a2] (aS ra ga D (tyL cI cZ cJ) (cW o u cI cZ cJ T σ) sz)) (yQv Φ D (cW o u cI cZ cJ T) (va_A (cW o u cI cZ cJ T σ) sz)) 0 0 (va_A (cW o u cI cZ cJ T σ) sz) := by
  refine aStart (lv := [(0, .ref (u 51)), (1, .int a1), (2, .int a2)]) (Qc := fun A => yQv Φ D (cW o u cI cZ cJ T) A) (by decide) (Nat.le_of_ble_eq_true rfl) rfl ?_
  intro p e s m args below meth c ls A H S hr hlocks hnm hl hK hP hD hS hA hB
  have hx := S.1
  have hb := S.2.1
  refine lv_aload_n hx hb dX0_writeLoop_0 rfl (lv_at hl 0 rfl) ?_
  refine xg (ci := 0) S inX0 rfl hK hP cW_52 5 (by decide) rfl kw_4_222 rfl dX0_writeLoop_1 ?_
  refine lv_aload_n hx hb dX0_writeLoop_4 rfl (lv_at hl 0 rfl) ?_
  refine xg (ci := 0) S inX0 rfl hK hP cW_52 2 (by decide) rfl kw_4_217 rfl dX0_writeLoop_5 ?_
  refine xg (ci := 4) S inX4 rfl hK hP cW_20 2 (by decide) rfl kw_4_90 rfl dX0_writeLoop_8 ?_
  refine lv_iload_n hx hb dX0_writeLoop_11 rfl (lv_at hl 1 rfl) ?_
  have h_12 := hok.1
  have hok := hok.2
  refine xiald (t0 := 0) (v := (g σ 21 a1)) S hK hP cW_21 rfl h_12 rfl dX0_writeLoop_12 ?_
  have h_13 := hok.1
  have hok := hok.2
  refine xiald (t0 := 0) (v := (g σ 53 (g σ 21 a1))) S hK hP cW_53 rfl h_13 rfl dX0_writeLoop_13 ?_
  refine lv_topi (fun x1 ex1 => ?_)
  have hok := hok x1 ex1
  refine lv_istore_n (lv' := [(3, .int x1), (0, .ref (u 51)), (1, .int a1), (2, .int a2)]) hx hb dX0_writeLoop_14 rfl hl (by decide) rfl (fun ls hl => ?_)
  refine lv_aload_n hx hb dX0_writeLoop_15 rfl (lv_at hl 1 rfl) ?_
  refine lv_aload_n hx hb dX0_writeLoop_16 rfl (lv_at hl 1 rfl) ?_
  refine xg (ci := 0) S inX0 rfl hK hP cW_52 13 (by decide) rfl kw_5_2 rfl dX0_writeLoop_17 ?_
  refine lv_iload_n hx hb dX0_writeLoop_20 rfl (lv_at hl 2 rfl) ?_
  have h_21 := hok.1
  have hok := hok.2
  refine xiald (t0 := 0) (v := (g σ 61 a1)) S hK hP cW_61 rfl h_21 rfl dX0_writeLoop_21 ?_
  refine lv_bipush (v := 23) hx hb dX0_writeLoop_22 (by decide) ?_
  refine lv_aload_n hx hb dX0_writeLoop_24 rfl (lv_at hl 1 rfl) ?_
  refine xg (ci := 0) S inX0 rfl hK hP cW_52 1 (by decide) rfl kw_4_216 rfl dX0_writeLoop_25 ?_
  refine xg (ci := 5) S inX5 rfl hK hP cW_13 2 (by decide) rfl kw_4_48 rfl dX0_writeLoop_28 ?_
  refine lv_iload_n hx hb dX0_writeLoop_31 rfl (lv_at hl 2 rfl) ?_
  have h_32 := hok.1
  have hok := hok.2
  refine xiald (t0 := 0) (v := (g σ 15 a1)) S hK hP cW_15 rfl h_32 rfl dX0_writeLoop_32 ?_
  refine lv_iconst (v := 0) hx hb dX0_writeLoop_33 (by decide) ?_
  refine lv_iload_n hx hb dX0_writeLoop_34 rfl (lv_at hl 2 rfl) ?_
  refine yVv (As := [.int (g σ 61 a1), .int 23, .int (g σ 15 a1), .int 0, .int a1]) (cw := (cW o u cI cZ cJ T)) (ci := 0) S (v_X0_put_52 l D cI cZ cJ o u T ra ga σ (g σ 61 a1) 23 (g σ 15 a1) 0 a1 _ H.size hok) mi_X0_put kw_2_90 rfl rfl ⟨Nat.le_of_ble_eq_true rfl, Nat.le_of_ble_eq_true rfl⟩ hP hD hK hS hA hB cW_52 rfl rfl hl.1 (Nat.le_of_ble_eq_true rfl) ⟨Nat.le_of_ble_eq_true rfl, Nat.le_of_ble_eq_true rfl⟩ dX0_writeLoop_35 (fun σ2 H locs hok hz hP hD hS => ?_)
  refine lv_aload_n hx hb dX0_writeLoop_38 rfl (lv_at hl 1 rfl) ?_
  refine lv_aload_n hx hb dX0_writeLoop_39 rfl (lv_at hl 1 rfl) ?_
  refine xg (ci := 0) S inX0 rfl hK hP cW_52 13 (by decide) rfl kw_5_2 rfl dX0_writeLoop_40 ?_
  refine lv_aload_n hx hb dX0_writeLoop_43 rfl (lv_at hl 1 rfl) ?_
  refine xg (ci := 0) S inX0 rfl hK hP cW_52 1 (by decide) rfl kw_4_216 rfl dX0_writeLoop_44 ?_
  refine xg (ci := 5) S inX5 rfl hK hP cW_13 4 (by decide) rfl kw_4_59 rfl dX0_writeLoop_47 ?_
  refine lv_iload_n hx hb dX0_writeLoop_50 rfl (lv_at hl 2 rfl) ?_
  have h_51 := hok.1
  have hok := hok.2
  refine xiald (t0 := 0) (v := (g σ2 17 a1)) S hK hP cW_17 rfl h_51 rfl dX0_writeLoop_51 ?_
  have h_52 := hok.1
  have hok := hok.2
  refine xiald (t0 := 0) (v := (g σ2 61 (g σ2 17 a1))) S hK hP cW_61 rfl h_52 rfl dX0_writeLoop_52 ?_
  refine lv_iconst (v := 1) hx hb dX0_writeLoop_53 (by decide) ?_
  refine xisub (v := (g σ2 61 (g σ2 17 a1)) - 1) S dX0_writeLoop_54 rfl ?_
  refine lv_bipush (v := 21) hx hb dX0_writeLoop_55 (by decide) ?_
  refine lv_iload_n hx hb dX0_writeLoop_57 rfl (lv_at hl 3 rfl) ?_
  refine lv_iload_n hx hb dX0_writeLoop_58 rfl (lv_at hl 0 rfl) ?_
  refine xisub (v := a2 - x1) S dX0_writeLoop_59 rfl ?_
  refine lv_iconst (v := 0) hx hb dX0_writeLoop_60 (by decide) ?_
  refine lv_iload_n hx hb dX0_writeLoop_61 rfl (lv_at hl 2 rfl) ?_
  refine yVv (As := [.int ((g σ2 61 (g σ2 17 a1)) - 1), .int 21, .int (a2 - x1), .int 0, .int a1]) (cw := (cW o u cI cZ cJ T)) (ci := 0) S (v_X0_put_52 l D cI cZ cJ o u T ra ga σ2 ((g σ2 61 (g σ2 17 a1)) - 1) 21 (a2 - x1) 0 a1 _ H.size hok) mi_X0_put kw_2_90 rfl rfl ⟨Nat.le_of_ble_eq_true rfl, Nat.le_of_ble_eq_true rfl⟩ hP hD hK hS hA hB cW_52 rfl rfl hl.1 (Nat.le_of_ble_eq_true rfl) ⟨Nat.le_of_ble_eq_true rfl, Nat.le_of_ble_eq_true rfl⟩ dX0_writeLoop_62 (fun σ3 H locs hok hz hP hD hS => ?_)
  refine lv_aload_n hx hb dX0_writeLoop_65 rfl (lv_at hl 1 rfl) ?_
  refine lv_iload_n hx hb dX0_writeLoop_66 rfl (lv_at hl 3 rfl) ?_
  refine lv_iconst (v := 1) hx hb dX0_writeLoop_67 (by decide) ?_
  refine xisub (v := a2 - 1) S dX0_writeLoop_68 rfl ?_
  refine lv_bipush (v := 22) hx hb dX0_writeLoop_69 (by decide) ?_
  refine lv_aload_n hx hb dX0_writeLoop_71 rfl (lv_at hl 1 rfl) ?_
  refine xg (ci := 0) S inX0 rfl hK hP cW_52 13 (by decide) rfl kw_5_2 rfl dX0_writeLoop_72 ?_
  refine lv_aload_n hx hb dX0_writeLoop_75 rfl (lv_at hl 1 rfl) ?_
  refine xg (ci := 0) S inX0 rfl hK hP cW_52 1 (by decide) rfl kw_4_216 rfl dX0_writeLoop_76 ?_
  refine xg (ci := 5) S inX5 rfl hK hP cW_13 3 (by decide) rfl kw_4_54 rfl dX0_writeLoop_79 ?_
  refine lv_iload_n hx hb dX0_writeLoop_82 rfl (lv_at hl 2 rfl) ?_
  have h_83 := hok.1
  have hok := hok.2
  refine xiald (t0 := 0) (v := (g σ3 16 a1)) S hK hP cW_16 rfl h_83 rfl dX0_writeLoop_83 ?_
  have h_84 := hok.1
  have hok := hok.2
  refine xiald (t0 := 0) (v := (g σ3 61 (g σ3 16 a1))) S hK hP cW_61 rfl h_84 rfl dX0_writeLoop_84 ?_
  refine lv_iload_n hx hb dX0_writeLoop_85 rfl (lv_at hl 0 rfl) ?_
  refine xisub (v := (g σ3 61 (g σ3 16 a1)) - x1) S dX0_writeLoop_86 rfl ?_
  refine lv_iconst (v := 0) hx hb dX0_writeLoop_87 (by decide) ?_
  refine lv_iload_n hx hb dX0_writeLoop_88 rfl (lv_at hl 2 rfl) ?_
  refine yVv (As := [.int (a2 - 1), .int 22, .int ((g σ3 61 (g σ3 16 a1)) - x1), .int 0, .int a1]) (cw := (cW o u cI cZ cJ T)) (ci := 0) S (v_X0_put_52 l D cI cZ cJ o u T ra ga σ3 (a2 - 1) 22 ((g σ3 61 (g σ3 16 a1)) - x1) 0 a1 _ H.size hok) mi_X0_put kw_2_90 rfl rfl ⟨Nat.le_of_ble_eq_true rfl, Nat.le_of_ble_eq_true rfl⟩ hP hD hK hS hA hB cW_52 rfl rfl hl.1 (Nat.le_of_ble_eq_true rfl) ⟨Nat.le_of_ble_eq_true rfl, Nat.le_of_ble_eq_true rfl⟩ dX0_writeLoop_89 (fun σ4 H locs hok hz hP hD hS => ?_)
  refine lv_aload_n hx hb dX0_writeLoop_92 rfl (lv_at hl 1 rfl) ?_
  refine lv_iload_n hx hb dX0_writeLoop_93 rfl (lv_at hl 3 rfl) ?_
  refine lv_bipush (v := 24) hx hb dX0_writeLoop_94 (by decide) ?_
  refine lv_iconst (v := 0) hx hb dX0_writeLoop_96 (by decide) ?_
  refine lv_iconst (v := 0) hx hb dX0_writeLoop_97 (by decide) ?_
  refine lv_iload_n hx hb dX0_writeLoop_98 rfl (lv_at hl 2 rfl) ?_
  refine yVv (As := [.int a2, .int 24, .int 0, .int 0, .int a1]) (cw := (cW o u cI cZ cJ T)) (ci := 0) S (v_X0_put_52 l D cI cZ cJ o u T ra ga σ4 a2 24 0 0 a1 _ H.size hok) mi_X0_put kw_2_90 rfl rfl ⟨Nat.le_of_ble_eq_true rfl, Nat.le_of_ble_eq_true rfl⟩ hP hD hK hS hA hB cW_52 rfl rfl hl.1 (Nat.le_of_ble_eq_true rfl) ⟨Nat.le_of_ble_eq_true rfl, Nat.le_of_ble_eq_true rfl⟩ dX0_writeLoop_99 (fun σ5 H locs hok hz hP hD hS => ?_)
  exact yEndv S hr hlocks hP hD hS (Nat.le_of_ble_eq_true rfl) (Nat.le_of_ble_eq_true rfl) dX0_writeLoop_102 hok

set_option maxHeartbeats 8000000 in
set_option maxRecDepth 100000 in
theorem v_X0_writeStatement_52 (l : Launch) (D : va_G) (cI cZ cJ : ClassId) (o : Nat) (u : Nat → Nat) (T : Nat) (ra : Nat → Nat) (ga : SG) (σ : FS) (a1 : Int32) (a2 : Int32) (a3 : Int32) (Φ : FS → Prop) (sz : Nat) (hok : (wp_X0_writeStatement 52 σ a1 a2 a3 Φ)) : Met l yX0_writeStatement (uW yX0_writeStatement cX0_writeStatement 4 none) ({ frames := 2, cells := 0, slots := 0, locals := 49 }) (va_Pc [.ref (u 51), .int a1, .int a2, .int a3] (aS ra ga D (tyL cI cZ cJ) (cW o u cI cZ cJ T σ) sz)) (yQv Φ D (cW o u cI cZ cJ T) (va_A (cW o u cI cZ cJ T σ) sz)) 0 0 (va_A (cW o u cI cZ cJ T σ) sz) := by
  refine aStart (lv := [(0, .ref (u 51)), (1, .int a1), (2, .int a2), (3, .int a3)]) (Qc := fun A => yQv Φ D (cW o u cI cZ cJ T) A) (by decide) (Nat.le_of_ble_eq_true rfl) rfl ?_
  intro p e s m args below meth c ls A H S hr hlocks hnm hl hK hP hD hS hA hB
  have hx := S.1
  have hb := S.2.1
  refine lv_iload_n hx hb dX0_writeStatement_0 rfl (lv_at hl 2 rfl) ?_
  by_cases k_1_0 : a2 = 13
  · have hok := hok.1 k_1_0
    rw [k_1_0]
    refine lv_tableIn (off := 51) (tgt := 52) hx hb dX0_writeStatement_1 (by decide) (by decide) (by decide) (by decide) ?_
    refine lv_aload_n hx hb dX0_writeStatement_52 rfl (lv_at hl 0 rfl) ?_
    refine lv_iload_n hx hb dX0_writeStatement_53 rfl (lv_at hl 3 rfl) ?_
    refine lv_bipush (v := 19) hx hb dX0_writeStatement_54 (by decide) ?_
    refine lv_iload_n hx hb dX0_writeStatement_56 rfl (lv_at hl 1 rfl) ?_
    refine yVv (As := [.int a3, .int 19, .int a1]) (cw := (cW o u cI cZ cJ T)) (ci := 0) S (v_X0_putNamed_52 l D cI cZ cJ o u T ra ga σ a3 19 a1 _ H.size hok) mi_X0_putNamed kw_2_122 rfl rfl ⟨Nat.le_of_ble_eq_true rfl, Nat.le_of_ble_eq_true rfl⟩ hP hD hK hS hA hB cW_52 rfl rfl hl.1 (Nat.le_of_ble_eq_true rfl) ⟨Nat.le_of_ble_eq_true rfl, Nat.le_of_ble_eq_true rfl⟩ dX0_writeStatement_57 (fun σ1 H locs hok hz hP hD hS => ?_)
    refine lv_goto (tgt := 167) hx hb dX0_writeStatement_60 (by decide) ?_
    exact yEndv S hr hlocks hP hD hS (Nat.le_of_ble_eq_true rfl) (Nat.le_of_ble_eq_true rfl) dX0_writeStatement_167 hok
  · have hok := hok.2 k_1_0
    by_cases k_1_1 : a2 = 14
    · have hok := hok.1 k_1_1
      rw [k_1_1]
      refine lv_tableIn (off := 62) (tgt := 63) hx hb dX0_writeStatement_1 (by decide) (by decide) (by decide) (by decide) ?_
      refine lv_aload_n hx hb dX0_writeStatement_63 rfl (lv_at hl 0 rfl) ?_
      refine lv_iload_n hx hb dX0_writeStatement_64 rfl (lv_at hl 3 rfl) ?_
      refine lv_bipush (v := 20) hx hb dX0_writeStatement_65 (by decide) ?_
      refine lv_iload_n hx hb dX0_writeStatement_67 rfl (lv_at hl 1 rfl) ?_
      refine yVv (As := [.int a3, .int 20, .int a1]) (cw := (cW o u cI cZ cJ T)) (ci := 0) S (v_X0_putNamed_52 l D cI cZ cJ o u T ra ga σ a3 20 a1 _ H.size hok) mi_X0_putNamed kw_2_122 rfl rfl ⟨Nat.le_of_ble_eq_true rfl, Nat.le_of_ble_eq_true rfl⟩ hP hD hK hS hA hB cW_52 rfl rfl hl.1 (Nat.le_of_ble_eq_true rfl) ⟨Nat.le_of_ble_eq_true rfl, Nat.le_of_ble_eq_true rfl⟩ dX0_writeStatement_68 (fun σ2 H locs hok hz hP hD hS => ?_)
      refine lv_goto (tgt := 167) hx hb dX0_writeStatement_71 (by decide) ?_
      exact yEndv S hr hlocks hP hD hS (Nat.le_of_ble_eq_true rfl) (Nat.le_of_ble_eq_true rfl) dX0_writeStatement_167 hok
    · have hok := hok.2 k_1_1
      by_cases k_1_2 : a2 = 15
      · have hok := hok.1 k_1_2
        rw [k_1_2]
        refine lv_tableIn (off := 73) (tgt := 74) hx hb dX0_writeStatement_1 (by decide) (by decide) (by decide) (by decide) ?_
        refine lv_aload_n hx hb dX0_writeStatement_74 rfl (lv_at hl 0 rfl) ?_
        refine lv_iload_n hx hb dX0_writeStatement_75 rfl (lv_at hl 1 rfl) ?_
        refine yVv (As := [.int a1]) (cw := (cW o u cI cZ cJ T)) (ci := 0) S (v_X0_writeIf_52 l D cI cZ cJ o u T ra ga σ a1 _ H.size hok) mi_X0_writeIf kw_2_134 rfl rfl ⟨Nat.le_of_ble_eq_true rfl, Nat.le_of_ble_eq_true rfl⟩ hP hD hK hS hA hB cW_52 rfl rfl hl.1 (Nat.le_of_ble_eq_true rfl) ⟨Nat.le_of_ble_eq_true rfl, Nat.le_of_ble_eq_true rfl⟩ dX0_writeStatement_76 (fun σ3 H locs hok hz hP hD hS => ?_)
        refine lv_goto (tgt := 167) hx hb dX0_writeStatement_79 (by decide) ?_
        exact yEndv S hr hlocks hP hD hS (Nat.le_of_ble_eq_true rfl) (Nat.le_of_ble_eq_true rfl) dX0_writeStatement_167 hok
      · have hok := hok.2 k_1_2
        by_cases k_1_3 : a2 = 16
        · have hok := hok.1 k_1_3
          rw [k_1_3]
          refine lv_tableIn (off := 81) (tgt := 82) hx hb dX0_writeStatement_1 (by decide) (by decide) (by decide) (by decide) ?_
          refine lv_aload_n hx hb dX0_writeStatement_82 rfl (lv_at hl 0 rfl) ?_
          refine lv_iload_n hx hb dX0_writeStatement_83 rfl (lv_at hl 1 rfl) ?_
          refine lv_iload_n hx hb dX0_writeStatement_84 rfl (lv_at hl 3 rfl) ?_
          refine yVv (As := [.int a1, .int a3]) (cw := (cW o u cI cZ cJ T)) (ci := 0) S (v_X0_writeLoop_52 l D cI cZ cJ o u T ra ga σ a1 a3 _ H.size hok) mi_X0_writeLoop kw_2_138 rfl rfl ⟨Nat.le_of_ble_eq_true rfl, Nat.le_of_ble_eq_true rfl⟩ hP hD hK hS hA hB cW_52 rfl rfl hl.1 (Nat.le_of_ble_eq_true rfl) ⟨Nat.le_of_ble_eq_true rfl, Nat.le_of_ble_eq_true rfl⟩ dX0_writeStatement_85 (fun σ4 H locs hok hz hP hD hS => ?_)
          refine lv_goto (tgt := 167) hx hb dX0_writeStatement_88 (by decide) ?_
          exact yEndv S hr hlocks hP hD hS (Nat.le_of_ble_eq_true rfl) (Nat.le_of_ble_eq_true rfl) dX0_writeStatement_167 hok
        · have hok := hok.2 k_1_3
          by_cases k_1_4 : a2 = 17
          · have hok := hok.1 k_1_4
            rw [k_1_4]
            refine lv_tableIn (off := 90) (tgt := 91) hx hb dX0_writeStatement_1 (by decide) (by decide) (by decide) (by decide) ?_
            refine lv_aload_n hx hb dX0_writeStatement_91 rfl (lv_at hl 0 rfl) ?_
            refine lv_iload_n hx hb dX0_writeStatement_92 rfl (lv_at hl 3 rfl) ?_
            refine lv_bipush (v := 25) hx hb dX0_writeStatement_93 (by decide) ?_
            refine lv_aload_n hx hb dX0_writeStatement_95 rfl (lv_at hl 0 rfl) ?_
            refine xg (ci := 0) S inX0 rfl hK hP cW_52 2 (by decide) rfl kw_4_217 rfl dX0_writeStatement_96 ?_
            refine xg (ci := 4) S inX4 rfl hK hP cW_20 11 (by decide) rfl kw_4_118 rfl dX0_writeStatement_99 ?_
            refine lv_iload_n hx hb dX0_writeStatement_102 rfl (lv_at hl 1 rfl) ?_
            have h_103 := hok.1
            have hok := hok.2
            refine xiald (t0 := 0) (v := (g σ 30 a1)) S hK hP cW_30 rfl h_103 rfl dX0_writeStatement_103 ?_
            refine lv_aload_n hx hb dX0_writeStatement_104 rfl (lv_at hl 0 rfl) ?_
            refine xg (ci := 0) S inX0 rfl hK hP cW_52 1 (by decide) rfl kw_4_216 rfl dX0_writeStatement_105 ?_
            refine xg (ci := 5) S inX5 rfl hK hP cW_13 2 (by decide) rfl kw_4_48 rfl dX0_writeStatement_108 ?_
            refine lv_iload_n hx hb dX0_writeStatement_111 rfl (lv_at hl 1 rfl) ?_
            have h_112 := hok.1
            have hok := hok.2
            refine xiald (t0 := 0) (v := (g σ 15 a1)) S hK hP cW_15 rfl h_112 rfl dX0_writeStatement_112 ?_
            refine lv_iload_n hx hb dX0_writeStatement_113 rfl (lv_at hl 1 rfl) ?_
            refine yVv (As := [.int a3, .int 25, .int (g σ 30 a1), .int (g σ 15 a1), .int a1]) (cw := (cW o u cI cZ cJ T)) (ci := 0) S (v_X0_put_52 l D cI cZ cJ o u T ra ga σ a3 25 (g σ 30 a1) (g σ 15 a1) a1 _ H.size hok) mi_X0_put kw_2_90 rfl rfl ⟨Nat.le_of_ble_eq_true rfl, Nat.le_of_ble_eq_true rfl⟩ hP hD hK hS hA hB cW_52 rfl rfl hl.1 (Nat.le_of_ble_eq_true rfl) ⟨Nat.le_of_ble_eq_true rfl, Nat.le_of_ble_eq_true rfl⟩ dX0_writeStatement_114 (fun σ5 H locs hok hz hP hD hS => ?_)
            refine lv_goto (tgt := 167) hx hb dX0_writeStatement_117 (by decide) ?_
            exact yEndv S hr hlocks hP hD hS (Nat.le_of_ble_eq_true rfl) (Nat.le_of_ble_eq_true rfl) dX0_writeStatement_167 hok
          · have hok := hok.2 k_1_4
            by_cases k_1_5 : a2 = 18
            · have hok := hok.1 k_1_5
              rw [k_1_5]
              refine lv_tableIn (off := 119) (tgt := 120) hx hb dX0_writeStatement_1 (by decide) (by decide) (by decide) (by decide) ?_
              refine lv_aload_n hx hb dX0_writeStatement_120 rfl (lv_at hl 0 rfl) ?_
              refine lv_iload_n hx hb dX0_writeStatement_121 rfl (lv_at hl 1 rfl) ?_
              refine yVi (As := [.int a1]) (cw := (cW o u cI cZ cJ T)) (ci := 0) S (v_X0_isJump_52 l D cI cZ cJ o u T ra ga σ a1 _ H.size hok) mi_X0_isJump kw_2_78 rfl rfl ⟨Nat.le_of_ble_eq_true rfl, Nat.le_of_ble_eq_true rfl⟩ hP hD hK hS hA hB cW_52 rfl rfl hl.1 (Nat.le_of_ble_eq_true rfl) ⟨Nat.le_of_ble_eq_true rfl, Nat.le_of_ble_eq_true rfl⟩ dX0_writeStatement_122 (fun x7 σ6 H locs hok hz hP hD hS => ?_)
              refine lv_if_ne (tgt := 167) hx hb dX0_writeStatement_125 (by decide) (fun c_125 => ?_) (fun c_125 => ?_)
              · have hok := hok.2 c_125
                exact yEndv S hr hlocks hP hD hS (Nat.le_of_ble_eq_true rfl) (Nat.le_of_ble_eq_true rfl) dX0_writeStatement_167 hok
              · have hok := hok.1 c_125
                refine lv_aload_n hx hb dX0_writeStatement_128 rfl (lv_at hl 0 rfl) ?_
                refine lv_iload_n hx hb dX0_writeStatement_129 rfl (lv_at hl 3 rfl) ?_
                refine lv_bipush (v := 15) hx hb dX0_writeStatement_130 (by decide) ?_
                refine lv_iconst (v := 0) hx hb dX0_writeStatement_132 (by decide) ?_
                refine lv_iconst (v := 0) hx hb dX0_writeStatement_133 (by decide) ?_
                refine lv_iload_n hx hb dX0_writeStatement_134 rfl (lv_at hl 1 rfl) ?_
                refine yVv (As := [.int a3, .int 15, .int 0, .int 0, .int a1]) (cw := (cW o u cI cZ cJ T)) (ci := 0) S (v_X0_put_52 l D cI cZ cJ o u T ra ga σ6 a3 15 0 0 a1 _ H.size hok) mi_X0_put kw_2_90 rfl rfl ⟨Nat.le_of_ble_eq_true rfl, Nat.le_of_ble_eq_true rfl⟩ hP hD hK hS hA hB cW_52 rfl rfl hl.1 (Nat.le_of_ble_eq_true rfl) ⟨Nat.le_of_ble_eq_true rfl, Nat.le_of_ble_eq_true rfl⟩ dX0_writeStatement_135 (fun σ8 H locs hok hz hP hD hS => ?_)
                refine lv_goto (tgt := 167) hx hb dX0_writeStatement_138 (by decide) ?_
                exact yEndv S hr hlocks hP hD hS (Nat.le_of_ble_eq_true rfl) (Nat.le_of_ble_eq_true rfl) dX0_writeStatement_167 hok
            · have hok := hok.2 k_1_5
              by_cases k_1_6 : a2 = 19
              · have hok := hok.1 k_1_6
                rw [k_1_6]
                refine lv_tableIn (off := 140) (tgt := 141) hx hb dX0_writeStatement_1 (by decide) (by decide) (by decide) (by decide) ?_
                refine lv_aload_n hx hb dX0_writeStatement_141 rfl (lv_at hl 0 rfl) ?_
                refine lv_iload_n hx hb dX0_writeStatement_142 rfl (lv_at hl 3 rfl) ?_
                refine lv_bipush (v := 26) hx hb dX0_writeStatement_143 (by decide) ?_
                refine lv_iconst (v := 0) hx hb dX0_writeStatement_145 (by decide) ?_
                refine lv_iconst (v := 0) hx hb dX0_writeStatement_146 (by decide) ?_
                refine lv_iload_n hx hb dX0_writeStatement_147 rfl (lv_at hl 1 rfl) ?_
                refine yVv (As := [.int a3, .int 26, .int 0, .int 0, .int a1]) (cw := (cW o u cI cZ cJ T)) (ci := 0) S (v_X0_put_52 l D cI cZ cJ o u T ra ga σ a3 26 0 0 a1 _ H.size hok) mi_X0_put kw_2_90 rfl rfl ⟨Nat.le_of_ble_eq_true rfl, Nat.le_of_ble_eq_true rfl⟩ hP hD hK hS hA hB cW_52 rfl rfl hl.1 (Nat.le_of_ble_eq_true rfl) ⟨Nat.le_of_ble_eq_true rfl, Nat.le_of_ble_eq_true rfl⟩ dX0_writeStatement_148 (fun σ9 H locs hok hz hP hD hS => ?_)
                refine lv_goto (tgt := 167) hx hb dX0_writeStatement_151 (by decide) ?_
                exact yEndv S hr hlocks hP hD hS (Nat.le_of_ble_eq_true rfl) (Nat.le_of_ble_eq_true rfl) dX0_writeStatement_167 hok
              · have hok := hok.2 k_1_6
                by_cases k_1_7 : a2 = 20
                · have hok := hok.1 k_1_7
                  rw [k_1_7]
                  refine lv_tableIn (off := 153) (tgt := 154) hx hb dX0_writeStatement_1 (by decide) (by decide) (by decide) (by decide) ?_
                  refine lv_aload_n hx hb dX0_writeStatement_154 rfl (lv_at hl 0 rfl) ?_
                  refine lv_iload_n hx hb dX0_writeStatement_155 rfl (lv_at hl 3 rfl) ?_
                  refine lv_bipush (v := 27) hx hb dX0_writeStatement_156 (by decide) ?_
                  refine lv_iconst (v := 0) hx hb dX0_writeStatement_158 (by decide) ?_
                  refine lv_iconst (v := 0) hx hb dX0_writeStatement_159 (by decide) ?_
                  refine lv_iload_n hx hb dX0_writeStatement_160 rfl (lv_at hl 1 rfl) ?_
                  refine yVv (As := [.int a3, .int 27, .int 0, .int 0, .int a1]) (cw := (cW o u cI cZ cJ T)) (ci := 0) S (v_X0_put_52 l D cI cZ cJ o u T ra ga σ a3 27 0 0 a1 _ H.size hok) mi_X0_put kw_2_90 rfl rfl ⟨Nat.le_of_ble_eq_true rfl, Nat.le_of_ble_eq_true rfl⟩ hP hD hK hS hA hB cW_52 rfl rfl hl.1 (Nat.le_of_ble_eq_true rfl) ⟨Nat.le_of_ble_eq_true rfl, Nat.le_of_ble_eq_true rfl⟩ dX0_writeStatement_161 (fun σ10 H locs hok hz hP hD hS => ?_)
                  refine lv_goto (tgt := 167) hx hb dX0_writeStatement_164 (by decide) ?_
                  exact yEndv S hr hlocks hP hD hS (Nat.le_of_ble_eq_true rfl) (Nat.le_of_ble_eq_true rfl) dX0_writeStatement_167 hok
                · have hok := hok.2 k_1_7
                  by_cases k_1_8 : a2 = 21
                  · have hok := hok.1 k_1_8
                    rw [k_1_8]
                    refine lv_tableIn (off := 51) (tgt := 52) hx hb dX0_writeStatement_1 (by decide) (by decide) (by decide) (by decide) ?_
                    refine lv_aload_n hx hb dX0_writeStatement_52 rfl (lv_at hl 0 rfl) ?_
                    refine lv_iload_n hx hb dX0_writeStatement_53 rfl (lv_at hl 3 rfl) ?_
                    refine lv_bipush (v := 19) hx hb dX0_writeStatement_54 (by decide) ?_
                    refine lv_iload_n hx hb dX0_writeStatement_56 rfl (lv_at hl 1 rfl) ?_
                    refine yVv (As := [.int a3, .int 19, .int a1]) (cw := (cW o u cI cZ cJ T)) (ci := 0) S (v_X0_putNamed_52 l D cI cZ cJ o u T ra ga σ a3 19 a1 _ H.size hok) mi_X0_putNamed kw_2_122 rfl rfl ⟨Nat.le_of_ble_eq_true rfl, Nat.le_of_ble_eq_true rfl⟩ hP hD hK hS hA hB cW_52 rfl rfl hl.1 (Nat.le_of_ble_eq_true rfl) ⟨Nat.le_of_ble_eq_true rfl, Nat.le_of_ble_eq_true rfl⟩ dX0_writeStatement_57 (fun σ11 H locs hok hz hP hD hS => ?_)
                    refine lv_goto (tgt := 167) hx hb dX0_writeStatement_60 (by decide) ?_
                    exact yEndv S hr hlocks hP hD hS (Nat.le_of_ble_eq_true rfl) (Nat.le_of_ble_eq_true rfl) dX0_writeStatement_167 hok
                  · have hok := hok.2 k_1_8
                    have q_1_0 := sw_ni k_1_0 (z := 13) (by decide)
                    have q_1_1 := sw_ni k_1_1 (z := 14) (by decide)
                    have q_1_2 := sw_ni k_1_2 (z := 15) (by decide)
                    have q_1_3 := sw_ni k_1_3 (z := 16) (by decide)
                    have q_1_4 := sw_ni k_1_4 (z := 17) (by decide)
                    have q_1_5 := sw_ni k_1_5 (z := 18) (by decide)
                    have q_1_6 := sw_ni k_1_6 (z := 19) (by decide)
                    have q_1_7 := sw_ni k_1_7 (z := 20) (by decide)
                    have q_1_8 := sw_ni k_1_8 (z := 21) (by decide)
                    refine lv_tableOut (tgt := 167) hx hb dX0_writeStatement_1 (by omega) (by decide) ?_
                    exact yEndv S hr hlocks hP hD hS (Nat.le_of_ble_eq_true rfl) (Nat.le_of_ble_eq_true rfl) dX0_writeStatement_167 hok

set_option maxHeartbeats 8000000 in
set_option maxRecDepth 100000 in
theorem v_X0_writeCall_52 (l : Launch) (D : va_G) (cI cZ cJ : ClassId) (o : Nat) (u : Nat → Nat) (T : Nat) (ra : Nat → Nat) (ga : SG) (σ : FS) (a1 : Int32) (a2 : Int32) (a3 : Int32) (Φ : FS → Prop) (sz : Nat) (hok : (wp_X0_writeCall 52 σ a1 a2 a3 Φ)) : Met l yX0_writeCall (uW yX0_writeCall cX0_writeCall 6 none) ({ frames := 2, cells := 0, slots := 0, locals := 48 }) (va_Pc [.ref (u 51), .int a1, .int a2, .int a3] (aS ra ga D (tyL cI cZ cJ) (cW o u cI cZ cJ T σ) sz)) (yQv Φ D (cW o u cI cZ cJ T) (va_A (cW o u cI cZ cJ T σ) sz)) 0 0 (va_A (cW o u cI cZ cJ T σ) sz) := by
  refine aStart (lv := [(0, .ref (u 51)), (1, .int a1), (2, .int a2), (3, .int a3)]) (Qc := fun A => yQv Φ D (cW o u cI cZ cJ T) A) (by decide) (Nat.le_of_ble_eq_true rfl) rfl ?_
  intro p e s m args below meth c ls A H S hr hlocks hnm hl hK hP hD hS hA hB
  have hx := S.1
  have hb := S.2.1
  refine lv_aload_n hx hb dX0_writeCall_0 rfl (lv_at hl 0 rfl) ?_
  refine xg (ci := 0) S inX0 rfl hK hP cW_52 2 (by decide) rfl kw_4_217 rfl dX0_writeCall_1 ?_
  refine xg (ci := 4) S inX4 rfl hK hP cW_20 5 (by decide) rfl kw_4_100 rfl dX0_writeCall_4 ?_
  refine lv_iload_n hx hb dX0_writeCall_7 rfl (lv_at hl 1 rfl) ?_
  have h_8 := hok.1
  have hok := hok.2
  refine xiald (t0 := 0) (v := (g σ 24 a1)) S hK hP cW_24 rfl h_8 rfl dX0_writeCall_8 ?_
  refine lv_bipush (v := 10) hx hb dX0_writeCall_9 (by decide) ?_
  refine lv_icmp_ne (tgt := 18) hx hb dX0_writeCall_11 (by decide) (fun c_11 => ?_) (fun c_11 => ?_)
  · have hok := hok.2 c_11
    refine lv_iconst (v := 0) hx hb dX0_writeCall_18 (by decide) ?_
    refine lv_istore (lv' := [(4, .int 0), (0, .ref (u 51)), (1, .int a1), (2, .int a2), (3, .int a3)]) hx hb dX0_writeCall_19 hl (by decide) rfl (fun ls hl => ?_)
    refine lv_iload_n hx hb dX0_writeCall_21 rfl (lv_at hl 3 rfl) ?_
    refine lv_bipush (v := 8) hx hb dX0_writeCall_22 (by decide) ?_
    refine lv_icmp_ne (tgt := 74) hx hb dX0_writeCall_24 (by decide) (fun c_24 => ?_) (fun c_24 => ?_)
    · have hok := hok.2 c_24
      refine lv_iload_n hx hb dX0_writeCall_74 rfl (lv_at hl 3 rfl) ?_
      refine lv_bipush (v := 8) hx hb dX0_writeCall_75 (by decide) ?_
      refine lv_icmp_ne (tgt := 91) hx hb dX0_writeCall_77 (by decide) (fun c_77 => ?_) (fun c_77 => ?_)
      · have hok := hok.2 c_77
        refine lv_iload_n hx hb dX0_writeCall_91 rfl (lv_at hl 3 rfl) ?_
        refine lv_bipush (v := 10) hx hb dX0_writeCall_92 (by decide) ?_
        refine lv_icmp_ne (tgt := 117) hx hb dX0_writeCall_94 (by decide) (fun c_94 => ?_) (fun c_94 => ?_)
        · have hok := hok.2 c_94
          refine lv_iload_n hx hb dX0_writeCall_117 rfl (lv_at hl 3 rfl) ?_
          refine lv_bipush (v := 11) hx hb dX0_writeCall_118 (by decide) ?_
          refine lv_icmp_ne (tgt := 151) hx hb dX0_writeCall_120 (by decide) (fun c_120 => ?_) (fun c_120 => ?_)
          · have hok := hok.2 c_120
            refine lv_aload_n hx hb dX0_writeCall_151 rfl (lv_at hl 1 rfl) ?_
            refine xg (ci := 0) S inX0 rfl hK hP cW_52 2 (by decide) rfl kw_4_217 rfl dX0_writeCall_152 ?_
            refine xg (ci := 4) S inX4 rfl hK hP cW_20 10 (by decide) rfl kw_4_114 rfl dX0_writeCall_155 ?_
            refine lv_iload_n hx hb dX0_writeCall_158 rfl (lv_at hl 2 rfl) ?_
            have h_159 := hok.1
            have hok := hok.2
            refine xiald (t0 := 0) (v := (g σ 29 a1)) S hK hP cW_29 rfl h_159 rfl dX0_writeCall_159 ?_
            refine lv_iconst (v := 2) hx hb dX0_writeCall_160 (by decide) ?_
            refine lv_icmp_ne (tgt := 233) hx hb dX0_writeCall_161 (by decide) (fun c_161 => ?_) (fun c_161 => ?_)
            · have hok := hok.2 c_161
              exact yEndv S hr hlocks hP hD hS (Nat.le_of_ble_eq_true rfl) (Nat.le_of_ble_eq_true rfl) dX0_writeCall_233 hok
            · have hok := hok.1 c_161
              refine lv_aload_n hx hb dX0_writeCall_164 rfl (lv_at hl 1 rfl) ?_
              refine xg (ci := 0) S inX0 rfl hK hP cW_52 13 (by decide) rfl kw_5_2 rfl dX0_writeCall_165 ?_
              refine lv_iload_n hx hb dX0_writeCall_168 rfl (lv_at hl 2 rfl) ?_
              have h_169 := hok.1
              have hok := hok.2
              refine xiald (t0 := 0) (v := (g σ 61 a1)) S hK hP cW_61 rfl h_169 rfl dX0_writeCall_169 ?_
              refine lv_iconst (v := 1) hx hb dX0_writeCall_170 (by decide) ?_
              refine xiadd (v := (g σ 61 a1) + 1) S dX0_writeCall_171 rfl ?_
              refine lv_aload_n hx hb dX0_writeCall_172 rfl (lv_at hl 1 rfl) ?_
              refine xg (ci := 0) S inX0 rfl hK hP cW_52 14 (by decide) rfl kw_5_4 rfl dX0_writeCall_173 ?_
              refine lv_aload_n hx hb dX0_writeCall_176 rfl (lv_at hl 1 rfl) ?_
              refine xg (ci := 0) S inX0 rfl hK hP cW_52 1 (by decide) rfl kw_4_216 rfl dX0_writeCall_177 ?_
              refine xg (ci := 5) S inX5 rfl hK hP cW_13 3 (by decide) rfl kw_4_54 rfl dX0_writeCall_180 ?_
              refine lv_iload_n hx hb dX0_writeCall_183 rfl (lv_at hl 2 rfl) ?_
              have h_184 := hok.1
              have hok := hok.2
              refine xiald (t0 := 0) (v := (g σ 16 a1)) S hK hP cW_16 rfl h_184 rfl dX0_writeCall_184 ?_
              have h_185 := hok.1
              have hok := hok.2
              refine xiald (t0 := 0) (v := (g σ 62 (g σ 16 a1))) S hK hP cW_62 rfl h_185 rfl dX0_writeCall_185 ?_
              refine xiadd (v := ((g σ 61 a1) + 1) + (g σ 62 (g σ 16 a1))) S dX0_writeCall_186 rfl ?_
              refine lv_topi (fun x1 ex1 => ?_)
              have hok := hok x1 ex1
              refine lv_istore (lv' := [(5, .int x1), (4, .int 0), (0, .ref (u 51)), (1, .int a1), (2, .int a2), (3, .int a3)]) hx hb dX0_writeCall_187 hl (by decide) rfl (fun ls hl => ?_)
              refine lv_aload_n hx hb dX0_writeCall_189 rfl (lv_at hl 2 rfl) ?_
              refine lv_aload_n hx hb dX0_writeCall_190 rfl (lv_at hl 2 rfl) ?_
              refine xg (ci := 0) S inX0 rfl hK hP cW_52 13 (by decide) rfl kw_5_2 rfl dX0_writeCall_191 ?_
              refine lv_iload_n hx hb dX0_writeCall_194 rfl (lv_at hl 3 rfl) ?_
              have h_195 := hok.1
              have hok := hok.2
              refine xiald (t0 := 0) (v := (g σ 61 a1)) S hK hP cW_61 rfl h_195 rfl dX0_writeCall_195 ?_
              refine lv_bipush (v := 14) hx hb dX0_writeCall_196 (by decide) ?_
              refine lv_iload hx hb dX0_writeCall_198 (lv_at hl 0 rfl) ?_
              refine lv_iconst (v := 1) hx hb dX0_writeCall_200 (by decide) ?_
              refine xiadd (v := x1 + 1) S dX0_writeCall_201 rfl ?_
              refine lv_aload_n hx hb dX0_writeCall_202 rfl (lv_at hl 2 rfl) ?_
              refine xg (ci := 0) S inX0 rfl hK hP cW_52 5 (by decide) rfl kw_4_222 rfl dX0_writeCall_203 ?_
              refine lv_aload_n hx hb dX0_writeCall_206 rfl (lv_at hl 2 rfl) ?_
              refine xg (ci := 0) S inX0 rfl hK hP cW_52 2 (by decide) rfl kw_4_217 rfl dX0_writeCall_207 ?_
              refine xg (ci := 4) S inX4 rfl hK hP cW_20 2 (by decide) rfl kw_4_90 rfl dX0_writeCall_210 ?_
              refine lv_iload_n hx hb dX0_writeCall_213 rfl (lv_at hl 3 rfl) ?_
              have h_214 := hok.1
              have hok := hok.2
              refine xiald (t0 := 0) (v := (g σ 21 a1)) S hK hP cW_21 rfl h_214 rfl dX0_writeCall_214 ?_
              have h_215 := hok.1
              have hok := hok.2
              refine xiald (t0 := 0) (v := (g σ 53 (g σ 21 a1))) S hK hP cW_53 rfl h_215 rfl dX0_writeCall_215 ?_
              refine xisub (v := (x1 + 1) - (g σ 53 (g σ 21 a1))) S dX0_writeCall_216 rfl ?_
              refine lv_iconst (v := 0) hx hb dX0_writeCall_217 (by decide) ?_
              refine lv_iload_n hx hb dX0_writeCall_218 rfl (lv_at hl 3 rfl) ?_
              refine yVv (As := [.int (g σ 61 a1), .int 14, .int ((x1 + 1) - (g σ 53 (g σ 21 a1))), .int 0, .int a1]) (cw := (cW o u cI cZ cJ T)) (ci := 0) S (v_X0_put_52 l D cI cZ cJ o u T ra ga σ (g σ 61 a1) 14 ((x1 + 1) - (g σ 53 (g σ 21 a1))) 0 a1 _ H.size hok) mi_X0_put kw_2_90 rfl rfl ⟨Nat.le_of_ble_eq_true rfl, Nat.le_of_ble_eq_true rfl⟩ hP hD hK hS hA hB cW_52 rfl rfl hl.1 (Nat.le_of_ble_eq_true rfl) ⟨Nat.le_of_ble_eq_true rfl, Nat.le_of_ble_eq_true rfl⟩ dX0_writeCall_219 (fun σ2 H locs hok hz hP hD hS => ?_)
              refine lv_aload_n hx hb dX0_writeCall_222 rfl (lv_at hl 2 rfl) ?_
              refine lv_iload hx hb dX0_writeCall_223 (lv_at hl 0 rfl) ?_
              refine lv_bipush (v := 15) hx hb dX0_writeCall_225 (by decide) ?_
              refine lv_iconst (v := 0) hx hb dX0_writeCall_227 (by decide) ?_
              refine lv_iconst (v := 0) hx hb dX0_writeCall_228 (by decide) ?_
              refine lv_iload_n hx hb dX0_writeCall_229 rfl (lv_at hl 3 rfl) ?_
              refine yVv (As := [.int x1, .int 15, .int 0, .int 0, .int a1]) (cw := (cW o u cI cZ cJ T)) (ci := 0) S (v_X0_put_52 l D cI cZ cJ o u T ra ga σ2 x1 15 0 0 a1 _ H.size hok) mi_X0_put kw_2_90 rfl rfl ⟨Nat.le_of_ble_eq_true rfl, Nat.le_of_ble_eq_true rfl⟩ hP hD hK hS hA hB cW_52 rfl rfl hl.1 (Nat.le_of_ble_eq_true rfl) ⟨Nat.le_of_ble_eq_true rfl, Nat.le_of_ble_eq_true rfl⟩ dX0_writeCall_230 (fun σ3 H locs hok hz hP hD hS => ?_)
              exact yEndv S hr hlocks hP hD hS (Nat.le_of_ble_eq_true rfl) (Nat.le_of_ble_eq_true rfl) dX0_writeCall_233 hok
          · have hok := hok.1 c_120
            refine lv_aload_n hx hb dX0_writeCall_123 rfl (lv_at hl 1 rfl) ?_
            refine lv_iload_n hx hb dX0_writeCall_124 rfl (lv_at hl 4 rfl) ?_
            refine lv_aload_n hx hb dX0_writeCall_125 rfl (lv_at hl 1 rfl) ?_
            refine xg (ci := 0) S inX0 rfl hK hP cW_52 2 (by decide) rfl kw_4_217 rfl dX0_writeCall_126 ?_
            refine lv_iload_n hx hb dX0_writeCall_129 rfl (lv_at hl 2 rfl) ?_
            refine yVi (As := [.int a1]) (cw := (cW o u cI cZ cJ T)) (ci := 4) S (v_X4_modeOfPart l D cI cZ cJ o u T ra ga σ a1 _ H.size hok) mi_X4_modeOfPart kw_2_118 rfl rfl ⟨Nat.le_of_ble_eq_true rfl, Nat.le_of_ble_eq_true rfl⟩ hP hD hK hS hA hB cW_20 rfl rfl hl.1 (Nat.le_of_ble_eq_true rfl) ⟨Nat.le_of_ble_eq_true rfl, Nat.le_of_ble_eq_true rfl⟩ dX0_writeCall_130 (fun x5 σ4 H locs hok hz hP hD hS => ?_)
            refine lv_iconst (v := 3) hx hb dX0_writeCall_133 (by decide) ?_
            refine lv_icmp_ne (tgt := 142) hx hb dX0_writeCall_134 (by decide) (fun c_134 => ?_) (fun c_134 => ?_)
            · have hok := hok.2 c_134
              refine lv_bipush (v := 17) hx hb dX0_writeCall_142 (by decide) ?_
              refine lv_iload_n hx hb dX0_writeCall_144 rfl (lv_at hl 2 rfl) ?_
              refine yVv (As := [.int a3, .int 17, .int a1]) (cw := (cW o u cI cZ cJ T)) (ci := 0) S (v_X0_putNamed_52 l D cI cZ cJ o u T ra ga σ4 a3 17 a1 _ H.size hok) mi_X0_putNamed kw_2_122 rfl rfl ⟨Nat.le_of_ble_eq_true rfl, Nat.le_of_ble_eq_true rfl⟩ hP hD hK hS hA hB cW_52 rfl rfl hl.1 (Nat.le_of_ble_eq_true rfl) ⟨Nat.le_of_ble_eq_true rfl, Nat.le_of_ble_eq_true rfl⟩ dX0_writeCall_145 (fun σ6 H locs hok hz hP hD hS => ?_)
              refine lv_goto (tgt := 233) hx hb dX0_writeCall_148 (by decide) ?_
              exact yEndv S hr hlocks hP hD hS (Nat.le_of_ble_eq_true rfl) (Nat.le_of_ble_eq_true rfl) dX0_writeCall_233 hok
            · have hok := hok.1 c_134
              refine lv_bipush (v := 16) hx hb dX0_writeCall_137 (by decide) ?_
              refine lv_goto (tgt := 144) hx hb dX0_writeCall_139 (by decide) ?_
              refine lv_iload_n hx hb dX0_writeCall_144 rfl (lv_at hl 2 rfl) ?_
              refine yVv (As := [.int a3, .int 16, .int a1]) (cw := (cW o u cI cZ cJ T)) (ci := 0) S (v_X0_putNamed_52 l D cI cZ cJ o u T ra ga σ4 a3 16 a1 _ H.size hok) mi_X0_putNamed kw_2_122 rfl rfl ⟨Nat.le_of_ble_eq_true rfl, Nat.le_of_ble_eq_true rfl⟩ hP hD hK hS hA hB cW_52 rfl rfl hl.1 (Nat.le_of_ble_eq_true rfl) ⟨Nat.le_of_ble_eq_true rfl, Nat.le_of_ble_eq_true rfl⟩ dX0_writeCall_145 (fun σ7 H locs hok hz hP hD hS => ?_)
              refine lv_goto (tgt := 233) hx hb dX0_writeCall_148 (by decide) ?_
              exact yEndv S hr hlocks hP hD hS (Nat.le_of_ble_eq_true rfl) (Nat.le_of_ble_eq_true rfl) dX0_writeCall_233 hok
        · have hok := hok.1 c_94
          refine lv_aload_n hx hb dX0_writeCall_97 rfl (lv_at hl 1 rfl) ?_
          refine lv_iload_n hx hb dX0_writeCall_98 rfl (lv_at hl 4 rfl) ?_
          refine lv_iload hx hb dX0_writeCall_99 (lv_at hl 0 rfl) ?_
          refine lv_if_eq (tgt := 109) hx hb dX0_writeCall_101 (by decide) (fun _ => ?_) (fun c => absurd c (by decide))
          refine lv_iconst (v := 2) hx hb dX0_writeCall_109 (by decide) ?_
          refine lv_iload_n hx hb dX0_writeCall_110 rfl (lv_at hl 2 rfl) ?_
          refine yVv (As := [.int a3, .int 2, .int a1]) (cw := (cW o u cI cZ cJ T)) (ci := 0) S (v_X0_putNamed_52 l D cI cZ cJ o u T ra ga σ a3 2 a1 _ H.size hok) mi_X0_putNamed kw_2_122 rfl rfl ⟨Nat.le_of_ble_eq_true rfl, Nat.le_of_ble_eq_true rfl⟩ hP hD hK hS hA hB cW_52 rfl rfl hl.1 (Nat.le_of_ble_eq_true rfl) ⟨Nat.le_of_ble_eq_true rfl, Nat.le_of_ble_eq_true rfl⟩ dX0_writeCall_111 (fun σ8 H locs hok hz hP hD hS => ?_)
          refine lv_goto (tgt := 233) hx hb dX0_writeCall_114 (by decide) ?_
          exact yEndv S hr hlocks hP hD hS (Nat.le_of_ble_eq_true rfl) (Nat.le_of_ble_eq_true rfl) dX0_writeCall_233 hok
      · have hok := hok.1 c_77
        refine lv_aload_n hx hb dX0_writeCall_80 rfl (lv_at hl 1 rfl) ?_
        refine lv_iload_n hx hb dX0_writeCall_81 rfl (lv_at hl 4 rfl) ?_
        refine lv_bipush (v := 10) hx hb dX0_writeCall_82 (by decide) ?_
        refine lv_iload_n hx hb dX0_writeCall_84 rfl (lv_at hl 2 rfl) ?_
        refine yVv (As := [.int a3, .int 10, .int a1]) (cw := (cW o u cI cZ cJ T)) (ci := 0) S (v_X0_putNamed_52 l D cI cZ cJ o u T ra ga σ a3 10 a1 _ H.size hok) mi_X0_putNamed kw_2_122 rfl rfl ⟨Nat.le_of_ble_eq_true rfl, Nat.le_of_ble_eq_true rfl⟩ hP hD hK hS hA hB cW_52 rfl rfl hl.1 (Nat.le_of_ble_eq_true rfl) ⟨Nat.le_of_ble_eq_true rfl, Nat.le_of_ble_eq_true rfl⟩ dX0_writeCall_85 (fun σ9 H locs hok hz hP hD hS => ?_)
        refine lv_goto (tgt := 233) hx hb dX0_writeCall_88 (by decide) ?_
        exact yEndv S hr hlocks hP hD hS (Nat.le_of_ble_eq_true rfl) (Nat.le_of_ble_eq_true rfl) dX0_writeCall_233 hok
    · have hok := hok.1 c_24
      refine lv_iload hx hb dX0_writeCall_27 (lv_at hl 0 rfl) ?_
      refine lv_if_eq (tgt := 74) hx hb dX0_writeCall_29 (by decide) (fun _ => ?_) (fun c => absurd c (by decide))
      refine lv_iload_n hx hb dX0_writeCall_74 rfl (lv_at hl 3 rfl) ?_
      refine lv_bipush (v := 8) hx hb dX0_writeCall_75 (by decide) ?_
      refine lv_icmp_ne (tgt := 91) hx hb dX0_writeCall_77 (by decide) (fun c_77 => ?_) (fun c_77 => ?_)
      · have hok := hok.2 c_77
        refine lv_iload_n hx hb dX0_writeCall_91 rfl (lv_at hl 3 rfl) ?_
        refine lv_bipush (v := 10) hx hb dX0_writeCall_92 (by decide) ?_
        refine lv_icmp_ne (tgt := 117) hx hb dX0_writeCall_94 (by decide) (fun c_94 => ?_) (fun c_94 => ?_)
        · have hok := hok.2 c_94
          refine lv_iload_n hx hb dX0_writeCall_117 rfl (lv_at hl 3 rfl) ?_
          refine lv_bipush (v := 11) hx hb dX0_writeCall_118 (by decide) ?_
          refine lv_icmp_ne (tgt := 151) hx hb dX0_writeCall_120 (by decide) (fun c_120 => ?_) (fun c_120 => ?_)
          · have hok := hok.2 c_120
            refine lv_aload_n hx hb dX0_writeCall_151 rfl (lv_at hl 1 rfl) ?_
            refine xg (ci := 0) S inX0 rfl hK hP cW_52 2 (by decide) rfl kw_4_217 rfl dX0_writeCall_152 ?_
            refine xg (ci := 4) S inX4 rfl hK hP cW_20 10 (by decide) rfl kw_4_114 rfl dX0_writeCall_155 ?_
            refine lv_iload_n hx hb dX0_writeCall_158 rfl (lv_at hl 2 rfl) ?_
            have h_159 := hok.1
            have hok := hok.2
            refine xiald (t0 := 0) (v := (g σ 29 a1)) S hK hP cW_29 rfl h_159 rfl dX0_writeCall_159 ?_
            refine lv_iconst (v := 2) hx hb dX0_writeCall_160 (by decide) ?_
            refine lv_icmp_ne (tgt := 233) hx hb dX0_writeCall_161 (by decide) (fun c_161 => ?_) (fun c_161 => ?_)
            · have hok := hok.2 c_161
              exact yEndv S hr hlocks hP hD hS (Nat.le_of_ble_eq_true rfl) (Nat.le_of_ble_eq_true rfl) dX0_writeCall_233 hok
            · have hok := hok.1 c_161
              refine lv_aload_n hx hb dX0_writeCall_164 rfl (lv_at hl 1 rfl) ?_
              refine xg (ci := 0) S inX0 rfl hK hP cW_52 13 (by decide) rfl kw_5_2 rfl dX0_writeCall_165 ?_
              refine lv_iload_n hx hb dX0_writeCall_168 rfl (lv_at hl 2 rfl) ?_
              have h_169 := hok.1
              have hok := hok.2
              refine xiald (t0 := 0) (v := (g σ 61 a1)) S hK hP cW_61 rfl h_169 rfl dX0_writeCall_169 ?_
              refine lv_iconst (v := 1) hx hb dX0_writeCall_170 (by decide) ?_
              refine xiadd (v := (g σ 61 a1) + 1) S dX0_writeCall_171 rfl ?_
              refine lv_aload_n hx hb dX0_writeCall_172 rfl (lv_at hl 1 rfl) ?_
              refine xg (ci := 0) S inX0 rfl hK hP cW_52 14 (by decide) rfl kw_5_4 rfl dX0_writeCall_173 ?_
              refine lv_aload_n hx hb dX0_writeCall_176 rfl (lv_at hl 1 rfl) ?_
              refine xg (ci := 0) S inX0 rfl hK hP cW_52 1 (by decide) rfl kw_4_216 rfl dX0_writeCall_177 ?_
              refine xg (ci := 5) S inX5 rfl hK hP cW_13 3 (by decide) rfl kw_4_54 rfl dX0_writeCall_180 ?_
              refine lv_iload_n hx hb dX0_writeCall_183 rfl (lv_at hl 2 rfl) ?_
              have h_184 := hok.1
              have hok := hok.2
              refine xiald (t0 := 0) (v := (g σ 16 a1)) S hK hP cW_16 rfl h_184 rfl dX0_writeCall_184 ?_
              have h_185 := hok.1
              have hok := hok.2
              refine xiald (t0 := 0) (v := (g σ 62 (g σ 16 a1))) S hK hP cW_62 rfl h_185 rfl dX0_writeCall_185 ?_
              refine xiadd (v := ((g σ 61 a1) + 1) + (g σ 62 (g σ 16 a1))) S dX0_writeCall_186 rfl ?_
              refine lv_topi (fun x10 ex10 => ?_)
              have hok := hok x10 ex10
              refine lv_istore (lv' := [(5, .int x10), (4, .int 0), (0, .ref (u 51)), (1, .int a1), (2, .int a2), (3, .int a3)]) hx hb dX0_writeCall_187 hl (by decide) rfl (fun ls hl => ?_)
              refine lv_aload_n hx hb dX0_writeCall_189 rfl (lv_at hl 2 rfl) ?_
              refine lv_aload_n hx hb dX0_writeCall_190 rfl (lv_at hl 2 rfl) ?_
              refine xg (ci := 0) S inX0 rfl hK hP cW_52 13 (by decide) rfl kw_5_2 rfl dX0_writeCall_191 ?_
              refine lv_iload_n hx hb dX0_writeCall_194 rfl (lv_at hl 3 rfl) ?_
              have h_195 := hok.1
              have hok := hok.2
              refine xiald (t0 := 0) (v := (g σ 61 a1)) S hK hP cW_61 rfl h_195 rfl dX0_writeCall_195 ?_
              refine lv_bipush (v := 14) hx hb dX0_writeCall_196 (by decide) ?_
              refine lv_iload hx hb dX0_writeCall_198 (lv_at hl 0 rfl) ?_
              refine lv_iconst (v := 1) hx hb dX0_writeCall_200 (by decide) ?_
              refine xiadd (v := x10 + 1) S dX0_writeCall_201 rfl ?_
              refine lv_aload_n hx hb dX0_writeCall_202 rfl (lv_at hl 2 rfl) ?_
              refine xg (ci := 0) S inX0 rfl hK hP cW_52 5 (by decide) rfl kw_4_222 rfl dX0_writeCall_203 ?_
              refine lv_aload_n hx hb dX0_writeCall_206 rfl (lv_at hl 2 rfl) ?_
              refine xg (ci := 0) S inX0 rfl hK hP cW_52 2 (by decide) rfl kw_4_217 rfl dX0_writeCall_207 ?_
              refine xg (ci := 4) S inX4 rfl hK hP cW_20 2 (by decide) rfl kw_4_90 rfl dX0_writeCall_210 ?_
              refine lv_iload_n hx hb dX0_writeCall_213 rfl (lv_at hl 3 rfl) ?_
              have h_214 := hok.1
              have hok := hok.2
              refine xiald (t0 := 0) (v := (g σ 21 a1)) S hK hP cW_21 rfl h_214 rfl dX0_writeCall_214 ?_
              have h_215 := hok.1
              have hok := hok.2
              refine xiald (t0 := 0) (v := (g σ 53 (g σ 21 a1))) S hK hP cW_53 rfl h_215 rfl dX0_writeCall_215 ?_
              refine xisub (v := (x10 + 1) - (g σ 53 (g σ 21 a1))) S dX0_writeCall_216 rfl ?_
              refine lv_iconst (v := 0) hx hb dX0_writeCall_217 (by decide) ?_
              refine lv_iload_n hx hb dX0_writeCall_218 rfl (lv_at hl 3 rfl) ?_
              refine yVv (As := [.int (g σ 61 a1), .int 14, .int ((x10 + 1) - (g σ 53 (g σ 21 a1))), .int 0, .int a1]) (cw := (cW o u cI cZ cJ T)) (ci := 0) S (v_X0_put_52 l D cI cZ cJ o u T ra ga σ (g σ 61 a1) 14 ((x10 + 1) - (g σ 53 (g σ 21 a1))) 0 a1 _ H.size hok) mi_X0_put kw_2_90 rfl rfl ⟨Nat.le_of_ble_eq_true rfl, Nat.le_of_ble_eq_true rfl⟩ hP hD hK hS hA hB cW_52 rfl rfl hl.1 (Nat.le_of_ble_eq_true rfl) ⟨Nat.le_of_ble_eq_true rfl, Nat.le_of_ble_eq_true rfl⟩ dX0_writeCall_219 (fun σ11 H locs hok hz hP hD hS => ?_)
              refine lv_aload_n hx hb dX0_writeCall_222 rfl (lv_at hl 2 rfl) ?_
              refine lv_iload hx hb dX0_writeCall_223 (lv_at hl 0 rfl) ?_
              refine lv_bipush (v := 15) hx hb dX0_writeCall_225 (by decide) ?_
              refine lv_iconst (v := 0) hx hb dX0_writeCall_227 (by decide) ?_
              refine lv_iconst (v := 0) hx hb dX0_writeCall_228 (by decide) ?_
              refine lv_iload_n hx hb dX0_writeCall_229 rfl (lv_at hl 3 rfl) ?_
              refine yVv (As := [.int x10, .int 15, .int 0, .int 0, .int a1]) (cw := (cW o u cI cZ cJ T)) (ci := 0) S (v_X0_put_52 l D cI cZ cJ o u T ra ga σ11 x10 15 0 0 a1 _ H.size hok) mi_X0_put kw_2_90 rfl rfl ⟨Nat.le_of_ble_eq_true rfl, Nat.le_of_ble_eq_true rfl⟩ hP hD hK hS hA hB cW_52 rfl rfl hl.1 (Nat.le_of_ble_eq_true rfl) ⟨Nat.le_of_ble_eq_true rfl, Nat.le_of_ble_eq_true rfl⟩ dX0_writeCall_230 (fun σ12 H locs hok hz hP hD hS => ?_)
              exact yEndv S hr hlocks hP hD hS (Nat.le_of_ble_eq_true rfl) (Nat.le_of_ble_eq_true rfl) dX0_writeCall_233 hok
          · have hok := hok.1 c_120
            refine lv_aload_n hx hb dX0_writeCall_123 rfl (lv_at hl 1 rfl) ?_
            refine lv_iload_n hx hb dX0_writeCall_124 rfl (lv_at hl 4 rfl) ?_
            refine lv_aload_n hx hb dX0_writeCall_125 rfl (lv_at hl 1 rfl) ?_
            refine xg (ci := 0) S inX0 rfl hK hP cW_52 2 (by decide) rfl kw_4_217 rfl dX0_writeCall_126 ?_
            refine lv_iload_n hx hb dX0_writeCall_129 rfl (lv_at hl 2 rfl) ?_
            refine yVi (As := [.int a1]) (cw := (cW o u cI cZ cJ T)) (ci := 4) S (v_X4_modeOfPart l D cI cZ cJ o u T ra ga σ a1 _ H.size hok) mi_X4_modeOfPart kw_2_118 rfl rfl ⟨Nat.le_of_ble_eq_true rfl, Nat.le_of_ble_eq_true rfl⟩ hP hD hK hS hA hB cW_20 rfl rfl hl.1 (Nat.le_of_ble_eq_true rfl) ⟨Nat.le_of_ble_eq_true rfl, Nat.le_of_ble_eq_true rfl⟩ dX0_writeCall_130 (fun x14 σ13 H locs hok hz hP hD hS => ?_)
            refine lv_iconst (v := 3) hx hb dX0_writeCall_133 (by decide) ?_
            refine lv_icmp_ne (tgt := 142) hx hb dX0_writeCall_134 (by decide) (fun c_134 => ?_) (fun c_134 => ?_)
            · have hok := hok.2 c_134
              refine lv_bipush (v := 17) hx hb dX0_writeCall_142 (by decide) ?_
              refine lv_iload_n hx hb dX0_writeCall_144 rfl (lv_at hl 2 rfl) ?_
              refine yVv (As := [.int a3, .int 17, .int a1]) (cw := (cW o u cI cZ cJ T)) (ci := 0) S (v_X0_putNamed_52 l D cI cZ cJ o u T ra ga σ13 a3 17 a1 _ H.size hok) mi_X0_putNamed kw_2_122 rfl rfl ⟨Nat.le_of_ble_eq_true rfl, Nat.le_of_ble_eq_true rfl⟩ hP hD hK hS hA hB cW_52 rfl rfl hl.1 (Nat.le_of_ble_eq_true rfl) ⟨Nat.le_of_ble_eq_true rfl, Nat.le_of_ble_eq_true rfl⟩ dX0_writeCall_145 (fun σ15 H locs hok hz hP hD hS => ?_)
              refine lv_goto (tgt := 233) hx hb dX0_writeCall_148 (by decide) ?_
              exact yEndv S hr hlocks hP hD hS (Nat.le_of_ble_eq_true rfl) (Nat.le_of_ble_eq_true rfl) dX0_writeCall_233 hok
            · have hok := hok.1 c_134
              refine lv_bipush (v := 16) hx hb dX0_writeCall_137 (by decide) ?_
              refine lv_goto (tgt := 144) hx hb dX0_writeCall_139 (by decide) ?_
              refine lv_iload_n hx hb dX0_writeCall_144 rfl (lv_at hl 2 rfl) ?_
              refine yVv (As := [.int a3, .int 16, .int a1]) (cw := (cW o u cI cZ cJ T)) (ci := 0) S (v_X0_putNamed_52 l D cI cZ cJ o u T ra ga σ13 a3 16 a1 _ H.size hok) mi_X0_putNamed kw_2_122 rfl rfl ⟨Nat.le_of_ble_eq_true rfl, Nat.le_of_ble_eq_true rfl⟩ hP hD hK hS hA hB cW_52 rfl rfl hl.1 (Nat.le_of_ble_eq_true rfl) ⟨Nat.le_of_ble_eq_true rfl, Nat.le_of_ble_eq_true rfl⟩ dX0_writeCall_145 (fun σ16 H locs hok hz hP hD hS => ?_)
              refine lv_goto (tgt := 233) hx hb dX0_writeCall_148 (by decide) ?_
              exact yEndv S hr hlocks hP hD hS (Nat.le_of_ble_eq_true rfl) (Nat.le_of_ble_eq_true rfl) dX0_writeCall_233 hok
        · have hok := hok.1 c_94
          refine lv_aload_n hx hb dX0_writeCall_97 rfl (lv_at hl 1 rfl) ?_
          refine lv_iload_n hx hb dX0_writeCall_98 rfl (lv_at hl 4 rfl) ?_
          refine lv_iload hx hb dX0_writeCall_99 (lv_at hl 0 rfl) ?_
          refine lv_if_eq (tgt := 109) hx hb dX0_writeCall_101 (by decide) (fun _ => ?_) (fun c => absurd c (by decide))
          refine lv_iconst (v := 2) hx hb dX0_writeCall_109 (by decide) ?_
          refine lv_iload_n hx hb dX0_writeCall_110 rfl (lv_at hl 2 rfl) ?_
          refine yVv (As := [.int a3, .int 2, .int a1]) (cw := (cW o u cI cZ cJ T)) (ci := 0) S (v_X0_putNamed_52 l D cI cZ cJ o u T ra ga σ a3 2 a1 _ H.size hok) mi_X0_putNamed kw_2_122 rfl rfl ⟨Nat.le_of_ble_eq_true rfl, Nat.le_of_ble_eq_true rfl⟩ hP hD hK hS hA hB cW_52 rfl rfl hl.1 (Nat.le_of_ble_eq_true rfl) ⟨Nat.le_of_ble_eq_true rfl, Nat.le_of_ble_eq_true rfl⟩ dX0_writeCall_111 (fun σ17 H locs hok hz hP hD hS => ?_)
          refine lv_goto (tgt := 233) hx hb dX0_writeCall_114 (by decide) ?_
          exact yEndv S hr hlocks hP hD hS (Nat.le_of_ble_eq_true rfl) (Nat.le_of_ble_eq_true rfl) dX0_writeCall_233 hok
      · have hok := hok.1 c_77
        refine lv_aload_n hx hb dX0_writeCall_80 rfl (lv_at hl 1 rfl) ?_
        refine lv_iload_n hx hb dX0_writeCall_81 rfl (lv_at hl 4 rfl) ?_
        refine lv_bipush (v := 10) hx hb dX0_writeCall_82 (by decide) ?_
        refine lv_iload_n hx hb dX0_writeCall_84 rfl (lv_at hl 2 rfl) ?_
        refine yVv (As := [.int a3, .int 10, .int a1]) (cw := (cW o u cI cZ cJ T)) (ci := 0) S (v_X0_putNamed_52 l D cI cZ cJ o u T ra ga σ a3 10 a1 _ H.size hok) mi_X0_putNamed kw_2_122 rfl rfl ⟨Nat.le_of_ble_eq_true rfl, Nat.le_of_ble_eq_true rfl⟩ hP hD hK hS hA hB cW_52 rfl rfl hl.1 (Nat.le_of_ble_eq_true rfl) ⟨Nat.le_of_ble_eq_true rfl, Nat.le_of_ble_eq_true rfl⟩ dX0_writeCall_85 (fun σ18 H locs hok hz hP hD hS => ?_)
        refine lv_goto (tgt := 233) hx hb dX0_writeCall_88 (by decide) ?_
        exact yEndv S hr hlocks hP hD hS (Nat.le_of_ble_eq_true rfl) (Nat.le_of_ble_eq_true rfl) dX0_writeCall_233 hok
  · have hok := hok.1 c_11
    refine lv_iconst (v := 1) hx hb dX0_writeCall_14 (by decide) ?_
    refine lv_goto (tgt := 19) hx hb dX0_writeCall_15 (by decide) ?_
    refine lv_istore (lv' := [(4, .int 1), (0, .ref (u 51)), (1, .int a1), (2, .int a2), (3, .int a3)]) hx hb dX0_writeCall_19 hl (by decide) rfl (fun ls hl => ?_)
    refine lv_iload_n hx hb dX0_writeCall_21 rfl (lv_at hl 3 rfl) ?_
    refine lv_bipush (v := 8) hx hb dX0_writeCall_22 (by decide) ?_
    refine lv_icmp_ne (tgt := 74) hx hb dX0_writeCall_24 (by decide) (fun c_24 => ?_) (fun c_24 => ?_)
    · have hok := hok.2 c_24
      refine lv_iload_n hx hb dX0_writeCall_74 rfl (lv_at hl 3 rfl) ?_
      refine lv_bipush (v := 8) hx hb dX0_writeCall_75 (by decide) ?_
      refine lv_icmp_ne (tgt := 91) hx hb dX0_writeCall_77 (by decide) (fun c_77 => ?_) (fun c_77 => ?_)
      · have hok := hok.2 c_77
        refine lv_iload_n hx hb dX0_writeCall_91 rfl (lv_at hl 3 rfl) ?_
        refine lv_bipush (v := 10) hx hb dX0_writeCall_92 (by decide) ?_
        refine lv_icmp_ne (tgt := 117) hx hb dX0_writeCall_94 (by decide) (fun c_94 => ?_) (fun c_94 => ?_)
        · have hok := hok.2 c_94
          refine lv_iload_n hx hb dX0_writeCall_117 rfl (lv_at hl 3 rfl) ?_
          refine lv_bipush (v := 11) hx hb dX0_writeCall_118 (by decide) ?_
          refine lv_icmp_ne (tgt := 151) hx hb dX0_writeCall_120 (by decide) (fun c_120 => ?_) (fun c_120 => ?_)
          · have hok := hok.2 c_120
            refine lv_aload_n hx hb dX0_writeCall_151 rfl (lv_at hl 1 rfl) ?_
            refine xg (ci := 0) S inX0 rfl hK hP cW_52 2 (by decide) rfl kw_4_217 rfl dX0_writeCall_152 ?_
            refine xg (ci := 4) S inX4 rfl hK hP cW_20 10 (by decide) rfl kw_4_114 rfl dX0_writeCall_155 ?_
            refine lv_iload_n hx hb dX0_writeCall_158 rfl (lv_at hl 2 rfl) ?_
            have h_159 := hok.1
            have hok := hok.2
            refine xiald (t0 := 0) (v := (g σ 29 a1)) S hK hP cW_29 rfl h_159 rfl dX0_writeCall_159 ?_
            refine lv_iconst (v := 2) hx hb dX0_writeCall_160 (by decide) ?_
            refine lv_icmp_ne (tgt := 233) hx hb dX0_writeCall_161 (by decide) (fun c_161 => ?_) (fun c_161 => ?_)
            · have hok := hok.2 c_161
              exact yEndv S hr hlocks hP hD hS (Nat.le_of_ble_eq_true rfl) (Nat.le_of_ble_eq_true rfl) dX0_writeCall_233 hok
            · have hok := hok.1 c_161
              refine lv_aload_n hx hb dX0_writeCall_164 rfl (lv_at hl 1 rfl) ?_
              refine xg (ci := 0) S inX0 rfl hK hP cW_52 13 (by decide) rfl kw_5_2 rfl dX0_writeCall_165 ?_
              refine lv_iload_n hx hb dX0_writeCall_168 rfl (lv_at hl 2 rfl) ?_
              have h_169 := hok.1
              have hok := hok.2
              refine xiald (t0 := 0) (v := (g σ 61 a1)) S hK hP cW_61 rfl h_169 rfl dX0_writeCall_169 ?_
              refine lv_iconst (v := 1) hx hb dX0_writeCall_170 (by decide) ?_
              refine xiadd (v := (g σ 61 a1) + 1) S dX0_writeCall_171 rfl ?_
              refine lv_aload_n hx hb dX0_writeCall_172 rfl (lv_at hl 1 rfl) ?_
              refine xg (ci := 0) S inX0 rfl hK hP cW_52 14 (by decide) rfl kw_5_4 rfl dX0_writeCall_173 ?_
              refine lv_aload_n hx hb dX0_writeCall_176 rfl (lv_at hl 1 rfl) ?_
              refine xg (ci := 0) S inX0 rfl hK hP cW_52 1 (by decide) rfl kw_4_216 rfl dX0_writeCall_177 ?_
              refine xg (ci := 5) S inX5 rfl hK hP cW_13 3 (by decide) rfl kw_4_54 rfl dX0_writeCall_180 ?_
              refine lv_iload_n hx hb dX0_writeCall_183 rfl (lv_at hl 2 rfl) ?_
              have h_184 := hok.1
              have hok := hok.2
              refine xiald (t0 := 0) (v := (g σ 16 a1)) S hK hP cW_16 rfl h_184 rfl dX0_writeCall_184 ?_
              have h_185 := hok.1
              have hok := hok.2
              refine xiald (t0 := 0) (v := (g σ 62 (g σ 16 a1))) S hK hP cW_62 rfl h_185 rfl dX0_writeCall_185 ?_
              refine xiadd (v := ((g σ 61 a1) + 1) + (g σ 62 (g σ 16 a1))) S dX0_writeCall_186 rfl ?_
              refine lv_topi (fun x19 ex19 => ?_)
              have hok := hok x19 ex19
              refine lv_istore (lv' := [(5, .int x19), (4, .int 1), (0, .ref (u 51)), (1, .int a1), (2, .int a2), (3, .int a3)]) hx hb dX0_writeCall_187 hl (by decide) rfl (fun ls hl => ?_)
              refine lv_aload_n hx hb dX0_writeCall_189 rfl (lv_at hl 2 rfl) ?_
              refine lv_aload_n hx hb dX0_writeCall_190 rfl (lv_at hl 2 rfl) ?_
              refine xg (ci := 0) S inX0 rfl hK hP cW_52 13 (by decide) rfl kw_5_2 rfl dX0_writeCall_191 ?_
              refine lv_iload_n hx hb dX0_writeCall_194 rfl (lv_at hl 3 rfl) ?_
              have h_195 := hok.1
              have hok := hok.2
              refine xiald (t0 := 0) (v := (g σ 61 a1)) S hK hP cW_61 rfl h_195 rfl dX0_writeCall_195 ?_
              refine lv_bipush (v := 14) hx hb dX0_writeCall_196 (by decide) ?_
              refine lv_iload hx hb dX0_writeCall_198 (lv_at hl 0 rfl) ?_
              refine lv_iconst (v := 1) hx hb dX0_writeCall_200 (by decide) ?_
              refine xiadd (v := x19 + 1) S dX0_writeCall_201 rfl ?_
              refine lv_aload_n hx hb dX0_writeCall_202 rfl (lv_at hl 2 rfl) ?_
              refine xg (ci := 0) S inX0 rfl hK hP cW_52 5 (by decide) rfl kw_4_222 rfl dX0_writeCall_203 ?_
              refine lv_aload_n hx hb dX0_writeCall_206 rfl (lv_at hl 2 rfl) ?_
              refine xg (ci := 0) S inX0 rfl hK hP cW_52 2 (by decide) rfl kw_4_217 rfl dX0_writeCall_207 ?_
              refine xg (ci := 4) S inX4 rfl hK hP cW_20 2 (by decide) rfl kw_4_90 rfl dX0_writeCall_210 ?_
              refine lv_iload_n hx hb dX0_writeCall_213 rfl (lv_at hl 3 rfl) ?_
              have h_214 := hok.1
              have hok := hok.2
              refine xiald (t0 := 0) (v := (g σ 21 a1)) S hK hP cW_21 rfl h_214 rfl dX0_writeCall_214 ?_
              have h_215 := hok.1
              have hok := hok.2
              refine xiald (t0 := 0) (v := (g σ 53 (g σ 21 a1))) S hK hP cW_53 rfl h_215 rfl dX0_writeCall_215 ?_
              refine xisub (v := (x19 + 1) - (g σ 53 (g σ 21 a1))) S dX0_writeCall_216 rfl ?_
              refine lv_iconst (v := 0) hx hb dX0_writeCall_217 (by decide) ?_
              refine lv_iload_n hx hb dX0_writeCall_218 rfl (lv_at hl 3 rfl) ?_
              refine yVv (As := [.int (g σ 61 a1), .int 14, .int ((x19 + 1) - (g σ 53 (g σ 21 a1))), .int 0, .int a1]) (cw := (cW o u cI cZ cJ T)) (ci := 0) S (v_X0_put_52 l D cI cZ cJ o u T ra ga σ (g σ 61 a1) 14 ((x19 + 1) - (g σ 53 (g σ 21 a1))) 0 a1 _ H.size hok) mi_X0_put kw_2_90 rfl rfl ⟨Nat.le_of_ble_eq_true rfl, Nat.le_of_ble_eq_true rfl⟩ hP hD hK hS hA hB cW_52 rfl rfl hl.1 (Nat.le_of_ble_eq_true rfl) ⟨Nat.le_of_ble_eq_true rfl, Nat.le_of_ble_eq_true rfl⟩ dX0_writeCall_219 (fun σ20 H locs hok hz hP hD hS => ?_)
              refine lv_aload_n hx hb dX0_writeCall_222 rfl (lv_at hl 2 rfl) ?_
              refine lv_iload hx hb dX0_writeCall_223 (lv_at hl 0 rfl) ?_
              refine lv_bipush (v := 15) hx hb dX0_writeCall_225 (by decide) ?_
              refine lv_iconst (v := 0) hx hb dX0_writeCall_227 (by decide) ?_
              refine lv_iconst (v := 0) hx hb dX0_writeCall_228 (by decide) ?_
              refine lv_iload_n hx hb dX0_writeCall_229 rfl (lv_at hl 3 rfl) ?_
              refine yVv (As := [.int x19, .int 15, .int 0, .int 0, .int a1]) (cw := (cW o u cI cZ cJ T)) (ci := 0) S (v_X0_put_52 l D cI cZ cJ o u T ra ga σ20 x19 15 0 0 a1 _ H.size hok) mi_X0_put kw_2_90 rfl rfl ⟨Nat.le_of_ble_eq_true rfl, Nat.le_of_ble_eq_true rfl⟩ hP hD hK hS hA hB cW_52 rfl rfl hl.1 (Nat.le_of_ble_eq_true rfl) ⟨Nat.le_of_ble_eq_true rfl, Nat.le_of_ble_eq_true rfl⟩ dX0_writeCall_230 (fun σ21 H locs hok hz hP hD hS => ?_)
              exact yEndv S hr hlocks hP hD hS (Nat.le_of_ble_eq_true rfl) (Nat.le_of_ble_eq_true rfl) dX0_writeCall_233 hok
          · have hok := hok.1 c_120
            refine lv_aload_n hx hb dX0_writeCall_123 rfl (lv_at hl 1 rfl) ?_
            refine lv_iload_n hx hb dX0_writeCall_124 rfl (lv_at hl 4 rfl) ?_
            refine lv_aload_n hx hb dX0_writeCall_125 rfl (lv_at hl 1 rfl) ?_
            refine xg (ci := 0) S inX0 rfl hK hP cW_52 2 (by decide) rfl kw_4_217 rfl dX0_writeCall_126 ?_
            refine lv_iload_n hx hb dX0_writeCall_129 rfl (lv_at hl 2 rfl) ?_
            refine yVi (As := [.int a1]) (cw := (cW o u cI cZ cJ T)) (ci := 4) S (v_X4_modeOfPart l D cI cZ cJ o u T ra ga σ a1 _ H.size hok) mi_X4_modeOfPart kw_2_118 rfl rfl ⟨Nat.le_of_ble_eq_true rfl, Nat.le_of_ble_eq_true rfl⟩ hP hD hK hS hA hB cW_20 rfl rfl hl.1 (Nat.le_of_ble_eq_true rfl) ⟨Nat.le_of_ble_eq_true rfl, Nat.le_of_ble_eq_true rfl⟩ dX0_writeCall_130 (fun x23 σ22 H locs hok hz hP hD hS => ?_)
            refine lv_iconst (v := 3) hx hb dX0_writeCall_133 (by decide) ?_
            refine lv_icmp_ne (tgt := 142) hx hb dX0_writeCall_134 (by decide) (fun c_134 => ?_) (fun c_134 => ?_)
            · have hok := hok.2 c_134
              refine lv_bipush (v := 17) hx hb dX0_writeCall_142 (by decide) ?_
              refine lv_iload_n hx hb dX0_writeCall_144 rfl (lv_at hl 2 rfl) ?_
              refine yVv (As := [.int a3, .int 17, .int a1]) (cw := (cW o u cI cZ cJ T)) (ci := 0) S (v_X0_putNamed_52 l D cI cZ cJ o u T ra ga σ22 a3 17 a1 _ H.size hok) mi_X0_putNamed kw_2_122 rfl rfl ⟨Nat.le_of_ble_eq_true rfl, Nat.le_of_ble_eq_true rfl⟩ hP hD hK hS hA hB cW_52 rfl rfl hl.1 (Nat.le_of_ble_eq_true rfl) ⟨Nat.le_of_ble_eq_true rfl, Nat.le_of_ble_eq_true rfl⟩ dX0_writeCall_145 (fun σ24 H locs hok hz hP hD hS => ?_)
              refine lv_goto (tgt := 233) hx hb dX0_writeCall_148 (by decide) ?_
              exact yEndv S hr hlocks hP hD hS (Nat.le_of_ble_eq_true rfl) (Nat.le_of_ble_eq_true rfl) dX0_writeCall_233 hok
            · have hok := hok.1 c_134
              refine lv_bipush (v := 16) hx hb dX0_writeCall_137 (by decide) ?_
              refine lv_goto (tgt := 144) hx hb dX0_writeCall_139 (by decide) ?_
              refine lv_iload_n hx hb dX0_writeCall_144 rfl (lv_at hl 2 rfl) ?_
              refine yVv (As := [.int a3, .int 16, .int a1]) (cw := (cW o u cI cZ cJ T)) (ci := 0) S (v_X0_putNamed_52 l D cI cZ cJ o u T ra ga σ22 a3 16 a1 _ H.size hok) mi_X0_putNamed kw_2_122 rfl rfl ⟨Nat.le_of_ble_eq_true rfl, Nat.le_of_ble_eq_true rfl⟩ hP hD hK hS hA hB cW_52 rfl rfl hl.1 (Nat.le_of_ble_eq_true rfl) ⟨Nat.le_of_ble_eq_true rfl, Nat.le_of_ble_eq_true rfl⟩ dX0_writeCall_145 (fun σ25 H locs hok hz hP hD hS => ?_)
              refine lv_goto (tgt := 233) hx hb dX0_writeCall_148 (by decide) ?_
              exact yEndv S hr hlocks hP hD hS (Nat.le_of_ble_eq_true rfl) (Nat.le_of_ble_eq_true rfl) dX0_writeCall_233 hok
        · have hok := hok.1 c_94
          refine lv_aload_n hx hb dX0_writeCall_97 rfl (lv_at hl 1 rfl) ?_
          refine lv_iload_n hx hb dX0_writeCall_98 rfl (lv_at hl 4 rfl) ?_
          refine lv_iload hx hb dX0_writeCall_99 (lv_at hl 0 rfl) ?_
          refine lv_if_eq (tgt := 109) hx hb dX0_writeCall_101 (by decide) (fun c => absurd c (by decide)) (fun _ => ?_)
          refine lv_bipush (v := 18) hx hb dX0_writeCall_104 (by decide) ?_
          refine lv_goto (tgt := 110) hx hb dX0_writeCall_106 (by decide) ?_
          refine lv_iload_n hx hb dX0_writeCall_110 rfl (lv_at hl 2 rfl) ?_
          refine yVv (As := [.int a3, .int 18, .int a1]) (cw := (cW o u cI cZ cJ T)) (ci := 0) S (v_X0_putNamed_52 l D cI cZ cJ o u T ra ga σ a3 18 a1 _ H.size hok) mi_X0_putNamed kw_2_122 rfl rfl ⟨Nat.le_of_ble_eq_true rfl, Nat.le_of_ble_eq_true rfl⟩ hP hD hK hS hA hB cW_52 rfl rfl hl.1 (Nat.le_of_ble_eq_true rfl) ⟨Nat.le_of_ble_eq_true rfl, Nat.le_of_ble_eq_true rfl⟩ dX0_writeCall_111 (fun σ26 H locs hok hz hP hD hS => ?_)
          refine lv_goto (tgt := 233) hx hb dX0_writeCall_114 (by decide) ?_
          exact yEndv S hr hlocks hP hD hS (Nat.le_of_ble_eq_true rfl) (Nat.le_of_ble_eq_true rfl) dX0_writeCall_233 hok
      · have hok := hok.1 c_77
        refine lv_aload_n hx hb dX0_writeCall_80 rfl (lv_at hl 1 rfl) ?_
        refine lv_iload_n hx hb dX0_writeCall_81 rfl (lv_at hl 4 rfl) ?_
        refine lv_bipush (v := 10) hx hb dX0_writeCall_82 (by decide) ?_
        refine lv_iload_n hx hb dX0_writeCall_84 rfl (lv_at hl 2 rfl) ?_
        refine yVv (As := [.int a3, .int 10, .int a1]) (cw := (cW o u cI cZ cJ T)) (ci := 0) S (v_X0_putNamed_52 l D cI cZ cJ o u T ra ga σ a3 10 a1 _ H.size hok) mi_X0_putNamed kw_2_122 rfl rfl ⟨Nat.le_of_ble_eq_true rfl, Nat.le_of_ble_eq_true rfl⟩ hP hD hK hS hA hB cW_52 rfl rfl hl.1 (Nat.le_of_ble_eq_true rfl) ⟨Nat.le_of_ble_eq_true rfl, Nat.le_of_ble_eq_true rfl⟩ dX0_writeCall_85 (fun σ27 H locs hok hz hP hD hS => ?_)
        refine lv_goto (tgt := 233) hx hb dX0_writeCall_88 (by decide) ?_
        exact yEndv S hr hlocks hP hD hS (Nat.le_of_ble_eq_true rfl) (Nat.le_of_ble_eq_true rfl) dX0_writeCall_233 hok
    · have hok := hok.1 c_24
      refine lv_iload hx hb dX0_writeCall_27 (lv_at hl 0 rfl) ?_
      refine lv_if_eq (tgt := 74) hx hb dX0_writeCall_29 (by decide) (fun c => absurd c (by decide)) (fun _ => ?_)
      refine lv_aload_n hx hb dX0_writeCall_32 rfl (lv_at hl 1 rfl) ?_
      refine xg (ci := 0) S inX0 rfl hK hP cW_52 1 (by decide) rfl kw_4_216 rfl dX0_writeCall_33 ?_
      refine xg (ci := 5) S inX5 rfl hK hP cW_13 5 (by decide) rfl kw_4_62 rfl dX0_writeCall_36 ?_
      refine lv_iload_n hx hb dX0_writeCall_39 rfl (lv_at hl 2 rfl) ?_
      have h_40 := hok.1
      have hok := hok.2
      refine xiald (t0 := 0) (v := (g σ 18 a1)) S hK hP cW_18 rfl h_40 rfl dX0_writeCall_40 ?_
      refine lv_topi (fun x28 ex28 => ?_)
      have hok := hok x28 ex28
      refine lv_istore (lv' := [(5, .int x28), (4, .int 1), (0, .ref (u 51)), (1, .int a1), (2, .int a2), (3, .int a3)]) hx hb dX0_writeCall_41 hl (by decide) rfl (fun ls hl => ?_)
      refine lv_aload_n hx hb dX0_writeCall_43 rfl (lv_at hl 2 rfl) ?_
      refine lv_iload_n hx hb dX0_writeCall_44 rfl (lv_at hl 5 rfl) ?_
      refine lv_iload hx hb dX0_writeCall_45 (lv_at hl 0 rfl) ?_
      refine lv_iconst (v := (-1)) hx hb dX0_writeCall_47 (by decide) ?_
      refine lv_icmp_eq (tgt := 65) hx hb dX0_writeCall_48 (by decide) (fun c_48 => ?_) (fun c_48 => ?_)
      · have hok := hok.1 c_48
        refine lv_bipush (v := 9) hx hb dX0_writeCall_65 (by decide) ?_
        refine lv_iload_n hx hb dX0_writeCall_67 rfl (lv_at hl 3 rfl) ?_
        refine yVv (As := [.int a3, .int 9, .int a1]) (cw := (cW o u cI cZ cJ T)) (ci := 0) S (v_X0_putNamed_52 l D cI cZ cJ o u T ra ga σ a3 9 a1 _ H.size hok) mi_X0_putNamed kw_2_122 rfl rfl ⟨Nat.le_of_ble_eq_true rfl, Nat.le_of_ble_eq_true rfl⟩ hP hD hK hS hA hB cW_52 rfl rfl hl.1 (Nat.le_of_ble_eq_true rfl) ⟨Nat.le_of_ble_eq_true rfl, Nat.le_of_ble_eq_true rfl⟩ dX0_writeCall_68 (fun σ29 H locs hok hz hP hD hS => ?_)
        refine lv_goto (tgt := 233) hx hb dX0_writeCall_71 (by decide) ?_
        exact yEndv S hr hlocks hP hD hS (Nat.le_of_ble_eq_true rfl) (Nat.le_of_ble_eq_true rfl) dX0_writeCall_233 hok
      · have hok := hok.2 c_48
        refine lv_aload_n hx hb dX0_writeCall_51 rfl (lv_at hl 2 rfl) ?_
        refine lv_iload hx hb dX0_writeCall_52 (lv_at hl 0 rfl) ?_
        refine yVi (As := [.int x28]) (cw := (cW o u cI cZ cJ T)) (ci := 0) S (v_X0_isJump_52 l D cI cZ cJ o u T ra ga σ x28 _ H.size hok) mi_X0_isJump kw_2_78 rfl rfl ⟨Nat.le_of_ble_eq_true rfl, Nat.le_of_ble_eq_true rfl⟩ hP hD hK hS hA hB cW_52 rfl rfl hl.1 (Nat.le_of_ble_eq_true rfl) ⟨Nat.le_of_ble_eq_true rfl, Nat.le_of_ble_eq_true rfl⟩ dX0_writeCall_54 (fun x31 σ30 H locs hok hz hP hD hS => ?_)
        refine lv_if_eq (tgt := 65) hx hb dX0_writeCall_57 (by decide) (fun c_57 => ?_) (fun c_57 => ?_)
        · have hok := hok.1 c_57
          refine lv_bipush (v := 9) hx hb dX0_writeCall_65 (by decide) ?_
          refine lv_iload_n hx hb dX0_writeCall_67 rfl (lv_at hl 3 rfl) ?_
          refine yVv (As := [.int a3, .int 9, .int a1]) (cw := (cW o u cI cZ cJ T)) (ci := 0) S (v_X0_putNamed_52 l D cI cZ cJ o u T ra ga σ30 a3 9 a1 _ H.size hok) mi_X0_putNamed kw_2_122 rfl rfl ⟨Nat.le_of_ble_eq_true rfl, Nat.le_of_ble_eq_true rfl⟩ hP hD hK hS hA hB cW_52 rfl rfl hl.1 (Nat.le_of_ble_eq_true rfl) ⟨Nat.le_of_ble_eq_true rfl, Nat.le_of_ble_eq_true rfl⟩ dX0_writeCall_68 (fun σ32 H locs hok hz hP hD hS => ?_)
          refine lv_goto (tgt := 233) hx hb dX0_writeCall_71 (by decide) ?_
          exact yEndv S hr hlocks hP hD hS (Nat.le_of_ble_eq_true rfl) (Nat.le_of_ble_eq_true rfl) dX0_writeCall_233 hok
        · have hok := hok.2 c_57
          refine lv_bipush (v := 11) hx hb dX0_writeCall_60 (by decide) ?_
          refine lv_goto (tgt := 67) hx hb dX0_writeCall_62 (by decide) ?_
          refine lv_iload_n hx hb dX0_writeCall_67 rfl (lv_at hl 3 rfl) ?_
          refine yVv (As := [.int a3, .int 11, .int a1]) (cw := (cW o u cI cZ cJ T)) (ci := 0) S (v_X0_putNamed_52 l D cI cZ cJ o u T ra ga σ30 a3 11 a1 _ H.size hok) mi_X0_putNamed kw_2_122 rfl rfl ⟨Nat.le_of_ble_eq_true rfl, Nat.le_of_ble_eq_true rfl⟩ hP hD hK hS hA hB cW_52 rfl rfl hl.1 (Nat.le_of_ble_eq_true rfl) ⟨Nat.le_of_ble_eq_true rfl, Nat.le_of_ble_eq_true rfl⟩ dX0_writeCall_68 (fun σ33 H locs hok hz hP hD hS => ?_)
          refine lv_goto (tgt := 233) hx hb dX0_writeCall_71 (by decide) ?_
          exact yEndv S hr hlocks hP hD hS (Nat.le_of_ble_eq_true rfl) (Nat.le_of_ble_eq_true rfl) dX0_writeCall_233 hok
