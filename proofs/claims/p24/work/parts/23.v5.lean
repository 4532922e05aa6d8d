set_option maxHeartbeats 8000000 in
set_option maxRecDepth 100000 in
theorem v_X0_writeExpression_52 (l : Launch) (D : va_G) (cI cZ cJ : ClassId) (o : Nat) (u : Nat → Nat) (T : Nat) (ra : Nat → Nat) (ga : SG) (σ : FS) (a1 : Int32) (a2 : Int32) (a3 : Int32) (Φ : FS → Prop) (sz : Nat) (hok : (wp_X0_writeExpression 52 σ a1 a2 a3 Φ)) : Met l yX0_writeExpression (uW yX0_writeExpression cX0_writeExpression 5 none) ({ frames := 2, cells := 0, slots := 0, locals := 48 }) (va_Pc [.ref (u 51), .int a1, .int a2, .int a3] (aS ra ga D (tyL cI cZ cJ) (cW o u cI cZ cJ T σ) sz)) (yQv Φ D (cW o u cI cZ cJ T) (va_A (cW o u cI cZ cJ T σ) sz)) 0 0 (va_A (cW o u cI cZ cJ T σ) sz) := by
  refine aStart (lv := [(0, .ref (u 51)), (1, .int a1), (2, .int a2), (3, .int a3)]) (Qc := fun A => yQv Φ D (cW o u cI cZ cJ T) A) (by decide) (Nat.le_of_ble_eq_true rfl) rfl ?_
  intro p e s m args below meth c ls A H S hr hlocks hnm hl hK hP hD hS hA hB
  have hx := S.1
  have hb := S.2.1
  refine lv_aload_n hx hb dX0_writeExpression_0 rfl (lv_at hl 0 rfl) ?_
  refine xg (ci := 0) S inX0 rfl hK hP cW_52 2 (by decide) rfl kw_4_217 rfl dX0_writeExpression_1 ?_
  refine lv_iload_n hx hb dX0_writeExpression_4 rfl (lv_at hl 1 rfl) ?_
  refine yVi (As := [.int a1]) (cw := (cW o u cI cZ cJ T)) (ci := 4) S (v_X4_modeOfPart l D cI cZ cJ o u T ra ga σ a1 _ H.size hok) mi_X4_modeOfPart kw_2_118 rfl rfl ⟨Nat.le_of_ble_eq_true rfl, Nat.le_of_ble_eq_true rfl⟩ hP hD hK hS hA hB cW_20 rfl rfl hl.1 (Nat.le_of_ble_eq_true rfl) ⟨Nat.le_of_ble_eq_true rfl, Nat.le_of_ble_eq_true rfl⟩ dX0_writeExpression_5 (fun x2 σ1 H locs hok hz hP hD hS => ?_)
  refine lv_iconst (v := 1) hx hb dX0_writeExpression_8 (by decide) ?_
  refine lv_icmp_ne (tgt := 16) hx hb dX0_writeExpression_9 (by decide) (fun c_9 => ?_) (fun c_9 => ?_)
  · have hok := hok.2 c_9
    refine lv_iconst (v := 0) hx hb dX0_writeExpression_16 (by decide) ?_
    refine lv_istore (lv' := [(4, .int 0), (0, .ref (u 51)), (1, .int a1), (2, .int a2), (3, .int a3)]) hx hb dX0_writeExpression_17 hl (by decide) rfl (fun ls hl => ?_)
    refine lv_iload_n hx hb dX0_writeExpression_19 rfl (lv_at hl 3 rfl) ?_
    refine lv_if_ne (tgt := 43) hx hb dX0_writeExpression_20 (by decide) (fun c_20 => ?_) (fun c_20 => ?_)
    · have hok := hok.2 c_20
      refine lv_iload_n hx hb dX0_writeExpression_43 rfl (lv_at hl 3 rfl) ?_
      refine lv_iconst (v := 1) hx hb dX0_writeExpression_44 (by decide) ?_
      refine lv_icmp_ne (tgt := 82) hx hb dX0_writeExpression_45 (by decide) (fun c_45 => ?_) (fun c_45 => ?_)
      · have hok := hok.2 c_45
        refine lv_iload_n hx hb dX0_writeExpression_82 rfl (lv_at hl 3 rfl) ?_
        refine lv_iconst (v := 1) hx hb dX0_writeExpression_83 (by decide) ?_
        refine lv_icmp_ne (tgt := 107) hx hb dX0_writeExpression_84 (by decide) (fun c_84 => ?_) (fun c_84 => ?_)
        · have hok := hok.2 c_84
          refine lv_iload_n hx hb dX0_writeExpression_107 rfl (lv_at hl 3 rfl) ?_
          refine lv_iconst (v := 2) hx hb dX0_writeExpression_108 (by decide) ?_
          refine lv_icmp_ne (tgt := 132) hx hb dX0_writeExpression_109 (by decide) (fun c_109 => ?_) (fun c_109 => ?_)
          · have hok := hok.2 c_109
            refine lv_aload_n hx hb dX0_writeExpression_132 rfl (lv_at hl 1 rfl) ?_
            refine lv_iload_n hx hb dX0_writeExpression_133 rfl (lv_at hl 4 rfl) ?_
            refine lv_iload_n hx hb dX0_writeExpression_134 rfl (lv_at hl 3 rfl) ?_
            refine lv_iconst (v := 1) hx hb dX0_writeExpression_135 (by decide) ?_
            refine xiadd (v := a2 + 1) S dX0_writeExpression_136 rfl ?_
            refine lv_iconst (v := 0) hx hb dX0_writeExpression_137 (by decide) ?_
            refine lv_iconst (v := 0) hx hb dX0_writeExpression_138 (by decide) ?_
            refine lv_iload_n hx hb dX0_writeExpression_139 rfl (lv_at hl 2 rfl) ?_
            refine yVv (As := [.int a3, .int (a2 + 1), .int 0, .int 0, .int a1]) (cw := (cW o u cI cZ cJ T)) (ci := 0) S (v_X0_put_52 l D cI cZ cJ o u T ra ga σ1 a3 (a2 + 1) 0 0 a1 _ H.size hok) mi_X0_put kw_2_90 rfl rfl ⟨Nat.le_of_ble_eq_true rfl, Nat.le_of_ble_eq_true rfl⟩ hP hD hK hS hA hB cW_52 rfl rfl hl.1 (Nat.le_of_ble_eq_true rfl) ⟨Nat.le_of_ble_eq_true rfl, Nat.le_of_ble_eq_true rfl⟩ dX0_writeExpression_140 (fun σ3 H locs hok hz hP hD hS => ?_)
            exact yEndv S hr hlocks hP hD hS (Nat.le_of_ble_eq_true rfl) (Nat.le_of_ble_eq_true rfl) dX0_writeExpression_143 hok
          · have hok := hok.1 c_109
            refine lv_aload_n hx hb dX0_writeExpression_112 rfl (lv_at hl 1 rfl) ?_
            refine lv_iload_n hx hb dX0_writeExpression_113 rfl (lv_at hl 4 rfl) ?_
            refine lv_iload hx hb dX0_writeExpression_114 (lv_at hl 0 rfl) ?_
            refine lv_if_eq (tgt := 124) hx hb dX0_writeExpression_116 (by decide) (fun _ => ?_) (fun c => absurd c (by decide))
            refine lv_iconst (v := 3) hx hb dX0_writeExpression_124 (by decide) ?_
            refine lv_iload_n hx hb dX0_writeExpression_125 rfl (lv_at hl 2 rfl) ?_
            refine yVv (As := [.int a3, .int 3, .int a1]) (cw := (cW o u cI cZ cJ T)) (ci := 0) S (v_X0_putNamed_52 l D cI cZ cJ o u T ra ga σ1 a3 3 a1 _ H.size hok) mi_X0_putNamed kw_2_122 rfl rfl ⟨Nat.le_of_ble_eq_true rfl, Nat.le_of_ble_eq_true rfl⟩ hP hD hK hS hA hB cW_52 rfl rfl hl.1 (Nat.le_of_ble_eq_true rfl) ⟨Nat.le_of_ble_eq_true rfl, Nat.le_of_ble_eq_true rfl⟩ dX0_writeExpression_126 (fun σ4 H locs hok hz hP hD hS => ?_)
            refine lv_goto (tgt := 143) hx hb dX0_writeExpression_129 (by decide) ?_
            exact yEndv S hr hlocks hP hD hS (Nat.le_of_ble_eq_true rfl) (Nat.le_of_ble_eq_true rfl) dX0_writeExpression_143 hok
        · have hok := hok.1 c_84
          refine lv_aload_n hx hb dX0_writeExpression_87 rfl (lv_at hl 1 rfl) ?_
          refine lv_iload_n hx hb dX0_writeExpression_88 rfl (lv_at hl 4 rfl) ?_
          refine lv_iload hx hb dX0_writeExpression_89 (lv_at hl 0 rfl) ?_
          refine lv_if_eq (tgt := 99) hx hb dX0_writeExpression_91 (by decide) (fun _ => ?_) (fun c => absurd c (by decide))
          refine lv_iconst (v := 2) hx hb dX0_writeExpression_99 (by decide) ?_
          refine lv_iload_n hx hb dX0_writeExpression_100 rfl (lv_at hl 2 rfl) ?_
          refine yVv (As := [.int a3, .int 2, .int a1]) (cw := (cW o u cI cZ cJ T)) (ci := 0) S (v_X0_putNamed_52 l D cI cZ cJ o u T ra ga σ1 a3 2 a1 _ H.size hok) mi_X0_putNamed kw_2_122 rfl rfl ⟨Nat.le_of_ble_eq_true rfl, Nat.le_of_ble_eq_true rfl⟩ hP hD hK hS hA hB cW_52 rfl rfl hl.1 (Nat.le_of_ble_eq_true rfl) ⟨Nat.le_of_ble_eq_true rfl, Nat.le_of_ble_eq_true rfl⟩ dX0_writeExpression_101 (fun σ5 H locs hok hz hP hD hS => ?_)
          refine lv_goto (tgt := 143) hx hb dX0_writeExpression_104 (by decide) ?_
          exact yEndv S hr hlocks hP hD hS (Nat.le_of_ble_eq_true rfl) (Nat.le_of_ble_eq_true rfl) dX0_writeExpression_143 hok
      · have hok := hok.1 c_45
        refine lv_aload_n hx hb dX0_writeExpression_48 rfl (lv_at hl 1 rfl) ?_
        refine xg (ci := 0) S inX0 rfl hK hP cW_52 2 (by decide) rfl kw_4_217 rfl dX0_writeExpression_49 ?_
        refine xg (ci := 4) S inX4 rfl hK hP cW_20 5 (by decide) rfl kw_4_100 rfl dX0_writeExpression_52 ?_
        refine lv_iload_n hx hb dX0_writeExpression_55 rfl (lv_at hl 2 rfl) ?_
        have h_56 := hok.1
        have hok := hok.2
        refine xiald (t0 := 0) (v := (g σ1 24 a1)) S hK hP cW_24 rfl h_56 rfl dX0_writeExpression_56 ?_
        refine lv_bipush (v := 9) hx hb dX0_writeExpression_57 (by decide) ?_
        refine lv_icmp_ne (tgt := 82) hx hb dX0_writeExpression_59 (by decide) (fun c_59 => ?_) (fun c_59 => ?_)
        · have hok := hok.2 c_59
          refine lv_iload_n hx hb dX0_writeExpression_82 rfl (lv_at hl 3 rfl) ?_
          refine lv_iconst (v := 1) hx hb dX0_writeExpression_83 (by decide) ?_
          refine lv_icmp_ne (tgt := 107) hx hb dX0_writeExpression_84 (by decide) (fun c_84 => ?_) (fun c_84 => ?_)
          · have hok := hok.2 c_84
            refine lv_iload_n hx hb dX0_writeExpression_107 rfl (lv_at hl 3 rfl) ?_
            refine lv_iconst (v := 2) hx hb dX0_writeExpression_108 (by decide) ?_
            refine lv_icmp_ne (tgt := 132) hx hb dX0_writeExpression_109 (by decide) (fun c_109 => ?_) (fun c_109 => ?_)
            · have hok := hok.2 c_109
              refine lv_aload_n hx hb dX0_writeExpression_132 rfl (lv_at hl 1 rfl) ?_
              refine lv_iload_n hx hb dX0_writeExpression_133 rfl (lv_at hl 4 rfl) ?_
              refine lv_iload_n hx hb dX0_writeExpression_134 rfl (lv_at hl 3 rfl) ?_
              refine lv_iconst (v := 1) hx hb dX0_writeExpression_135 (by decide) ?_
              refine xiadd (v := a2 + 1) S dX0_writeExpression_136 rfl ?_
              refine lv_iconst (v := 0) hx hb dX0_writeExpression_137 (by decide) ?_
              refine lv_iconst (v := 0) hx hb dX0_writeExpression_138 (by decide) ?_
              refine lv_iload_n hx hb dX0_writeExpression_139 rfl (lv_at hl 2 rfl) ?_
              refine yVv (As := [.int a3, .int (a2 + 1), .int 0, .int 0, .int a1]) (cw := (cW o u cI cZ cJ T)) (ci := 0) S (v_X0_put_52 l D cI cZ cJ o u T ra ga σ1 a3 (a2 + 1) 0 0 a1 _ H.size hok) mi_X0_put kw_2_90 rfl rfl ⟨Nat.le_of_ble_eq_true rfl, Nat.le_of_ble_eq_true rfl⟩ hP hD hK hS hA hB cW_52 rfl rfl hl.1 (Nat.le_of_ble_eq_true rfl) ⟨Nat.le_of_ble_eq_true rfl, Nat.le_of_ble_eq_true rfl⟩ dX0_writeExpression_140 (fun σ6 H locs hok hz hP hD hS => ?_)
              exact yEndv S hr hlocks hP hD hS (Nat.le_of_ble_eq_true rfl) (Nat.le_of_ble_eq_true rfl) dX0_writeExpression_143 hok
            · have hok := hok.1 c_109
              refine lv_aload_n hx hb dX0_writeExpression_112 rfl (lv_at hl 1 rfl) ?_
              refine lv_iload_n hx hb dX0_writeExpression_113 rfl (lv_at hl 4 rfl) ?_
              refine lv_iload hx hb dX0_writeExpression_114 (lv_at hl 0 rfl) ?_
              refine lv_if_eq (tgt := 124) hx hb dX0_writeExpression_116 (by decide) (fun _ => ?_) (fun c => absurd c (by decide))
              refine lv_iconst (v := 3) hx hb dX0_writeExpression_124 (by decide) ?_
              refine lv_iload_n hx hb dX0_writeExpression_125 rfl (lv_at hl 2 rfl) ?_
              refine yVv (As := [.int a3, .int 3, .int a1]) (cw := (cW o u cI cZ cJ T)) (ci := 0) S (v_X0_putNamed_52 l D cI cZ cJ o u T ra ga σ1 a3 3 a1 _ H.size hok) mi_X0_putNamed kw_2_122 rfl rfl ⟨Nat.le_of_ble_eq_true rfl, Nat.le_of_ble_eq_true rfl⟩ hP hD hK hS hA hB cW_52 rfl rfl hl.1 (Nat.le_of_ble_eq_true rfl) ⟨Nat.le_of_ble_eq_true rfl, Nat.le_of_ble_eq_true rfl⟩ dX0_writeExpression_126 (fun σ7 H locs hok hz hP hD hS => ?_)
              refine lv_goto (tgt := 143) hx hb dX0_writeExpression_129 (by decide) ?_
              exact yEndv S hr hlocks hP hD hS (Nat.le_of_ble_eq_true rfl) (Nat.le_of_ble_eq_true rfl) dX0_writeExpression_143 hok
          · have hok := hok.1 c_84
            refine lv_aload_n hx hb dX0_writeExpression_87 rfl (lv_at hl 1 rfl) ?_
            refine lv_iload_n hx hb dX0_writeExpression_88 rfl (lv_at hl 4 rfl) ?_
            refine lv_iload hx hb dX0_writeExpression_89 (lv_at hl 0 rfl) ?_
            refine lv_if_eq (tgt := 99) hx hb dX0_writeExpression_91 (by decide) (fun _ => ?_) (fun c => absurd c (by decide))
            refine lv_iconst (v := 2) hx hb dX0_writeExpression_99 (by decide) ?_
            refine lv_iload_n hx hb dX0_writeExpression_100 rfl (lv_at hl 2 rfl) ?_
            refine yVv (As := [.int a3, .int 2, .int a1]) (cw := (cW o u cI cZ cJ T)) (ci := 0) S (v_X0_putNamed_52 l D cI cZ cJ o u T ra ga σ1 a3 2 a1 _ H.size hok) mi_X0_putNamed kw_2_122 rfl rfl ⟨Nat.le_of_ble_eq_true rfl, Nat.le_of_ble_eq_true rfl⟩ hP hD hK hS hA hB cW_52 rfl rfl hl.1 (Nat.le_of_ble_eq_true rfl) ⟨Nat.le_of_ble_eq_true rfl, Nat.le_of_ble_eq_true rfl⟩ dX0_writeExpression_101 (fun σ8 H locs hok hz hP hD hS => ?_)
            refine lv_goto (tgt := 143) hx hb dX0_writeExpression_104 (by decide) ?_
            exact yEndv S hr hlocks hP hD hS (Nat.le_of_ble_eq_true rfl) (Nat.le_of_ble_eq_true rfl) dX0_writeExpression_143 hok
        · have hok := hok.1 c_59
          refine lv_aload_n hx hb dX0_writeExpression_62 rfl (lv_at hl 1 rfl) ?_
          refine lv_iload_n hx hb dX0_writeExpression_63 rfl (lv_at hl 4 rfl) ?_
          refine lv_iconst (v := 1) hx hb dX0_writeExpression_64 (by decide) ?_
          refine lv_aload_n hx hb dX0_writeExpression_65 rfl (lv_at hl 1 rfl) ?_
          refine xg (ci := 0) S inX0 rfl hK hP cW_52 2 (by decide) rfl kw_4_217 rfl dX0_writeExpression_66 ?_
          refine xg (ci := 4) S inX4 rfl hK hP cW_20 6 (by decide) rfl kw_4_103 rfl dX0_writeExpression_69 ?_
          refine lv_iload_n hx hb dX0_writeExpression_72 rfl (lv_at hl 2 rfl) ?_
          have h_73 := hok.1
          have hok := hok.2
          refine xiald (t0 := 0) (v := (g σ1 25 a1)) S hK hP cW_25 rfl h_73 rfl dX0_writeExpression_73 ?_
          refine lv_iconst (v := 0) hx hb dX0_writeExpression_74 (by decide) ?_
          refine lv_iload_n hx hb dX0_writeExpression_75 rfl (lv_at hl 2 rfl) ?_
          refine yVv (As := [.int a3, .int 1, .int (g σ1 25 a1), .int 0, .int a1]) (cw := (cW o u cI cZ cJ T)) (ci := 0) S (v_X0_put_52 l D cI cZ cJ o u T ra ga σ1 a3 1 (g σ1 25 a1) 0 a1 _ H.size hok) mi_X0_put kw_2_90 rfl rfl ⟨Nat.le_of_ble_eq_true rfl, Nat.le_of_ble_eq_true rfl⟩ hP hD hK hS hA hB cW_52 rfl rfl hl.1 (Nat.le_of_ble_eq_true rfl) ⟨Nat.le_of_ble_eq_true rfl, Nat.le_of_ble_eq_true rfl⟩ dX0_writeExpression_76 (fun σ9 H locs hok hz hP hD hS => ?_)
          refine lv_goto (tgt := 143) hx hb dX0_writeExpression_79 (by decide) ?_
          exact yEndv S hr hlocks hP hD hS (Nat.le_of_ble_eq_true rfl) (Nat.le_of_ble_eq_true rfl) dX0_writeExpression_143 hok
    · have hok := hok.1 c_20
      refine lv_aload_n hx hb dX0_writeExpression_23 rfl (lv_at hl 1 rfl) ?_
      refine lv_iload_n hx hb dX0_writeExpression_24 rfl (lv_at hl 4 rfl) ?_
      refine lv_iconst (v := 1) hx hb dX0_writeExpression_25 (by decide) ?_
      refine lv_aload_n hx hb dX0_writeExpression_26 rfl (lv_at hl 1 rfl) ?_
      refine xg (ci := 0) S inX0 rfl hK hP cW_52 1 (by decide) rfl kw_4_216 rfl dX0_writeExpression_27 ?_
      refine xg (ci := 5) S inX5 rfl hK hP cW_13 2 (by decide) rfl kw_4_48 rfl dX0_writeExpression_30 ?_
      refine lv_iload_n hx hb dX0_writeExpression_33 rfl (lv_at hl 2 rfl) ?_
      have h_34 := hok.1
      have hok := hok.2
      refine xiald (t0 := 0) (v := (g σ1 15 a1)) S hK hP cW_15 rfl h_34 rfl dX0_writeExpression_34 ?_
      refine lv_iconst (v := 0) hx hb dX0_writeExpression_35 (by decide) ?_
      refine lv_iload_n hx hb dX0_writeExpression_36 rfl (lv_at hl 2 rfl) ?_
      refine yVv (As := [.int a3, .int 1, .int (g σ1 15 a1), .int 0, .int a1]) (cw := (cW o u cI cZ cJ T)) (ci := 0) S (v_X0_put_52 l D cI cZ cJ o u T ra ga σ1 a3 1 (g σ1 15 a1) 0 a1 _ H.size hok) mi_X0_put kw_2_90 rfl rfl ⟨Nat.le_of_ble_eq_true rfl, Nat.le_of_ble_eq_true rfl⟩ hP hD hK hS hA hB cW_52 rfl rfl hl.1 (Nat.le_of_ble_eq_true rfl) ⟨Nat.le_of_ble_eq_true rfl, Nat.le_of_ble_eq_true rfl⟩ dX0_writeExpression_37 (fun σ10 H locs hok hz hP hD hS => ?_)
      refine lv_goto (tgt := 143) hx hb dX0_writeExpression_40 (by decide) ?_
      exact yEndv S hr hlocks hP hD hS (Nat.le_of_ble_eq_true rfl) (Nat.le_of_ble_eq_true rfl) dX0_writeExpression_143 hok
  · have hok := hok.1 c_9
    refine lv_iconst (v := 1) hx hb dX0_writeExpression_12 (by decide) ?_
    refine lv_goto (tgt := 17) hx hb dX0_writeExpression_13 (by decide) ?_
    refine lv_istore (lv' := [(4, .int 1), (0, .ref (u 51)), (1, .int a1), (2, .int a2), (3, .int a3)]) hx hb dX0_writeExpression_17 hl (by decide) rfl (fun ls hl => ?_)
    refine lv_iload_n hx hb dX0_writeExpression_19 rfl (lv_at hl 3 rfl) ?_
    refine lv_if_ne (tgt := 43) hx hb dX0_writeExpression_20 (by decide) (fun c_20 => ?_) (fun c_20 => ?_)
    · have hok := hok.2 c_20
      refine lv_iload_n hx hb dX0_writeExpression_43 rfl (lv_at hl 3 rfl) ?_
      refine lv_iconst (v := 1) hx hb dX0_writeExpression_44 (by decide) ?_
      refine lv_icmp_ne (tgt := 82) hx hb dX0_writeExpression_45 (by decide) (fun c_45 => ?_) (fun c_45 => ?_)
      · have hok := hok.2 c_45
        refine lv_iload_n hx hb dX0_writeExpression_82 rfl (lv_at hl 3 rfl) ?_
        refine lv_iconst (v := 1) hx hb dX0_writeExpression_83 (by decide) ?_
        refine lv_icmp_ne (tgt := 107) hx hb dX0_writeExpression_84 (by decide) (fun c_84 => ?_) (fun c_84 => ?_)
        · have hok := hok.2 c_84
          refine lv_iload_n hx hb dX0_writeExpression_107 rfl (lv_at hl 3 rfl) ?_
          refine lv_iconst (v := 2) hx hb dX0_writeExpression_108 (by decide) ?_
          refine lv_icmp_ne (tgt := 132) hx hb dX0_writeExpression_109 (by decide) (fun c_109 => ?_) (fun c_109 => ?_)
          · have hok := hok.2 c_109
            refine lv_aload_n hx hb dX0_writeExpression_132 rfl (lv_at hl 1 rfl) ?_
            refine lv_iload_n hx hb dX0_writeExpression_133 rfl (lv_at hl 4 rfl) ?_
            refine lv_iload_n hx hb dX0_writeExpression_134 rfl (lv_at hl 3 rfl) ?_
            refine lv_iconst (v := 1) hx hb dX0_writeExpression_135 (by decide) ?_
            refine xiadd (v := a2 + 1) S dX0_writeExpression_136 rfl ?_
            refine lv_iconst (v := 0) hx hb dX0_writeExpression_137 (by decide) ?_
            refine lv_iconst (v := 0) hx hb dX0_writeExpression_138 (by decide) ?_
            refine lv_iload_n hx hb dX0_writeExpression_139 rfl (lv_at hl 2 rfl) ?_
            refine yVv (As := [.int a3, .int (a2 + 1), .int 0, .int 0, .int a1]) (cw := (cW o u cI cZ cJ T)) (ci := 0) S (v_X0_put_52 l D cI cZ cJ o u T ra ga σ1 a3 (a2 + 1) 0 0 a1 _ H.size hok) mi_X0_put kw_2_90 rfl rfl ⟨Nat.le_of_ble_eq_true rfl, Nat.le_of_ble_eq_true rfl⟩ hP hD hK hS hA hB cW_52 rfl rfl hl.1 (Nat.le_of_ble_eq_true rfl) ⟨Nat.le_of_ble_eq_true rfl, Nat.le_of_ble_eq_true rfl⟩ dX0_writeExpression_140 (fun σ11 H locs hok hz hP hD hS => ?_)
            exact yEndv S hr hlocks hP hD hS (Nat.le_of_ble_eq_true rfl) (Nat.le_of_ble_eq_true rfl) dX0_writeExpression_143 hok
          · have hok := hok.1 c_109
            refine lv_aload_n hx hb dX0_writeExpression_112 rfl (lv_at hl 1 rfl) ?_
            refine lv_iload_n hx hb dX0_writeExpression_113 rfl (lv_at hl 4 rfl) ?_
            refine lv_iload hx hb dX0_writeExpression_114 (lv_at hl 0 rfl) ?_
            refine lv_if_eq (tgt := 124) hx hb dX0_writeExpression_116 (by decide) (fun c => absurd c (by decide)) (fun _ => ?_)
            refine lv_bipush (v := 13) hx hb dX0_writeExpression_119 (by decide) ?_
            refine lv_goto (tgt := 125) hx hb dX0_writeExpression_121 (by decide) ?_
            refine lv_iload_n hx hb dX0_writeExpression_125 rfl (lv_at hl 2 rfl) ?_
            refine yVv (As := [.int a3, .int 13, .int a1]) (cw := (cW o u cI cZ cJ T)) (ci := 0) S (v_X0_putNamed_52 l D cI cZ cJ o u T ra ga σ1 a3 13 a1 _ H.size hok) mi_X0_putNamed kw_2_122 rfl rfl ⟨Nat.le_of_ble_eq_true rfl, Nat.le_of_ble_eq_true rfl⟩ hP hD hK hS hA hB cW_52 rfl rfl hl.1 (Nat.le_of_ble_eq_true rfl) ⟨Nat.le_of_ble_eq_true rfl, Nat.le_of_ble_eq_true rfl⟩ dX0_writeExpression_126 (fun σ12 H locs hok hz hP hD hS => ?_)
            refine lv_goto (tgt := 143) hx hb dX0_writeExpression_129 (by decide) ?_
            exact yEndv S hr hlocks hP hD hS (Nat.le_of_ble_eq_true rfl) (Nat.le_of_ble_eq_true rfl) dX0_writeExpression_143 hok
        · have hok := hok.1 c_84
          refine lv_aload_n hx hb dX0_writeExpression_87 rfl (lv_at hl 1 rfl) ?_
          refine lv_iload_n hx hb dX0_writeExpression_88 rfl (lv_at hl 4 rfl) ?_
          refine lv_iload hx hb dX0_writeExpression_89 (lv_at hl 0 rfl) ?_
          refine lv_if_eq (tgt := 99) hx hb dX0_writeExpression_91 (by decide) (fun c => absurd c (by decide)) (fun _ => ?_)
          refine lv_bipush (v := 12) hx hb dX0_writeExpression_94 (by decide) ?_
          refine lv_goto (tgt := 100) hx hb dX0_writeExpression_96 (by decide) ?_
          refine lv_iload_n hx hb dX0_writeExpression_100 rfl (lv_at hl 2 rfl) ?_
          refine yVv (As := [.int a3, .int 12, .int a1]) (cw := (cW o u cI cZ cJ T)) (ci := 0) S (v_X0_putNamed_52 l D cI cZ cJ o u T ra ga σ1 a3 12 a1 _ H.size hok) mi_X0_putNamed kw_2_122 rfl rfl ⟨Nat.le_of_ble_eq_true rfl, Nat.le_of_ble_eq_true rfl⟩ hP hD hK hS hA hB cW_52 rfl rfl hl.1 (Nat.le_of_ble_eq_true rfl) ⟨Nat.le_of_ble_eq_true rfl, Nat.le_of_ble_eq_true rfl⟩ dX0_writeExpression_101 (fun σ13 H locs hok hz hP hD hS => ?_)
          refine lv_goto (tgt := 143) hx hb dX0_writeExpression_104 (by decide) ?_
          exact yEndv S hr hlocks hP hD hS (Nat.le_of_ble_eq_true rfl) (Nat.le_of_ble_eq_true rfl) dX0_writeExpression_143 hok
      · have hok := hok.1 c_45
        refine lv_aload_n hx hb dX0_writeExpression_48 rfl (lv_at hl 1 rfl) ?_
        refine xg (ci := 0) S inX0 rfl hK hP cW_52 2 (by decide) rfl kw_4_217 rfl dX0_writeExpression_49 ?_
        refine xg (ci := 4) S inX4 rfl hK hP cW_20 5 (by decide) rfl kw_4_100 rfl dX0_writeExpression_52 ?_
        refine lv_iload_n hx hb dX0_writeExpression_55 rfl (lv_at hl 2 rfl) ?_
        have h_56 := hok.1
        have hok := hok.2
        refine xiald (t0 := 0) (v := (g σ1 24 a1)) S hK hP cW_24 rfl h_56 rfl dX0_writeExpression_56 ?_
        refine lv_bipush (v := 9) hx hb dX0_writeExpression_57 (by decide) ?_
        refine lv_icmp_ne (tgt := 82) hx hb dX0_writeExpression_59 (by decide) (fun c_59 => ?_) (fun c_59 => ?_)
        · have hok := hok.2 c_59
          refine lv_iload_n hx hb dX0_writeExpression_82 rfl (lv_at hl 3 rfl) ?_
          refine lv_iconst (v := 1) hx hb dX0_writeExpression_83 (by decide) ?_
          refine lv_icmp_ne (tgt := 107) hx hb dX0_writeExpression_84 (by decide) (fun c_84 => ?_) (fun c_84 => ?_)
          · have hok := hok.2 c_84
            refine lv_iload_n hx hb dX0_writeExpression_107 rfl (lv_at hl 3 rfl) ?_
            refine lv_iconst (v := 2) hx hb dX0_writeExpression_108 (by decide) ?_
            refine lv_icmp_ne (tgt := 132) hx hb dX0_writeExpression_109 (by decide) (fun c_109 => ?_) (fun c_109 => ?_)
            · have hok := hok.2 c_109
              refine lv_aload_n hx hb dX0_writeExpression_132 rfl (lv_at hl 1 rfl) ?_
              refine lv_iload_n hx hb dX0_writeExpression_133 rfl (lv_at hl 4 rfl) ?_
              refine lv_iload_n hx hb dX0_writeExpression_134 rfl (lv_at hl 3 rfl) ?_
              refine lv_iconst (v := 1) hx hb dX0_writeExpression_135 (by decide) ?_
              refine xiadd (v := a2 + 1) S dX0_writeExpression_136 rfl ?_
              refine lv_iconst (v := 0) hx hb dX0_writeExpression_137 (by decide) ?_
              refine lv_iconst (v := 0) hx hb dX0_writeExpression_138 (by decide) ?_
              refine lv_iload_n hx hb dX0_writeExpression_139 rfl (lv_at hl 2 rfl) ?_
              refine yVv (As := [.int a3, .int (a2 + 1), .int 0, .int 0, .int a1]) (cw := (cW o u cI cZ cJ T)) (ci := 0) S (v_X0_put_52 l D cI cZ cJ o u T ra ga σ1 a3 (a2 + 1) 0 0 a1 _ H.size hok) mi_X0_put kw_2_90 rfl rfl ⟨Nat.le_of_ble_eq_true rfl, Nat.le_of_ble_eq_true rfl⟩ hP hD hK hS hA hB cW_52 rfl rfl hl.1 (Nat.le_of_ble_eq_true rfl) ⟨Nat.le_of_ble_eq_true rfl, Nat.le_of_ble_eq_true rfl⟩ dX0_writeExpression_140 (fun σ14 H locs hok hz hP hD hS => ?_)
              exact yEndv S hr hlocks hP hD hS (Nat.le_of_ble_eq_true rfl) (Nat.le_of_ble_eq_true rfl) dX0_writeExpression_143 hok
            · have hok := hok.1 c_109
              refine lv_aload_n hx hb dX0_writeExpression_112 rfl (lv_at hl 1 rfl) ?_
              refine lv_iload_n hx hb dX0_writeExpression_113 rfl (lv_at hl 4 rfl) ?_
              refine lv_iload hx hb dX0_writeExpression_114 (lv_at hl 0 rfl) ?_
              refine lv_if_eq (tgt := 124) hx hb dX0_writeExpression_116 (by decide) (fun c => absurd c (by decide)) (fun _ => ?_)
              refine lv_bipush (v := 13) hx hb dX0_writeExpression_119 (by decide) ?_
              refine lv_goto (tgt := 125) hx hb dX0_writeExpression_121 (by decide) ?_
              refine lv_iload_n hx hb dX0_writeExpression_125 rfl (lv_at hl 2 rfl) ?_
              refine yVv (As := [.int a3, .int 13, .int a1]) (cw := (cW o u cI cZ cJ T)) (ci := 0) S (v_X0_putNamed_52 l D cI cZ cJ o u T ra ga σ1 a3 13 a1 _ H.size hok) mi_X0_putNamed kw_2_122 rfl rfl ⟨Nat.le_of_ble_eq_true rfl, Nat.le_of_ble_eq_true rfl⟩ hP hD hK hS hA hB cW_52 rfl rfl hl.1 (Nat.le_of_ble_eq_true rfl) ⟨Nat.le_of_ble_eq_true rfl, Nat.le_of_ble_eq_true rfl⟩ dX0_writeExpression_126 (fun σ15 H locs hok hz hP hD hS => ?_)
              refine lv_goto (tgt := 143) hx hb dX0_writeExpression_129 (by decide) ?_
              exact yEndv S hr hlocks hP hD hS (Nat.le_of_ble_eq_true rfl) (Nat.le_of_ble_eq_true rfl) dX0_writeExpression_143 hok
          · have hok := hok.1 c_84
            refine lv_aload_n hx hb dX0_writeExpression_87 rfl (lv_at hl 1 rfl) ?_
            refine lv_iload_n hx hb dX0_writeExpression_88 rfl (lv_at hl 4 rfl) ?_
            refine lv_iload hx hb dX0_writeExpression_89 (lv_at hl 0 rfl) ?_
            refine lv_if_eq (tgt := 99) hx hb dX0_writeExpression_91 (by decide) (fun c => absurd c (by decide)) (fun _ => ?_)
            refine lv_bipush (v := 12) hx hb dX0_writeExpression_94 (by decide) ?_
            refine lv_goto (tgt := 100) hx hb dX0_writeExpression_96 (by decide) ?_
            refine lv_iload_n hx hb dX0_writeExpression_100 rfl (lv_at hl 2 rfl) ?_
            refine yVv (As := [.int a3, .int 12, .int a1]) (cw := (cW o u cI cZ cJ T)) (ci := 0) S (v_X0_putNamed_52 l D cI cZ cJ o u T ra ga σ1 a3 12 a1 _ H.size hok) mi_X0_putNamed kw_2_122 rfl rfl ⟨Nat.le_of_ble_eq_true rfl, Nat.le_of_ble_eq_true rfl⟩ hP hD hK hS hA hB cW_52 rfl rfl hl.1 (Nat.le_of_ble_eq_true rfl) ⟨Nat.le_of_ble_eq_true rfl, Nat.le_of_ble_eq_true rfl⟩ dX0_writeExpression_101 (fun σ16 H locs hok hz hP hD hS => ?_)
            refine lv_goto (tgt := 143) hx hb dX0_writeExpression_104 (by decide) ?_
            exact yEndv S hr hlocks hP hD hS (Nat.le_of_ble_eq_true rfl) (Nat.le_of_ble_eq_true rfl) dX0_writeExpression_143 hok
        · have hok := hok.1 c_59
          refine lv_aload_n hx hb dX0_writeExpression_62 rfl (lv_at hl 1 rfl) ?_
          refine lv_iload_n hx hb dX0_writeExpression_63 rfl (lv_at hl 4 rfl) ?_
          refine lv_iconst (v := 1) hx hb dX0_writeExpression_64 (by decide) ?_
          refine lv_aload_n hx hb dX0_writeExpression_65 rfl (lv_at hl 1 rfl) ?_
          refine xg (ci := 0) S inX0 rfl hK hP cW_52 2 (by decide) rfl kw_4_217 rfl dX0_writeExpression_66 ?_
          refine xg (ci := 4) S inX4 rfl hK hP cW_20 6 (by decide) rfl kw_4_103 rfl dX0_writeExpression_69 ?_
          refine lv_iload_n hx hb dX0_writeExpression_72 rfl (lv_at hl 2 rfl) ?_
          have h_73 := hok.1
          have hok := hok.2
          refine xiald (t0 := 0) (v := (g σ1 25 a1)) S hK hP cW_25 rfl h_73 rfl dX0_writeExpression_73 ?_
          refine lv_iconst (v := 0) hx hb dX0_writeExpression_74 (by decide) ?_
          refine lv_iload_n hx hb dX0_writeExpression_75 rfl (lv_at hl 2 rfl) ?_
          refine yVv (As := [.int a3, .int 1, .int (g σ1 25 a1), .int 0, .int a1]) (cw := (cW o u cI cZ cJ T)) (ci := 0) S (v_X0_put_52 l D cI cZ cJ o u T ra ga σ1 a3 1 (g σ1 25 a1) 0 a1 _ H.size hok) mi_X0_put kw_2_90 rfl rfl ⟨Nat.le_of_ble_eq_true rfl, Nat.le_of_ble_eq_true rfl⟩ hP hD hK hS hA hB cW_52 rfl rfl hl.1 (Nat.le_of_ble_eq_true rfl) ⟨Nat.le_of_ble_eq_true rfl, Nat.le_of_ble_eq_true rfl⟩ dX0_writeExpression_76 (fun σ17 H locs hok hz hP hD hS => ?_)
          refine lv_goto (tgt := 143) hx hb dX0_writeExpression_79 (by decide) ?_
          exact yEndv S hr hlocks hP hD hS (Nat.le_of_ble_eq_true rfl) (Nat.le_of_ble_eq_true rfl) dX0_writeExpression_143 hok
    · have hok := hok.1 c_20
      refine lv_aload_n hx hb dX0_writeExpression_23 rfl (lv_at hl 1 rfl) ?_
      refine lv_iload_n hx hb dX0_writeExpression_24 rfl (lv_at hl 4 rfl) ?_
      refine lv_iconst (v := 1) hx hb dX0_writeExpression_25 (by decide) ?_
      refine lv_aload_n hx hb dX0_writeExpression_26 rfl (lv_at hl 1 rfl) ?_
      refine xg (ci := 0) S inX0 rfl hK hP cW_52 1 (by decide) rfl kw_4_216 rfl dX0_writeExpression_27 ?_
      refine xg (ci := 5) S inX5 rfl hK hP cW_13 2 (by decide) rfl kw_4_48 rfl dX0_writeExpression_30 ?_
      refine lv_iload_n hx hb dX0_writeExpression_33 rfl (lv_at hl 2 rfl) ?_
      have h_34 := hok.1
      have hok := hok.2
      refine xiald (t0 := 0) (v := (g σ1 15 a1)) S hK hP cW_15 rfl h_34 rfl dX0_writeExpression_34 ?_
      refine lv_iconst (v := 0) hx hb dX0_writeExpression_35 (by decide) ?_
      refine lv_iload_n hx hb dX0_writeExpression_36 rfl (lv_at hl 2 rfl) ?_
      refine yVv (As := [.int a3, .int 1, .int (g σ1 15 a1), .int 0, .int a1]) (cw := (cW o u cI cZ cJ T)) (ci := 0) S (v_X0_put_52 l D cI cZ cJ o u T ra ga σ1 a3 1 (g σ1 15 a1) 0 a1 _ H.size hok) mi_X0_put kw_2_90 rfl rfl ⟨Nat.le_of_ble_eq_true rfl, Nat.le_of_ble_eq_true rfl⟩ hP hD hK hS hA hB cW_52 rfl rfl hl.1 (Nat.le_of_ble_eq_true rfl) ⟨Nat.le_of_ble_eq_true rfl, Nat.le_of_ble_eq_true rfl⟩ dX0_writeExpression_37 (fun σ18 H locs hok hz hP hD hS => ?_)
      refine lv_goto (tgt := 143) hx hb dX0_writeExpression_40 (by decide) ?_
      exact yEndv S hr hlocks hP hD hS (Nat.le_of_ble_eq_true rfl) (Nat.le_of_ble_eq_true rfl) dX0_writeExpression_143 hok

set_option maxHeartbeats 8000000 in
set_option maxRecDepth 100000 in
theorem v_X0_write_52 (l : Launch) (D : va_G) (cI cZ cJ : ClassId) (o : Nat) (u : Nat → Nat) (T : Nat) (ra : Nat → Nat) (ga : SG) (σ : FS) (a1 : Int32) (Φ : FS → Prop) (sz : Nat) (hok : (wp_X0_write 52 σ a1 Φ)) : Met l yX0_write (uW yX0_write cX0_write 4 none) ({ frames := 3, cells := 0, slots := 0, locals := 73 }) (va_Pc [.ref (u 51), .int a1] (aS ra ga D (tyL cI cZ cJ) (cW o u cI cZ cJ T σ) sz)) (yQv Φ D (cW o u cI cZ cJ T) (va_A (cW o u cI cZ cJ T σ) sz)) 0 0 (va_A (cW o u cI cZ cJ T σ) sz) := by
  refine aStart (lv := [(0, .ref (u 51)), (1, .int a1)]) (Qc := fun A => yQv Φ D (cW o u cI cZ cJ T) A) (by decide) (Nat.le_of_ble_eq_true rfl) rfl ?_
  intro p e s m args below meth c ls A H S hr hlocks hnm hl hK hP hD hS hA hB
  have hx := S.1
  have hb := S.2.1
  refine lv_aload_n hx hb dX0_write_0 rfl (lv_at hl 0 rfl) ?_
  refine xg (ci := 0) S inX0 rfl hK hP cW_52 13 (by decide) rfl kw_5_2 rfl dX0_write_1 ?_
  refine lv_iload_n hx hb dX0_write_4 rfl (lv_at hl 1 rfl) ?_
  have h_5 := hok.1
  have hok := hok.2
  refine xiald (t0 := 0) (v := (g σ 61 a1)) S hK hP cW_61 rfl h_5 rfl dX0_write_5 ?_
  refine lv_aload_n hx hb dX0_write_6 rfl (lv_at hl 0 rfl) ?_
  refine xg (ci := 0) S inX0 rfl hK hP cW_52 14 (by decide) rfl kw_5_4 rfl dX0_write_7 ?_
  refine lv_iload_n hx hb dX0_write_10 rfl (lv_at hl 1 rfl) ?_
  have h_11 := hok.1
  have hok := hok.2
  refine xiald (t0 := 0) (v := (g σ 62 a1)) S hK hP cW_62 rfl h_11 rfl dX0_write_11 ?_
  refine xiadd (v := (g σ 61 a1) + (g σ 62 a1)) S dX0_write_12 rfl ?_
  refine lv_iconst (v := 1) hx hb dX0_write_13 (by decide) ?_
  refine xisub (v := ((g σ 61 a1) + (g σ 62 a1)) - 1) S dX0_write_14 rfl ?_
  refine lv_topi (fun x1 ex1 => ?_)
  have hok := hok x1 ex1
  refine lv_istore_n (lv' := [(2, .int x1), (0, .ref (u 51)), (1, .int a1)]) hx hb dX0_write_15 rfl hl (by decide) rfl (fun ls hl => ?_)
  refine lv_aload_n hx hb dX0_write_16 rfl (lv_at hl 1 rfl) ?_
  refine xg (ci := 0) S inX0 rfl hK hP cW_52 16 (by decide) rfl kw_5_8 rfl dX0_write_17 ?_
  refine lv_iload_n hx hb dX0_write_20 rfl (lv_at hl 2 rfl) ?_
  have h_21 := hok.1
  have hok := hok.2
  refine xzald (t0 := 1) (v := (g σ 64 a1)) S hK hP cW_64 rfl h_21 rfl dX0_write_21 ?_
  refine lv_if_eq (tgt := 26) hx hb dX0_write_22 (by decide) (fun c_22 => ?_) (fun c_22 => ?_)
  · have hok := hok.1 c_22
    refine lv_aload_n hx hb dX0_write_26 rfl (lv_at hl 1 rfl) ?_
    refine lv_iload_n hx hb dX0_write_27 rfl (lv_at hl 2 rfl) ?_
    refine yVi (As := [.int a1]) (cw := (cW o u cI cZ cJ T)) (ci := 0) S (v_X0_isPushed_52 l D cI cZ cJ o u T ra ga σ a1 _ H.size hok) mi_X0_isPushed kw_2_62 rfl rfl ⟨Nat.le_of_ble_eq_true rfl, Nat.le_of_ble_eq_true rfl⟩ hP hD hK hS hA hB cW_52 rfl rfl hl.1 (Nat.le_of_ble_eq_true rfl) ⟨Nat.le_of_ble_eq_true rfl, Nat.le_of_ble_eq_true rfl⟩ dX0_write_28 (fun x3 σ2 H locs hok hz hP hD hS => ?_)
    refine lv_if_eq (tgt := 52) hx hb dX0_write_31 (by decide) (fun c_31 => ?_) (fun c_31 => ?_)
    · have hok := hok.1 c_31
      refine lv_aload_n hx hb dX0_write_52 rfl (lv_at hl 1 rfl) ?_
      refine xg (ci := 0) S inX0 rfl hK hP cW_52 1 (by decide) rfl kw_4_216 rfl dX0_write_53 ?_
      refine xg (ci := 5) S inX5 rfl hK hP cW_13 1 (by decide) rfl kw_4_44 rfl dX0_write_56 ?_
      refine lv_iload_n hx hb dX0_write_59 rfl (lv_at hl 2 rfl) ?_
      have h_60 := hok.1
      have hok := hok.2
      refine xiald (t0 := 0) (v := (g σ2 14 a1)) S hK hP cW_14 rfl h_60 rfl dX0_write_60 ?_
      refine lv_topi (fun x4 ex4 => ?_)
      have hok := hok x4 ex4
      refine lv_istore_n (lv' := [(3, .int x4), (2, .int x1), (0, .ref (u 51)), (1, .int a1)]) hx hb dX0_write_61 rfl hl (by decide) rfl (fun ls hl => ?_)
      refine lv_iload_n hx hb dX0_write_62 rfl (lv_at hl 0 rfl) ?_
      refine lv_bipush (v := 7) hx hb dX0_write_63 (by decide) ?_
      refine lv_icmp_gt (tgt := 78) hx hb dX0_write_65 (by decide) (fun c_65 => ?_) (fun c_65 => ?_)
      · have hok := hok.1 c_65
        refine lv_iload_n hx hb dX0_write_78 rfl (lv_at hl 0 rfl) ?_
        refine lv_bipush (v := 11) hx hb dX0_write_79 (by decide) ?_
        refine lv_icmp_gt (tgt := 94) hx hb dX0_write_81 (by decide) (fun c_81 => ?_) (fun c_81 => ?_)
        · have hok := hok.1 c_81
          refine lv_aload_n hx hb dX0_write_94 rfl (lv_at hl 2 rfl) ?_
          refine lv_iload_n hx hb dX0_write_95 rfl (lv_at hl 3 rfl) ?_
          refine lv_iload_n hx hb dX0_write_96 rfl (lv_at hl 0 rfl) ?_
          refine lv_iload_n hx hb dX0_write_97 rfl (lv_at hl 1 rfl) ?_
          refine yVv (As := [.int a1, .int x4, .int x1]) (cw := (cW o u cI cZ cJ T)) (ci := 0) S (v_X0_writeStatement_52 l D cI cZ cJ o u T ra ga σ2 a1 x4 x1 _ H.size hok) mi_X0_writeStatement kw_2_130 rfl rfl ⟨Nat.le_of_ble_eq_true rfl, Nat.le_of_ble_eq_true rfl⟩ hP hD hK hS hA hB cW_52 rfl rfl hl.1 (Nat.le_of_ble_eq_true rfl) ⟨Nat.le_of_ble_eq_true rfl, Nat.le_of_ble_eq_true rfl⟩ dX0_write_98 (fun σ5 H locs hok hz hP hD hS => ?_)
          exact yEndv S hr hlocks hP hD hS (Nat.le_of_ble_eq_true rfl) (Nat.le_of_ble_eq_true rfl) dX0_write_101 hok
        · have hok := hok.2 c_81
          refine lv_aload_n hx hb dX0_write_84 rfl (lv_at hl 2 rfl) ?_
          refine lv_iload_n hx hb dX0_write_85 rfl (lv_at hl 3 rfl) ?_
          refine lv_iload_n hx hb dX0_write_86 rfl (lv_at hl 0 rfl) ?_
          refine lv_iload_n hx hb dX0_write_87 rfl (lv_at hl 1 rfl) ?_
          refine yVv (As := [.int a1, .int x4, .int x1]) (cw := (cW o u cI cZ cJ T)) (ci := 0) S (v_X0_writeCall_52 l D cI cZ cJ o u T ra ga σ2 a1 x4 x1 _ H.size hok) mi_X0_writeCall kw_2_126 rfl rfl ⟨Nat.le_of_ble_eq_true rfl, Nat.le_of_ble_eq_true rfl⟩ hP hD hK hS hA hB cW_52 rfl rfl hl.1 (Nat.le_of_ble_eq_true rfl) ⟨Nat.le_of_ble_eq_true rfl, Nat.le_of_ble_eq_true rfl⟩ dX0_write_88 (fun σ6 H locs hok hz hP hD hS => ?_)
          refine lv_goto (tgt := 101) hx hb dX0_write_91 (by decide) ?_
          exact yEndv S hr hlocks hP hD hS (Nat.le_of_ble_eq_true rfl) (Nat.le_of_ble_eq_true rfl) dX0_write_101 hok
      · have hok := hok.2 c_65
        refine lv_aload_n hx hb dX0_write_68 rfl (lv_at hl 2 rfl) ?_
        refine lv_iload_n hx hb dX0_write_69 rfl (lv_at hl 3 rfl) ?_
        refine lv_iload_n hx hb dX0_write_70 rfl (lv_at hl 0 rfl) ?_
        refine lv_iload_n hx hb dX0_write_71 rfl (lv_at hl 1 rfl) ?_
        refine yVv (As := [.int a1, .int x4, .int x1]) (cw := (cW o u cI cZ cJ T)) (ci := 0) S (v_X0_writeExpression_52 l D cI cZ cJ o u T ra ga σ2 a1 x4 x1 _ H.size hok) mi_X0_writeExpression kw_2_114 rfl rfl ⟨Nat.le_of_ble_eq_true rfl, Nat.le_of_ble_eq_true rfl⟩ hP hD hK hS hA hB cW_52 rfl rfl hl.1 (Nat.le_of_ble_eq_true rfl) ⟨Nat.le_of_ble_eq_true rfl, Nat.le_of_ble_eq_true rfl⟩ dX0_write_72 (fun σ7 H locs hok hz hP hD hS => ?_)
        refine lv_goto (tgt := 101) hx hb dX0_write_75 (by decide) ?_
        exact yEndv S hr hlocks hP hD hS (Nat.le_of_ble_eq_true rfl) (Nat.le_of_ble_eq_true rfl) dX0_write_101 hok
    · have hok := hok.2 c_31
      refine lv_aload_n hx hb dX0_write_34 rfl (lv_at hl 1 rfl) ?_
      refine lv_iload_n hx hb dX0_write_35 rfl (lv_at hl 0 rfl) ?_
      refine lv_iconst (v := 1) hx hb dX0_write_36 (by decide) ?_
      refine lv_aload_n hx hb dX0_write_37 rfl (lv_at hl 1 rfl) ?_
      refine xg (ci := 0) S inX0 rfl hK hP cW_52 2 (by decide) rfl kw_4_217 rfl dX0_write_38 ?_
      refine xg (ci := 4) S inX4 rfl hK hP cW_20 8 (by decide) rfl kw_4_108 rfl dX0_write_41 ?_
      refine lv_iload_n hx hb dX0_write_44 rfl (lv_at hl 2 rfl) ?_
      have h_45 := hok.1
      have hok := hok.2
      refine xiald (t0 := 0) (v := (g σ2 27 a1)) S hK hP cW_27 rfl h_45 rfl dX0_write_45 ?_
      refine lv_iconst (v := 0) hx hb dX0_write_46 (by decide) ?_
      refine lv_iload_n hx hb dX0_write_47 rfl (lv_at hl 2 rfl) ?_
      refine yVv (As := [.int x1, .int 1, .int (g σ2 27 a1), .int 0, .int a1]) (cw := (cW o u cI cZ cJ T)) (ci := 0) S (v_X0_put_52 l D cI cZ cJ o u T ra ga σ2 x1 1 (g σ2 27 a1) 0 a1 _ H.size hok) mi_X0_put kw_2_90 rfl rfl ⟨Nat.le_of_ble_eq_true rfl, Nat.le_of_ble_eq_true rfl⟩ hP hD hK hS hA hB cW_52 rfl rfl hl.1 (Nat.le_of_ble_eq_true rfl) ⟨Nat.le_of_ble_eq_true rfl, Nat.le_of_ble_eq_true rfl⟩ dX0_write_48 (fun σ8 H locs hok hz hP hD hS => ?_)
      exact yEndv S hr hlocks hP hD hS (Nat.le_of_ble_eq_true rfl) (Nat.le_of_ble_eq_true rfl) dX0_write_51 hok
  · have hok := hok.2 c_22
    exact yEndv S hr hlocks hP hD hS (Nat.le_of_ble_eq_true rfl) (Nat.le_of_ble_eq_true rfl) dX0_write_25 hok

set_option maxHeartbeats 8000000 in
set_option maxRecDepth 100000 in
theorem v_X0_layOut_52 (l : Launch) (D : va_G) (cI cZ cJ : ClassId) (o : Nat) (u : Nat → Nat) (T : Nat) (ra : Nat → Nat) (ga : SG) (σ : FS) (a1 : Int32) (Φ : FS → Prop) (sz : Nat) (hok : (wp_X0_layOut 52 σ a1 Φ)) : Met l yX0_layOut (uW yX0_layOut cX0_layOut 3 none) ({ frames := 4, cells := 0, slots := 0, locals := 96 }) (va_Pc [.ref (u 51), .int a1] (aS ra ga D (tyL cI cZ cJ) (cW o u cI cZ cJ T σ) sz)) (yQv Φ D (cW o u cI cZ cJ T) (va_A (cW o u cI cZ cJ T σ) sz)) 0 0 (va_A (cW o u cI cZ cJ T σ) sz) := by
  refine aStart (lv := [(0, .ref (u 51)), (1, .int a1)]) (Qc := fun A => yQv Φ D (cW o u cI cZ cJ T) A) (by decide) (Nat.le_of_ble_eq_true rfl) rfl ?_
  intro p e s m args below meth c ls A H S hr hlocks hnm hl hK hP hD hS hA hB
  have hx := S.1
  have hb := S.2.1
  refine lv_aload_n hx hb dX0_layOut_0 rfl (lv_at hl 0 rfl) ?_
  refine xg (ci := 0) S inX0 rfl hK hP cW_52 3 (by decide) rfl kw_4_218 rfl dX0_layOut_1 ?_
  refine lv_iload_n hx hb dX0_layOut_4 rfl (lv_at hl 1 rfl) ?_
  refine lv_icmp_ne (tgt := 9) hx hb dX0_layOut_5 (by decide) (fun c_5 => ?_) (fun c_5 => ?_)
  · have hok := hok.2 c_5
    refine lv_aload_n hx hb dX0_layOut_9 rfl (lv_at hl 0 rfl) ?_
    refine lv_iload_n hx hb dX0_layOut_10 rfl (lv_at hl 1 rfl) ?_
    refine yp (ci := 0) (v := .int a1) (cw := (cW o u cI cZ cJ T)) S inX0 tyX0 tyX0_ok nmX0 rfl hK hP hD hS cW_52 3 (by decide) kw_4_218 rfl rfl rfl rfl (Nat.le_of_ble_eq_true rfl) dX0_layOut_11 cWp_52_3 (fun σ1 H locs eσ1 hP hD hS => ?_)
    have hok := hok σ1 eσ1
    refine lv_iconst (v := 0) hx hb dX0_layOut_14 (by decide) ?_
    refine lv_istore_n (lv' := [(2, .int 0), (0, .ref (u 51)), (1, .int a1)]) hx hb dX0_layOut_15 rfl hl (by decide) rfl (fun ls hl => ?_)
    have lp16 : ∀ (K : FS → Int32 → Prop), (∀ (τ0 : FS) (l2_0 : Int32) (H : Heap) (locs : List Loc) (ls : Array Slot), K τ0 l2_0 → lv_has ls 3 [(2, .int l2_0), (0, .ref (u 51)), (1, .int a1)] → va_P D vwCl (cW o u cI cZ cJ T τ0) H → va_D A (cW o u cI cZ cJ T τ0) → va_S A s.heap H locs → W p l e ({ frames := 4, cells := 0, slots := 0, locals := 96 }) s m args below meth c H locs 0 0 (MQ below (yQv Φ D (cW o u cI cZ cJ T) A) args s 0 0 A) (F0 m 102 ls [])) → ∀ (n0 : Nat) (τ0 : FS) (l2_0 : Int32) (H : Heap) (locs : List Loc) (ls : Array Slot), wp_X0_layOut_16 52 a1 Φ K n0 τ0 l2_0 → lv_has ls 3 [(2, .int l2_0), (0, .ref (u 51)), (1, .int a1)] → va_P D vwCl (cW o u cI cZ cJ T τ0) H → va_D A (cW o u cI cZ cJ T τ0) → va_S A s.heap H locs → W p l e ({ frames := 4, cells := 0, slots := 0, locals := 96 }) s m args below meth c H locs 0 0 (MQ below (yQv Φ D (cW o u cI cZ cJ T) A) args s 0 0 A) (F0 m 16 ls []) := by
      intro K hk n0
      induction n0 with
      | zero => intro τ0 l2_0 H locs ls hok; exact False.elim hok
      | succ n0 ih16 =>
        intro τ0 l2_0 H locs ls hok hl hP hD hS
        refine lv_iload_n hx hb dX0_layOut_16 rfl (lv_at hl 0 rfl) ?_
        refine lv_aload_n hx hb dX0_layOut_17 rfl (lv_at hl 1 rfl) ?_
        refine xg (ci := 0) S inX0 rfl hK hP cW_52 1 (by decide) rfl kw_4_216 rfl dX0_layOut_18 ?_
        refine xg (ci := 5) S inX5 rfl hK hP cW_13 0 (by decide) rfl kw_4_39 rfl dX0_layOut_21 ?_
        refine lv_icmp_ge (tgt := 102) hx hb dX0_layOut_24 (by decide) (fun c_24 => ?_) (fun c_24 => ?_)
        · have hok := hok.1 c_24
          exact hk τ0 l2_0 H locs ls hok (lv_sub hl [0, 1, 2] rfl) hP hD hS
        · have hok := hok.2 c_24
          refine lv_aload_n hx hb dX0_layOut_27 rfl (lv_at hl 1 rfl) ?_
          refine xg (ci := 0) S inX0 rfl hK hP cW_52 14 (by decide) rfl kw_5_4 rfl dX0_layOut_28 ?_
          refine lv_iload_n hx hb dX0_layOut_31 rfl (lv_at hl 0 rfl) ?_
          refine lv_aload_n hx hb dX0_layOut_32 rfl (lv_at hl 1 rfl) ?_
          refine lv_iload_n hx hb dX0_layOut_33 rfl (lv_at hl 0 rfl) ?_
          refine yVi (As := [.int l2_0]) (cw := (cW o u cI cZ cJ T)) (ci := 0) S (v_X0_isPushed_52 l D cI cZ cJ o u T ra ga τ0 l2_0 _ H.size hok) mi_X0_isPushed kw_2_62 rfl rfl ⟨Nat.le_of_ble_eq_true rfl, Nat.le_of_ble_eq_true rfl⟩ hP hD hK hS hA hB cW_52 rfl rfl hl.1 (Nat.le_of_ble_eq_true rfl) ⟨Nat.le_of_ble_eq_true rfl, Nat.le_of_ble_eq_true rfl⟩ dX0_layOut_34 (fun x3 σ2 H locs hok hz hP hD hS => ?_)
          refine lv_if_eq (tgt := 44) hx hb dX0_layOut_37 (by decide) (fun c_37 => ?_) (fun c_37 => ?_)
          · have hok := hok.1 c_37
            refine lv_aload_n hx hb dX0_layOut_44 rfl (lv_at hl 1 rfl) ?_
            refine lv_aload_n hx hb dX0_layOut_45 rfl (lv_at hl 1 rfl) ?_
            refine xg (ci := 0) S inX0 rfl hK hP cW_52 1 (by decide) rfl kw_4_216 rfl dX0_layOut_46 ?_
            refine lv_iload_n hx hb dX0_layOut_49 rfl (lv_at hl 0 rfl) ?_
            refine yVi (As := [.int l2_0]) (cw := (cW o u cI cZ cJ T)) (ci := 5) S (v_X5_partA l D cI cZ cJ o u T ra ga σ2 l2_0 _ H.size hok) mi_X5_partA kw_2_67 rfl rfl ⟨Nat.le_of_ble_eq_true rfl, Nat.le_of_ble_eq_true rfl⟩ hP hD hK hS hA hB cW_13 rfl rfl hl.1 (Nat.le_of_ble_eq_true rfl) ⟨Nat.le_of_ble_eq_true rfl, Nat.le_of_ble_eq_true rfl⟩ dX0_layOut_50 (fun x5 σ4 H locs hok hz hP hD hS => ?_)
            refine yVi (As := [.int x5]) (cw := (cW o u cI cZ cJ T)) (ci := 0) S (v_X0_lengthOfPart_52 l D cI cZ cJ o u T ra ga σ4 x5 _ H.size hok) mi_X0_lengthOfPart kw_2_68 rfl rfl ⟨Nat.le_of_ble_eq_true rfl, Nat.le_of_ble_eq_true rfl⟩ hP hD hK hS hA hB cW_52 rfl rfl hl.1 (Nat.le_of_ble_eq_true rfl) ⟨Nat.le_of_ble_eq_true rfl, Nat.le_of_ble_eq_true rfl⟩ dX0_layOut_53 (fun x7 σ6 H locs hok hz hP hD hS => ?_)
            refine lv_aload_n hx hb dX0_layOut_56 rfl (lv_at hl 1 rfl) ?_
            refine lv_aload_n hx hb dX0_layOut_57 rfl (lv_at hl 1 rfl) ?_
            refine xg (ci := 0) S inX0 rfl hK hP cW_52 1 (by decide) rfl kw_4_216 rfl dX0_layOut_58 ?_
            refine lv_iload_n hx hb dX0_layOut_61 rfl (lv_at hl 0 rfl) ?_
            refine yVi (As := [.int l2_0]) (cw := (cW o u cI cZ cJ T)) (ci := 5) S (v_X5_partB l D cI cZ cJ o u T ra ga σ6 l2_0 _ H.size hok) mi_X5_partB kw_2_72 rfl rfl ⟨Nat.le_of_ble_eq_true rfl, Nat.le_of_ble_eq_true rfl⟩ hP hD hK hS hA hB cW_13 rfl rfl hl.1 (Nat.le_of_ble_eq_true rfl) ⟨Nat.le_of_ble_eq_true rfl, Nat.le_of_ble_eq_true rfl⟩ dX0_layOut_62 (fun x9 σ8 H locs hok hz hP hD hS => ?_)
            refine yVi (As := [.int x9]) (cw := (cW o u cI cZ cJ T)) (ci := 0) S (v_X0_lengthOfPart_52 l D cI cZ cJ o u T ra ga σ8 x9 _ H.size hok) mi_X0_lengthOfPart kw_2_68 rfl rfl ⟨Nat.le_of_ble_eq_true rfl, Nat.le_of_ble_eq_true rfl⟩ hP hD hK hS hA hB cW_52 rfl rfl hl.1 (Nat.le_of_ble_eq_true rfl) ⟨Nat.le_of_ble_eq_true rfl, Nat.le_of_ble_eq_true rfl⟩ dX0_layOut_65 (fun x11 σ10 H locs hok hz hP hD hS => ?_)
            refine xiadd (v := x7 + x11) S dX0_layOut_68 rfl ?_
            refine lv_aload_n hx hb dX0_layOut_69 rfl (lv_at hl 1 rfl) ?_
            refine lv_aload_n hx hb dX0_layOut_70 rfl (lv_at hl 1 rfl) ?_
            refine xg (ci := 0) S inX0 rfl hK hP cW_52 1 (by decide) rfl kw_4_216 rfl dX0_layOut_71 ?_
            refine lv_iload_n hx hb dX0_layOut_74 rfl (lv_at hl 0 rfl) ?_
            refine yVi (As := [.int l2_0]) (cw := (cW o u cI cZ cJ T)) (ci := 5) S (v_X5_partC l D cI cZ cJ o u T ra ga σ10 l2_0 _ H.size hok) mi_X5_partC kw_2_73 rfl rfl ⟨Nat.le_of_ble_eq_true rfl, Nat.le_of_ble_eq_true rfl⟩ hP hD hK hS hA hB cW_13 rfl rfl hl.1 (Nat.le_of_ble_eq_true rfl) ⟨Nat.le_of_ble_eq_true rfl, Nat.le_of_ble_eq_true rfl⟩ dX0_layOut_75 (fun x13 σ12 H locs hok hz hP hD hS => ?_)
            refine yVi (As := [.int x13]) (cw := (cW o u cI cZ cJ T)) (ci := 0) S (v_X0_lengthOfPart_52 l D cI cZ cJ o u T ra ga σ12 x13 _ H.size hok) mi_X0_lengthOfPart kw_2_68 rfl rfl ⟨Nat.le_of_ble_eq_true rfl, Nat.le_of_ble_eq_true rfl⟩ hP hD hK hS hA hB cW_52 rfl rfl hl.1 (Nat.le_of_ble_eq_true rfl) ⟨Nat.le_of_ble_eq_true rfl, Nat.le_of_ble_eq_true rfl⟩ dX0_layOut_78 (fun x15 σ14 H locs hok hz hP hD hS => ?_)
            refine xiadd (v := (x7 + x11) + x15) S dX0_layOut_81 rfl ?_
            refine lv_aload_n hx hb dX0_layOut_82 rfl (lv_at hl 1 rfl) ?_
            refine lv_iload_n hx hb dX0_layOut_83 rfl (lv_at hl 0 rfl) ?_
            refine yVi (As := [.int l2_0]) (cw := (cW o u cI cZ cJ T)) (ci := 0) S (v_X0_ownLength_52 l D cI cZ cJ o u T ra ga σ14 l2_0 _ H.size hok) mi_X0_ownLength kw_2_74 rfl rfl ⟨Nat.le_of_ble_eq_true rfl, Nat.le_of_ble_eq_true rfl⟩ hP hD hK hS hA hB cW_52 rfl rfl hl.1 (Nat.le_of_ble_eq_true rfl) ⟨Nat.le_of_ble_eq_true rfl, Nat.le_of_ble_eq_true rfl⟩ dX0_layOut_84 (fun x17 σ16 H locs hok hz hP hD hS => ?_)
            refine xiadd (v := ((x7 + x11) + x15) + x17) S dX0_layOut_87 rfl ?_
            have h_88 := hok.1
            have hok := hok.2
            refine yiast (t0 := 0) (cw := (cW o u cI cZ cJ T)) S hK hP hD hS cW_62 rfl h_88 dX0_layOut_88 cWa_62 (fun σ18 H locs eσ18 hP hD hS => ?_)
            have hok := hok σ18 eσ18
            refine lv_aload_n hx hb dX0_layOut_89 rfl (lv_at hl 1 rfl) ?_
            refine xg (ci := 0) S inX0 rfl hK hP cW_52 16 (by decide) rfl kw_5_8 rfl dX0_layOut_90 ?_
            refine lv_iload_n hx hb dX0_layOut_93 rfl (lv_at hl 0 rfl) ?_
            refine lv_iconst (v := 0) hx hb dX0_layOut_94 (by decide) ?_
            have h_95 := hok.1
            have hok := hok.2
            refine yzast (t0 := 1) (cw := (cW o u cI cZ cJ T)) S hK hP hD hS cW_64 rfl h_95 dX0_layOut_95 (cWa_64 (Or.inl rfl)) (fun σ19 H locs eσ19 hP hD hS => ?_)
            have hok := hok σ19 eσ19
            refine lv_iinc (v := l2_0 + 1) (lv' := [(2, .int (l2_0 + 1)), (0, .ref (u 51)), (1, .int a1)]) hx hb dX0_layOut_96 hl (k := 0) rfl rfl (by decide) rfl (fun ls hl => ?_)
            refine lv_goto (tgt := 16) hx hb dX0_layOut_99 (by decide) ?_
            exact ih16 σ19 (l2_0 + 1) H locs ls hok (lv_sub hl [0, 1, 2] rfl) hP hD hS
          · have hok := hok.2 c_37
            refine lv_iconst (v := 1) hx hb dX0_layOut_40 (by decide) ?_
            refine lv_goto (tgt := 88) hx hb dX0_layOut_41 (by decide) ?_
            have h_88 := hok.1
            have hok := hok.2
            refine yiast (t0 := 0) (cw := (cW o u cI cZ cJ T)) S hK hP hD hS cW_62 rfl h_88 dX0_layOut_88 cWa_62 (fun σ20 H locs eσ20 hP hD hS => ?_)
            have hok := hok σ20 eσ20
            refine lv_aload_n hx hb dX0_layOut_89 rfl (lv_at hl 1 rfl) ?_
            refine xg (ci := 0) S inX0 rfl hK hP cW_52 16 (by decide) rfl kw_5_8 rfl dX0_layOut_90 ?_
            refine lv_iload_n hx hb dX0_layOut_93 rfl (lv_at hl 0 rfl) ?_
            refine lv_iconst (v := 0) hx hb dX0_layOut_94 (by decide) ?_
            have h_95 := hok.1
            have hok := hok.2
            refine yzast (t0 := 1) (cw := (cW o u cI cZ cJ T)) S hK hP hD hS cW_64 rfl h_95 dX0_layOut_95 (cWa_64 (Or.inl rfl)) (fun σ21 H locs eσ21 hP hD hS => ?_)
            have hok := hok σ21 eσ21
            refine lv_iinc (v := l2_0 + 1) (lv' := [(2, .int (l2_0 + 1)), (0, .ref (u 51)), (1, .int a1)]) hx hb dX0_layOut_96 hl (k := 0) rfl rfl (by decide) rfl (fun ls hl => ?_)
            refine lv_goto (tgt := 16) hx hb dX0_layOut_99 (by decide) ?_
            exact ih16 σ21 (l2_0 + 1) H locs ls hok (lv_sub hl [0, 1, 2] rfl) hP hD hS
    refine lp16 _ ?_ FUEL σ1 0 _ _ _ hok (lv_sub hl [0, 1, 2] rfl) hP hD hS
    intro σ22 x23 H locs ls hok hl hP hD hS
    refine lv_aload_n hx hb dX0_layOut_102 rfl (lv_at hl 1 rfl) ?_
    refine yVv (As := []) (cw := (cW o u cI cZ cJ T)) (ci := 0) S (v_X0_placeProcedures_52 l D cI cZ cJ o u T ra ga σ22 _ H.size hok) mi_X0_placeProcedures kw_2_82 rfl rfl ⟨Nat.le_of_ble_eq_true rfl, Nat.le_of_ble_eq_true rfl⟩ hP hD hK hS hA hB cW_52 rfl rfl hl.1 (Nat.le_of_ble_eq_true rfl) ⟨Nat.le_of_ble_eq_true rfl, Nat.le_of_ble_eq_true rfl⟩ dX0_layOut_103 (fun σ24 H locs hok hz hP hD hS => ?_)
    refine lv_aload_n hx hb dX0_layOut_106 rfl (lv_at hl 1 rfl) ?_
    refine xg (ci := 0) S inX0 rfl hK hP cW_52 1 (by decide) rfl kw_4_216 rfl dX0_layOut_107 ?_
    refine xg (ci := 5) S inX5 rfl hK hP cW_13 0 (by decide) rfl kw_4_39 rfl dX0_layOut_110 ?_
    refine lv_iconst (v := 1) hx hb dX0_layOut_113 (by decide) ?_
    refine xisub (v := (σ24.1 13 0) - 1) S dX0_layOut_114 rfl ?_
    refine lv_topi (fun x25 ex25 => ?_)
    have hok := hok x25 ex25
    refine lv_istore_n (lv' := [(2, .int x25), (0, .ref (u 51)), (1, .int a1)]) hx hb dX0_layOut_115 rfl hl (by decide) rfl (fun ls hl => ?_)
    have lp116 : ∀ (K : FS → Int32 → Prop), (∀ (τ0 : FS) (l2_0 : Int32) (H : Heap) (locs : List Loc) (ls : Array Slot), K τ0 l2_0 → lv_has ls 3 [(2, .int l2_0), (0, .ref (u 51)), (1, .int a1)] → va_P D vwCl (cW o u cI cZ cJ T τ0) H → va_D A (cW o u cI cZ cJ T τ0) → va_S A s.heap H locs → W p l e ({ frames := 4, cells := 0, slots := 0, locals := 96 }) s m args below meth c H locs 0 0 (MQ below (yQv Φ D (cW o u cI cZ cJ T) A) args s 0 0 A) (F0 m 144 ls [])) → ∀ (n0 : Nat) (τ0 : FS) (l2_0 : Int32) (H : Heap) (locs : List Loc) (ls : Array Slot), wp_X0_layOut_116 52 a1 Φ K n0 τ0 l2_0 → lv_has ls 3 [(2, .int l2_0), (0, .ref (u 51)), (1, .int a1)] → va_P D vwCl (cW o u cI cZ cJ T τ0) H → va_D A (cW o u cI cZ cJ T τ0) → va_S A s.heap H locs → W p l e ({ frames := 4, cells := 0, slots := 0, locals := 96 }) s m args below meth c H locs 0 0 (MQ below (yQv Φ D (cW o u cI cZ cJ T) A) args s 0 0 A) (F0 m 116 ls []) := by
      intro K hk n0
      induction n0 with
      | zero => intro τ0 l2_0 H locs ls hok; exact False.elim hok
      | succ n0 ih116 =>
        intro τ0 l2_0 H locs ls hok hl hP hD hS
        refine lv_iload_n hx hb dX0_layOut_116 rfl (lv_at hl 0 rfl) ?_
        refine lv_if_lt (tgt := 144) hx hb dX0_layOut_117 (by decide) (fun c_117 => ?_) (fun c_117 => ?_)
        · have hok := hok.1 c_117
          exact hk τ0 l2_0 H locs ls hok (lv_sub hl [0, 1, 2] rfl) hP hD hS
        · have hok := hok.2 c_117
          refine lv_aload_n hx hb dX0_layOut_120 rfl (lv_at hl 1 rfl) ?_
          refine xg (ci := 0) S inX0 rfl hK hP cW_52 2 (by decide) rfl kw_4_217 rfl dX0_layOut_121 ?_
          refine xg (ci := 4) S inX4 rfl hK hP cW_20 2 (by decide) rfl kw_4_90 rfl dX0_layOut_124 ?_
          refine lv_iload_n hx hb dX0_layOut_127 rfl (lv_at hl 0 rfl) ?_
          have h_128 := hok.1
          have hok := hok.2
          refine xiald (t0 := 0) (v := (g τ0 21 l2_0)) S hK hP cW_21 rfl h_128 rfl dX0_layOut_128 ?_
          refine lv_iconst (v := (-1)) hx hb dX0_layOut_129 (by decide) ?_
          refine lv_icmp_eq (tgt := 138) hx hb dX0_layOut_130 (by decide) (fun c_130 => ?_) (fun c_130 => ?_)
          · have hok := hok.1 c_130
            refine lv_iinc (v := l2_0 + (-1)) (lv' := [(2, .int (l2_0 + (-1))), (0, .ref (u 51)), (1, .int a1)]) hx hb dX0_layOut_138 hl (k := 0) rfl rfl (by decide) rfl (fun ls hl => ?_)
            refine lv_goto (tgt := 116) hx hb dX0_layOut_141 (by decide) ?_
            exact ih116 τ0 (l2_0 + (-1)) H locs ls hok (lv_sub hl [0, 1, 2] rfl) hP hD hS
          · have hok := hok.2 c_130
            refine lv_aload_n hx hb dX0_layOut_133 rfl (lv_at hl 1 rfl) ?_
            refine lv_iload_n hx hb dX0_layOut_134 rfl (lv_at hl 0 rfl) ?_
            refine yVv (As := [.int l2_0]) (cw := (cW o u cI cZ cJ T)) (ci := 0) S (v_X0_placeParts_52 l D cI cZ cJ o u T ra ga τ0 l2_0 _ H.size hok) mi_X0_placeParts kw_2_94 rfl rfl ⟨Nat.le_of_ble_eq_true rfl, Nat.le_of_ble_eq_true rfl⟩ hP hD hK hS hA hB cW_52 rfl rfl hl.1 (Nat.le_of_ble_eq_true rfl) ⟨Nat.le_of_ble_eq_true rfl, Nat.le_of_ble_eq_true rfl⟩ dX0_layOut_135 (fun σ26 H locs hok hz hP hD hS => ?_)
            refine lv_iinc (v := l2_0 + (-1)) (lv' := [(2, .int (l2_0 + (-1))), (0, .ref (u 51)), (1, .int a1)]) hx hb dX0_layOut_138 hl (k := 0) rfl rfl (by decide) rfl (fun ls hl => ?_)
            refine lv_goto (tgt := 116) hx hb dX0_layOut_141 (by decide) ?_
            exact ih116 σ26 (l2_0 + (-1)) H locs ls hok (lv_sub hl [0, 1, 2] rfl) hP hD hS
    refine lp116 _ ?_ FUEL σ24 x25 _ _ _ hok (lv_sub hl [0, 1, 2] rfl) hP hD hS
    intro σ27 x28 H locs ls hok hl hP hD hS
    refine lv_iconst (v := 0) hx hb dX0_layOut_144 (by decide) ?_
    refine lv_istore_n (lv' := [(2, .int 0), (0, .ref (u 51)), (1, .int a1)]) hx hb dX0_layOut_145 rfl hl (by decide) rfl (fun ls hl => ?_)
    have lp146 : ∀ (K : FS → Int32 → Prop), (∀ (τ0 : FS) (l2_0 : Int32) (H : Heap) (locs : List Loc) (ls : Array Slot), K τ0 l2_0 → lv_has ls 3 [(2, .int l2_0), (0, .ref (u 51)), (1, .int a1)] → va_P D vwCl (cW o u cI cZ cJ T τ0) H → va_D A (cW o u cI cZ cJ T τ0) → va_S A s.heap H locs → W p l e ({ frames := 4, cells := 0, slots := 0, locals := 96 }) s m args below meth c H locs 0 0 (MQ below (yQv Φ D (cW o u cI cZ cJ T) A) args s 0 0 A) (F0 m 186 ls [])) → ∀ (n0 : Nat) (τ0 : FS) (l2_0 : Int32) (H : Heap) (locs : List Loc) (ls : Array Slot), wp_X0_layOut_146 52 a1 Φ K n0 τ0 l2_0 → lv_has ls 3 [(2, .int l2_0), (0, .ref (u 51)), (1, .int a1)] → va_P D vwCl (cW o u cI cZ cJ T τ0) H → va_D A (cW o u cI cZ cJ T τ0) → va_S A s.heap H locs → W p l e ({ frames := 4, cells := 0, slots := 0, locals := 96 }) s m args below meth c H locs 0 0 (MQ below (yQv Φ D (cW o u cI cZ cJ T) A) args s 0 0 A) (F0 m 146 ls []) := by
      intro K hk n0
      induction n0 with
      | zero => intro τ0 l2_0 H locs ls hok; exact False.elim hok
      | succ n0 ih146 =>
        intro τ0 l2_0 H locs ls hok hl hP hD hS
        refine lv_iload_n hx hb dX0_layOut_146 rfl (lv_at hl 0 rfl) ?_
        refine lv_aload_n hx hb dX0_layOut_147 rfl (lv_at hl 1 rfl) ?_
        refine xg (ci := 0) S inX0 rfl hK hP cW_52 1 (by decide) rfl kw_4_216 rfl dX0_layOut_148 ?_
        refine xg (ci := 5) S inX5 rfl hK hP cW_13 0 (by decide) rfl kw_4_39 rfl dX0_layOut_151 ?_
        refine lv_icmp_ge (tgt := 186) hx hb dX0_layOut_154 (by decide) (fun c_154 => ?_) (fun c_154 => ?_)
        · have hok := hok.1 c_154
          exact hk τ0 l2_0 H locs ls hok (lv_sub hl [0, 1, 2] rfl) hP hD hS
        · have hok := hok.2 c_154
          refine lv_aload_n hx hb dX0_layOut_157 rfl (lv_at hl 1 rfl) ?_
          refine xg (ci := 0) S inX0 rfl hK hP cW_52 2 (by decide) rfl kw_4_217 rfl dX0_layOut_158 ?_
          refine xg (ci := 4) S inX4 rfl hK hP cW_20 2 (by decide) rfl kw_4_90 rfl dX0_layOut_161 ?_
          refine lv_iload_n hx hb dX0_layOut_164 rfl (lv_at hl 0 rfl) ?_
          have h_165 := hok.1
          have hok := hok.2
          refine xiald (t0 := 0) (v := (g τ0 21 l2_0)) S hK hP cW_21 rfl h_165 rfl dX0_layOut_165 ?_
          refine lv_iconst (v := (-1)) hx hb dX0_layOut_166 (by decide) ?_
          refine lv_icmp_eq (tgt := 180) hx hb dX0_layOut_167 (by decide) (fun c_167 => ?_) (fun c_167 => ?_)
          · have hok := hok.1 c_167
            refine lv_iinc (v := l2_0 + 1) (lv' := [(2, .int (l2_0 + 1)), (0, .ref (u 51)), (1, .int a1)]) hx hb dX0_layOut_180 hl (k := 0) rfl rfl (by decide) rfl (fun ls hl => ?_)
            refine lv_goto (tgt := 146) hx hb dX0_layOut_183 (by decide) ?_
            exact ih146 τ0 (l2_0 + 1) H locs ls hok (lv_sub hl [0, 1, 2] rfl) hP hD hS
          · have hok := hok.2 c_167
            refine lv_aload_n hx hb dX0_layOut_170 rfl (lv_at hl 1 rfl) ?_
            refine lv_iload_n hx hb dX0_layOut_171 rfl (lv_at hl 0 rfl) ?_
            refine yVv (As := [.int l2_0]) (cw := (cW o u cI cZ cJ T)) (ci := 0) S (v_X0_noteBegin_52 l D cI cZ cJ o u T ra ga τ0 l2_0 _ H.size hok) mi_X0_noteBegin kw_2_106 rfl rfl ⟨Nat.le_of_ble_eq_true rfl, Nat.le_of_ble_eq_true rfl⟩ hP hD hK hS hA hB cW_52 rfl rfl hl.1 (Nat.le_of_ble_eq_true rfl) ⟨Nat.le_of_ble_eq_true rfl, Nat.le_of_ble_eq_true rfl⟩ dX0_layOut_172 (fun σ29 H locs hok hz hP hD hS => ?_)
            refine lv_aload_n hx hb dX0_layOut_175 rfl (lv_at hl 1 rfl) ?_
            refine lv_iload_n hx hb dX0_layOut_176 rfl (lv_at hl 0 rfl) ?_
            refine yVv (As := [.int l2_0]) (cw := (cW o u cI cZ cJ T)) (ci := 0) S (v_X0_write_52 l D cI cZ cJ o u T ra ga σ29 l2_0 _ H.size hok) mi_X0_write kw_2_110 rfl rfl ⟨Nat.le_of_ble_eq_true rfl, Nat.le_of_ble_eq_true rfl⟩ hP hD hK hS hA hB cW_52 rfl rfl hl.1 (Nat.le_of_ble_eq_true rfl) ⟨Nat.le_of_ble_eq_true rfl, Nat.le_of_ble_eq_true rfl⟩ dX0_layOut_177 (fun σ30 H locs hok hz hP hD hS => ?_)
            refine lv_iinc (v := l2_0 + 1) (lv' := [(2, .int (l2_0 + 1)), (0, .ref (u 51)), (1, .int a1)]) hx hb dX0_layOut_180 hl (k := 0) rfl rfl (by decide) rfl (fun ls hl => ?_)
            refine lv_goto (tgt := 146) hx hb dX0_layOut_183 (by decide) ?_
            exact ih146 σ30 (l2_0 + 1) H locs ls hok (lv_sub hl [0, 1, 2] rfl) hP hD hS
    refine lp146 _ ?_ FUEL σ27 0 _ _ _ hok (lv_sub hl [0, 1, 2] rfl) hP hD hS
    intro σ31 x32 H locs ls hok hl hP hD hS
    exact yEndv S hr hlocks hP hD hS (Nat.le_of_ble_eq_true rfl) (Nat.le_of_ble_eq_true rfl) dX0_layOut_186 hok
  · have hok := hok.1 c_5
    exact yEndv S hr hlocks hP hD hS (Nat.le_of_ble_eq_true rfl) (Nat.le_of_ble_eq_true rfl) dX0_layOut_8 hok

set_option maxHeartbeats 8000000 in
set_option maxRecDepth 100000 in
theorem v_X7_cut_66 (l : Launch) (D : va_G) (cI cZ cJ : ClassId) (o : Nat) (u : Nat → Nat) (T : Nat) (ra : Nat → Nat) (ga : SG) (σ : FS) (a1 : Int32) (Φ : FS → Prop) (sz : Nat) (hok : (wp_X7_cut 66 128 σ a1 Φ)) : Met l yX7_cut (uW yX7_cut cX7_cut 2 none) ({ frames := 0, cells := 0, slots := 0, locals := 0 }) (va_Pc [.ref (u 65), .int a1] (aS ra ga D (tyL cI cZ cJ) (cW o u cI cZ cJ T σ) sz)) (yQv Φ D (cW o u cI cZ cJ T) (va_A (cW o u cI cZ cJ T σ) sz)) 0 0 (va_A (cW o u cI cZ cJ T σ) sz) := by
  refine aStart (lv := [(0, .ref (u 65)), (1, .int a1)]) (Qc := fun A => yQv Φ D (cW o u cI cZ cJ T) A) (by decide) (Nat.le_of_ble_eq_true rfl) rfl ?_
  intro p e s m args below meth c ls A H S hr hlocks hnm hl hK hP hD hS hA hB
  have hx := S.1
  have hb := S.2.1
  refine lv_iload_n hx hb dX7_cut_0 rfl (lv_at hl 1 rfl) ?_
  refine lv_if_lt (tgt := 17) hx hb dX7_cut_1 (by decide) (fun c_1 => ?_) (fun c_1 => ?_)
  · have hok := hok.1 c_1
    exact yEndv S hr hlocks hP hD hS (Nat.le_of_ble_eq_true rfl) (Nat.le_of_ble_eq_true rfl) dX7_cut_17 hok
  · have hok := hok.2 c_1
    refine lv_iload_n hx hb dX7_cut_4 rfl (lv_at hl 1 rfl) ?_
    refine lv_aload_n hx hb dX7_cut_5 rfl (lv_at hl 0 rfl) ?_
    refine xg (ci := 7) S inX7 rfl hK hP cW_66 2 (by decide) rfl kw_5_56 rfl dX7_cut_6 ?_
    refine lv_icmp_ge (tgt := 17) hx hb dX7_cut_9 (by decide) (fun c_9 => ?_) (fun c_9 => ?_)
    · have hok := hok.1 c_9
      exact yEndv S hr hlocks hP hD hS (Nat.le_of_ble_eq_true rfl) (Nat.le_of_ble_eq_true rfl) dX7_cut_17 hok
    · have hok := hok.2 c_9
      refine lv_aload_n hx hb dX7_cut_12 rfl (lv_at hl 0 rfl) ?_
      refine lv_iload_n hx hb dX7_cut_13 rfl (lv_at hl 1 rfl) ?_
      refine yp (ci := 7) (v := .int a1) (cw := (cW o u cI cZ cJ T)) S inX7 tyX7 tyX7_ok nmX7 rfl hK hP hD hS cW_66 2 (by decide) kw_5_56 rfl rfl rfl rfl (Nat.le_of_ble_eq_true rfl) dX7_cut_14 cWp_66_2 (fun σ1 H locs eσ1 hP hD hS => ?_)
      have hok := hok σ1 eσ1
      exact yEndv S hr hlocks hP hD hS (Nat.le_of_ble_eq_true rfl) (Nat.le_of_ble_eq_true rfl) dX7_cut_17 hok

set_option maxHeartbeats 8000000 in
set_option maxRecDepth 100000 in
theorem v_X7_cut_68 (l : Launch) (D : va_G) (cI cZ cJ : ClassId) (o : Nat) (u : Nat → Nat) (T : Nat) (ra : Nat → Nat) (ga : SG) (σ : FS) (a1 : Int32) (Φ : FS → Prop) (sz : Nat) (hok : (wp_X7_cut 68 128 σ a1 Φ)) : Met l yX7_cut (uW yX7_cut cX7_cut 2 none) ({ frames := 0, cells := 0, slots := 0, locals := 0 }) (va_Pc [.ref (u 67), .int a1] (aS ra ga D (tyL cI cZ cJ) (cW o u cI cZ cJ T σ) sz)) (yQv Φ D (cW o u cI cZ cJ T) (va_A (cW o u cI cZ cJ T σ) sz)) 0 0 (va_A (cW o u cI cZ cJ T σ) sz) := by
  refine aStart (lv := [(0, .ref (u 67)), (1, .int a1)]) (Qc := fun A => yQv Φ D (cW o u cI cZ cJ T) A) (by decide) (Nat.le_of_ble_eq_true rfl) rfl ?_
  intro p e s m args below meth c ls A H S hr hlocks hnm hl hK hP hD hS hA hB
  have hx := S.1
  have hb := S.2.1
  refine lv_iload_n hx hb dX7_cut_0 rfl (lv_at hl 1 rfl) ?_
  refine lv_if_lt (tgt := 17) hx hb dX7_cut_1 (by decide) (fun c_1 => ?_) (fun c_1 => ?_)
  · have hok := hok.1 c_1
    exact yEndv S hr hlocks hP hD hS (Nat.le_of_ble_eq_true rfl) (Nat.le_of_ble_eq_true rfl) dX7_cut_17 hok
  · have hok := hok.2 c_1
    refine lv_iload_n hx hb dX7_cut_4 rfl (lv_at hl 1 rfl) ?_
    refine lv_aload_n hx hb dX7_cut_5 rfl (lv_at hl 0 rfl) ?_
    refine xg (ci := 7) S inX7 rfl hK hP cW_68 2 (by decide) rfl kw_5_56 rfl dX7_cut_6 ?_
    refine lv_icmp_ge (tgt := 17) hx hb dX7_cut_9 (by decide) (fun c_9 => ?_) (fun c_9 => ?_)
    · have hok := hok.1 c_9
      exact yEndv S hr hlocks hP hD hS (Nat.le_of_ble_eq_true rfl) (Nat.le_of_ble_eq_true rfl) dX7_cut_17 hok
    · have hok := hok.2 c_9
      refine lv_aload_n hx hb dX7_cut_12 rfl (lv_at hl 0 rfl) ?_
      refine lv_iload_n hx hb dX7_cut_13 rfl (lv_at hl 1 rfl) ?_
      refine yp (ci := 7) (v := .int a1) (cw := (cW o u cI cZ cJ T)) S inX7 tyX7 tyX7_ok nmX7 rfl hK hP hD hS cW_68 2 (by decide) kw_5_56 rfl rfl rfl rfl (Nat.le_of_ble_eq_true rfl) dX7_cut_14 cWp_68_2 (fun σ1 H locs eσ1 hP hD hS => ?_)
      have hok := hok σ1 eσ1
      exact yEndv S hr hlocks hP hD hS (Nat.le_of_ble_eq_true rfl) (Nat.le_of_ble_eq_true rfl) dX7_cut_17 hok

set_option maxHeartbeats 8000000 in
set_option maxRecDepth 100000 in
theorem v_X7_cut_70 (l : Launch) (D : va_G) (cI cZ cJ : ClassId) (o : Nat) (u : Nat → Nat) (T : Nat) (ra : Nat → Nat) (ga : SG) (σ : FS) (a1 : Int32) (Φ : FS → Prop) (sz : Nat) (hok : (wp_X7_cut 70 192 σ a1 Φ)) : Met l yX7_cut (uW yX7_cut cX7_cut 2 none) ({ frames := 0, cells := 0, slots := 0, locals := 0 }) (va_Pc [.ref (u 69), .int a1] (aS ra ga D (tyL cI cZ cJ) (cW o u cI cZ cJ T σ) sz)) (yQv Φ D (cW o u cI cZ cJ T) (va_A (cW o u cI cZ cJ T σ) sz)) 0 0 (va_A (cW o u cI cZ cJ T σ) sz) := by
  refine aStart (lv := [(0, .ref (u 69)), (1, .int a1)]) (Qc := fun A => yQv Φ D (cW o u cI cZ cJ T) A) (by decide) (Nat.le_of_ble_eq_true rfl) rfl ?_
  intro p e s m args below meth c ls A H S hr hlocks hnm hl hK hP hD hS hA hB
  have hx := S.1
  have hb := S.2.1
  refine lv_iload_n hx hb dX7_cut_0 rfl (lv_at hl 1 rfl) ?_
  refine lv_if_lt (tgt := 17) hx hb dX7_cut_1 (by decide) (fun c_1 => ?_) (fun c_1 => ?_)
  · have hok := hok.1 c_1
    exact yEndv S hr hlocks hP hD hS (Nat.le_of_ble_eq_true rfl) (Nat.le_of_ble_eq_true rfl) dX7_cut_17 hok
  · have hok := hok.2 c_1
    refine lv_iload_n hx hb dX7_cut_4 rfl (lv_at hl 1 rfl) ?_
    refine lv_aload_n hx hb dX7_cut_5 rfl (lv_at hl 0 rfl) ?_
    refine xg (ci := 7) S inX7 rfl hK hP cW_70 2 (by decide) rfl kw_5_56 rfl dX7_cut_6 ?_
    refine lv_icmp_ge (tgt := 17) hx hb dX7_cut_9 (by decide) (fun c_9 => ?_) (fun c_9 => ?_)
    · have hok := hok.1 c_9
      exact yEndv S hr hlocks hP hD hS (Nat.le_of_ble_eq_true rfl) (Nat.le_of_ble_eq_true rfl) dX7_cut_17 hok
    · have hok := hok.2 c_9
      refine lv_aload_n hx hb dX7_cut_12 rfl (lv_at hl 0 rfl) ?_
      refine lv_iload_n hx hb dX7_cut_13 rfl (lv_at hl 1 rfl) ?_
      refine yp (ci := 7) (v := .int a1) (cw := (cW o u cI cZ cJ T)) S inX7 tyX7 tyX7_ok nmX7 rfl hK hP hD hS cW_70 2 (by decide) kw_5_56 rfl rfl rfl rfl (Nat.le_of_ble_eq_true rfl) dX7_cut_14 cWp_70_2 (fun σ1 H locs eσ1 hP hD hS => ?_)
      have hok := hok σ1 eσ1
      exact yEndv S hr hlocks hP hD hS (Nat.le_of_ble_eq_true rfl) (Nat.le_of_ble_eq_true rfl) dX7_cut_17 hok

set_option maxHeartbeats 8000000 in
set_option maxRecDepth 100000 in
theorem v_X7_cut_72 (l : Launch) (D : va_G) (cI cZ cJ : ClassId) (o : Nat) (u : Nat → Nat) (T : Nat) (ra : Nat → Nat) (ga : SG) (σ : FS) (a1 : Int32) (Φ : FS → Prop) (sz : Nat) (hok : (wp_X7_cut 72 320 σ a1 Φ)) : Met l yX7_cut (uW yX7_cut cX7_cut 2 none) ({ frames := 0, cells := 0, slots := 0, locals := 0 }) (va_Pc [.ref (u 71), .int a1] (aS ra ga D (tyL cI cZ cJ) (cW o u cI cZ cJ T σ) sz)) (yQv Φ D (cW o u cI cZ cJ T) (va_A (cW o u cI cZ cJ T σ) sz)) 0 0 (va_A (cW o u cI cZ cJ T σ) sz) := by
  refine aStart (lv := [(0, .ref (u 71)), (1, .int a1)]) (Qc := fun A => yQv Φ D (cW o u cI cZ cJ T) A) (by decide) (Nat.le_of_ble_eq_true rfl) rfl ?_
  intro p e s m args below meth c ls A H S hr hlocks hnm hl hK hP hD hS hA hB
  have hx := S.1
  have hb := S.2.1
  refine lv_iload_n hx hb dX7_cut_0 rfl (lv_at hl 1 rfl) ?_
  refine lv_if_lt (tgt := 17) hx hb dX7_cut_1 (by decide) (fun c_1 => ?_) (fun c_1 => ?_)
  · have hok := hok.1 c_1
    exact yEndv S hr hlocks hP hD hS (Nat.le_of_ble_eq_true rfl) (Nat.le_of_ble_eq_true rfl) dX7_cut_17 hok
  · have hok := hok.2 c_1
    refine lv_iload_n hx hb dX7_cut_4 rfl (lv_at hl 1 rfl) ?_
    refine lv_aload_n hx hb dX7_cut_5 rfl (lv_at hl 0 rfl) ?_
    refine xg (ci := 7) S inX7 rfl hK hP cW_72 2 (by decide) rfl kw_5_56 rfl dX7_cut_6 ?_
    refine lv_icmp_ge (tgt := 17) hx hb dX7_cut_9 (by decide) (fun c_9 => ?_) (fun c_9 => ?_)
    · have hok := hok.1 c_9
      exact yEndv S hr hlocks hP hD hS (Nat.le_of_ble_eq_true rfl) (Nat.le_of_ble_eq_true rfl) dX7_cut_17 hok
    · have hok := hok.2 c_9
      refine lv_aload_n hx hb dX7_cut_12 rfl (lv_at hl 0 rfl) ?_
      refine lv_iload_n hx hb dX7_cut_13 rfl (lv_at hl 1 rfl) ?_
      refine yp (ci := 7) (v := .int a1) (cw := (cW o u cI cZ cJ T)) S inX7 tyX7 tyX7_ok nmX7 rfl hK hP hD hS cW_72 2 (by decide) kw_5_56 rfl rfl rfl rfl (Nat.le_of_ble_eq_true rfl) dX7_cut_14 cWp_72_2 (fun σ1 H locs eσ1 hP hD hS => ?_)
      have hok := hok σ1 eσ1
      exact yEndv S hr hlocks hP hD hS (Nat.le_of_ble_eq_true rfl) (Nat.le_of_ble_eq_true rfl) dX7_cut_17 hok

set_option maxHeartbeats 8000000 in
set_option maxRecDepth 100000 in
theorem v_X7_cut_74 (l : Launch) (D : va_G) (cI cZ cJ : ClassId) (o : Nat) (u : Nat → Nat) (T : Nat) (ra : Nat → Nat) (ga : SG) (σ : FS) (a1 : Int32) (Φ : FS → Prop) (sz : Nat) (hok : (wp_X7_cut 74 320 σ a1 Φ)) : Met l yX7_cut (uW yX7_cut cX7_cut 2 none) ({ frames := 0, cells := 0, slots := 0, locals := 0 }) (va_Pc [.ref (u 73), .int a1] (aS ra ga D (tyL cI cZ cJ) (cW o u cI cZ cJ T σ) sz)) (yQv Φ D (cW o u cI cZ cJ T) (va_A (cW o u cI cZ cJ T σ) sz)) 0 0 (va_A (cW o u cI cZ cJ T σ) sz) := by
  refine aStart (lv := [(0, .ref (u 73)), (1, .int a1)]) (Qc := fun A => yQv Φ D (cW o u cI cZ cJ T) A) (by decide) (Nat.le_of_ble_eq_true rfl) rfl ?_
  intro p e s m args below meth c ls A H S hr hlocks hnm hl hK hP hD hS hA hB
  have hx := S.1
  have hb := S.2.1
  refine lv_iload_n hx hb dX7_cut_0 rfl (lv_at hl 1 rfl) ?_
  refine lv_if_lt (tgt := 17) hx hb dX7_cut_1 (by decide) (fun c_1 => ?_) (fun c_1 => ?_)
  · have hok := hok.1 c_1
    exact yEndv S hr hlocks hP hD hS (Nat.le_of_ble_eq_true rfl) (Nat.le_of_ble_eq_true rfl) dX7_cut_17 hok
  · have hok := hok.2 c_1
    refine lv_iload_n hx hb dX7_cut_4 rfl (lv_at hl 1 rfl) ?_
    refine lv_aload_n hx hb dX7_cut_5 rfl (lv_at hl 0 rfl) ?_
    refine xg (ci := 7) S inX7 rfl hK hP cW_74 2 (by decide) rfl kw_5_56 rfl dX7_cut_6 ?_
    refine lv_icmp_ge (tgt := 17) hx hb dX7_cut_9 (by decide) (fun c_9 => ?_) (fun c_9 => ?_)
    · have hok := hok.1 c_9
      exact yEndv S hr hlocks hP hD hS (Nat.le_of_ble_eq_true rfl) (Nat.le_of_ble_eq_true rfl) dX7_cut_17 hok
    · have hok := hok.2 c_9
      refine lv_aload_n hx hb dX7_cut_12 rfl (lv_at hl 0 rfl) ?_
      refine lv_iload_n hx hb dX7_cut_13 rfl (lv_at hl 1 rfl) ?_
      refine yp (ci := 7) (v := .int a1) (cw := (cW o u cI cZ cJ T)) S inX7 tyX7 tyX7_ok nmX7 rfl hK hP hD hS cW_74 2 (by decide) kw_5_56 rfl rfl rfl rfl (Nat.le_of_ble_eq_true rfl) dX7_cut_14 cWp_74_2 (fun σ1 H locs eσ1 hP hD hS => ?_)
      have hok := hok σ1 eσ1
      exact yEndv S hr hlocks hP hD hS (Nat.le_of_ble_eq_true rfl) (Nat.le_of_ble_eq_true rfl) dX7_cut_17 hok

set_option maxHeartbeats 8000000 in
set_option maxRecDepth 100000 in
theorem v_X3_clear (l : Launch) (D : va_G) (cI cZ cJ : ClassId) (o : Nat) (u : Nat → Nat) (T : Nat) (ra : Nat → Nat) (ga : SG) (σ : FS) (Φ : FS → Prop) (sz : Nat) (hok : (wp_X3_clear σ Φ)) : Met l yX3_clear (uW yX3_clear cX3_clear 1 none) ({ frames := 1, cells := 0, slots := 0, locals := 21 }) (va_Pc [.ref (u 64)] (aS ra ga D (tyL cI cZ cJ) (cW o u cI cZ cJ T σ) sz)) (yQv Φ D (cW o u cI cZ cJ T) (va_A (cW o u cI cZ cJ T σ) sz)) 0 0 (va_A (cW o u cI cZ cJ T σ) sz) := by
  refine aStart (lv := [(0, .ref (u 64))]) (Qc := fun A => yQv Φ D (cW o u cI cZ cJ T) A) (by decide) (Nat.le_of_ble_eq_true rfl) rfl ?_
  intro p e s m args below meth c ls A H S hr hlocks hnm hl hK hP hD hS hA hB
  have hx := S.1
  have hb := S.2.1
  refine lv_aload_n hx hb dX3_clear_0 rfl (lv_at hl 0 rfl) ?_
  refine xg (ci := 3) S inX3 rfl hK hP cW_65 4 (by decide) rfl kw_5_133 rfl dX3_clear_1 ?_
  refine lv_iconst (v := 0) hx hb dX3_clear_4 (by decide) ?_
  refine yVv (As := [.int 0]) (cw := (cW o u cI cZ cJ T)) (ci := 7) S (v_X7_cut_66 l D cI cZ cJ o u T ra ga σ 0 _ H.size hok) mi_X7_cut kw_2_212 rfl rfl ⟨Nat.le_of_ble_eq_true rfl, Nat.le_of_ble_eq_true rfl⟩ hP hD hK hS hA hB cW_66 rfl rfl hl.1 (Nat.le_of_ble_eq_true rfl) ⟨Nat.le_of_ble_eq_true rfl, Nat.le_of_ble_eq_true rfl⟩ dX3_clear_5 (fun σ1 H locs hok hz hP hD hS => ?_)
  refine lv_aload_n hx hb dX3_clear_8 rfl (lv_at hl 0 rfl) ?_
  refine xg (ci := 3) S inX3 rfl hK hP cW_65 5 (by decide) rfl kw_5_134 rfl dX3_clear_9 ?_
  refine lv_iconst (v := 0) hx hb dX3_clear_12 (by decide) ?_
  refine yVv (As := [.int 0]) (cw := (cW o u cI cZ cJ T)) (ci := 7) S (v_X7_cut_68 l D cI cZ cJ o u T ra ga σ1 0 _ H.size hok) mi_X7_cut kw_2_212 rfl rfl ⟨Nat.le_of_ble_eq_true rfl, Nat.le_of_ble_eq_true rfl⟩ hP hD hK hS hA hB cW_68 rfl rfl hl.1 (Nat.le_of_ble_eq_true rfl) ⟨Nat.le_of_ble_eq_true rfl, Nat.le_of_ble_eq_true rfl⟩ dX3_clear_13 (fun σ2 H locs hok hz hP hD hS => ?_)
  refine lv_aload_n hx hb dX3_clear_16 rfl (lv_at hl 0 rfl) ?_
  refine xg (ci := 3) S inX3 rfl hK hP cW_65 6 (by decide) rfl kw_5_135 rfl dX3_clear_17 ?_
  refine lv_iconst (v := 0) hx hb dX3_clear_20 (by decide) ?_
  refine yVv (As := [.int 0]) (cw := (cW o u cI cZ cJ T)) (ci := 7) S (v_X7_cut_70 l D cI cZ cJ o u T ra ga σ2 0 _ H.size hok) mi_X7_cut kw_2_212 rfl rfl ⟨Nat.le_of_ble_eq_true rfl, Nat.le_of_ble_eq_true rfl⟩ hP hD hK hS hA hB cW_70 rfl rfl hl.1 (Nat.le_of_ble_eq_true rfl) ⟨Nat.le_of_ble_eq_true rfl, Nat.le_of_ble_eq_true rfl⟩ dX3_clear_21 (fun σ3 H locs hok hz hP hD hS => ?_)
  refine lv_aload_n hx hb dX3_clear_24 rfl (lv_at hl 0 rfl) ?_
  refine xg (ci := 3) S inX3 rfl hK hP cW_65 7 (by decide) rfl kw_5_136 rfl dX3_clear_25 ?_
  refine lv_iconst (v := 0) hx hb dX3_clear_28 (by decide) ?_
  refine yVv (As := [.int 0]) (cw := (cW o u cI cZ cJ T)) (ci := 7) S (v_X7_cut_72 l D cI cZ cJ o u T ra ga σ3 0 _ H.size hok) mi_X7_cut kw_2_212 rfl rfl ⟨Nat.le_of_ble_eq_true rfl, Nat.le_of_ble_eq_true rfl⟩ hP hD hK hS hA hB cW_72 rfl rfl hl.1 (Nat.le_of_ble_eq_true rfl) ⟨Nat.le_of_ble_eq_true rfl, Nat.le_of_ble_eq_true rfl⟩ dX3_clear_29 (fun σ4 H locs hok hz hP hD hS => ?_)
  refine lv_aload_n hx hb dX3_clear_32 rfl (lv_at hl 0 rfl) ?_
  refine xg (ci := 3) S inX3 rfl hK hP cW_65 8 (by decide) rfl kw_5_137 rfl dX3_clear_33 ?_
  refine lv_iconst (v := 0) hx hb dX3_clear_36 (by decide) ?_
  refine yVv (As := [.int 0]) (cw := (cW o u cI cZ cJ T)) (ci := 7) S (v_X7_cut_74 l D cI cZ cJ o u T ra ga σ4 0 _ H.size hok) mi_X7_cut kw_2_212 rfl rfl ⟨Nat.le_of_ble_eq_true rfl, Nat.le_of_ble_eq_true rfl⟩ hP hD hK hS hA hB cW_74 rfl rfl hl.1 (Nat.le_of_ble_eq_true rfl) ⟨Nat.le_of_ble_eq_true rfl, Nat.le_of_ble_eq_true rfl⟩ dX3_clear_37 (fun σ5 H locs hok hz hP hD hS => ?_)
  refine lv_aload_n hx hb dX3_clear_40 rfl (lv_at hl 0 rfl) ?_
  refine lv_iconst (v := (-1)) hx hb dX3_clear_41 (by decide) ?_
  refine yp (ci := 3) (v := .int (-1)) (cw := (cW o u cI cZ cJ T)) S inX3 tyX3 tyX3_ok nmX3 rfl hK hP hD hS cW_65 13 (by decide) kw_5_142 rfl rfl rfl rfl (Nat.le_of_ble_eq_true rfl) dX3_clear_42 cWp_65_13 (fun σ6 H locs eσ6 hP hD hS => ?_)
  have hok := hok σ6 eσ6
  refine lv_aload_n hx hb dX3_clear_45 rfl (lv_at hl 0 rfl) ?_
  refine lv_iconst (v := 0) hx hb dX3_clear_46 (by decide) ?_
  refine yp (ci := 3) (v := .int 0) (cw := (cW o u cI cZ cJ T)) S inX3 tyX3 tyX3_ok nmX3 rfl hK hP hD hS cW_65 14 (by decide) kw_5_143 rfl rfl rfl rfl (Nat.le_of_ble_eq_true rfl) dX3_clear_47 cWp_65_14 (fun σ7 H locs eσ7 hP hD hS => ?_)
  have hok := hok σ7 eσ7
  refine lv_aload_n hx hb dX3_clear_50 rfl (lv_at hl 0 rfl) ?_
  refine lv_iconst (v := 0) hx hb dX3_clear_51 (by decide) ?_
  refine yp (ci := 3) (v := .int 0) (cw := (cW o u cI cZ cJ T)) S inX3 tyX3 tyX3_ok nmX3 rfl hK hP hD hS cW_65 15 (by decide) kw_5_144 rfl rfl rfl rfl (Nat.le_of_ble_eq_true rfl) dX3_clear_52 cWp_65_15 (fun σ8 H locs eσ8 hP hD hS => ?_)
  have hok := hok σ8 eσ8
  refine lv_aload_n hx hb dX3_clear_55 rfl (lv_at hl 0 rfl) ?_
  refine lv_iconst (v := 0) hx hb dX3_clear_56 (by decide) ?_
  refine yp (ci := 3) (v := .int 0) (cw := (cW o u cI cZ cJ T)) S inX3 tyX3 tyX3_ok nmX3 rfl hK hP hD hS cW_65 16 (by decide) kw_5_145 rfl rfl rfl rfl (Nat.le_of_ble_eq_true rfl) dX3_clear_57 cWp_65_16 (fun σ9 H locs eσ9 hP hD hS => ?_)
  have hok := hok σ9 eσ9
  exact yEndv S hr hlocks hP hD hS (Nat.le_of_ble_eq_true rfl) (Nat.le_of_ble_eq_true rfl) dX3_clear_60 hok

set_option maxHeartbeats 8000000 in
set_option maxRecDepth 100000 in
theorem v_X6_start_84 (l : Launch) (D : va_G) (cI cZ cJ : ClassId) (o : Nat) (u : Nat → Nat) (T : Nat) (ra : Nat → Nat) (ga : SG) (σ : FS) (Φ : FS → Prop) (sz : Nat) (hok : (wp_X6_start 84 σ Φ)) : Met l yX6_start (uW yX6_start cX6_start 1 none) ({ frames := 0, cells := 0, slots := 0, locals := 0 }) (va_Pc [.ref (u 83)] (aS ra ga D (tyL cI cZ cJ) (cW o u cI cZ cJ T σ) sz)) (yQv Φ D (cW o u cI cZ cJ T) (va_A (cW o u cI cZ cJ T σ) sz)) 0 0 (va_A (cW o u cI cZ cJ T σ) sz) := by
  refine aStart (lv := [(0, .ref (u 83))]) (Qc := fun A => yQv Φ D (cW o u cI cZ cJ T) A) (by decide) (Nat.le_of_ble_eq_true rfl) rfl ?_
  intro p e s m args below meth c ls A H S hr hlocks hnm hl hK hP hD hS hA hB
  have hx := S.1
  have hb := S.2.1
  refine lv_aload_n hx hb dX6_start_0 rfl (lv_at hl 0 rfl) ?_
  refine lv_iconst (v := 0) hx hb dX6_start_1 (by decide) ?_
  refine yp (ci := 6) (v := .int 0) (cw := (cW o u cI cZ cJ T)) S inX6 tyX6 tyX6_ok nmX6 rfl hK hP hD hS cW_84 0 (by decide) kw_5_71 rfl rfl rfl rfl (Nat.le_of_ble_eq_true rfl) dX6_start_2 cWp_84_0 (fun σ1 H locs eσ1 hP hD hS => ?_)
  have hok := hok σ1 eσ1
  refine lv_aload_n hx hb dX6_start_5 rfl (lv_at hl 0 rfl) ?_
  refine lv_iconst (v := (-1)) hx hb dX6_start_6 (by decide) ?_
  refine yp (ci := 6) (v := .int (-1)) (cw := (cW o u cI cZ cJ T)) S inX6 tyX6 tyX6_ok nmX6 rfl hK hP hD hS cW_84 1 (by decide) kw_5_74 rfl rfl rfl rfl (Nat.le_of_ble_eq_true rfl) dX6_start_7 cWp_84_1 (fun σ2 H locs eσ2 hP hD hS => ?_)
  have hok := hok σ2 eσ2
  refine lv_aload_n hx hb dX6_start_10 rfl (lv_at hl 0 rfl) ?_
  refine lv_iconst (v := (-1)) hx hb dX6_start_11 (by decide) ?_
  refine yp (ci := 6) (v := .int (-1)) (cw := (cW o u cI cZ cJ T)) S inX6 tyX6 tyX6_ok nmX6 rfl hK hP hD hS cW_84 2 (by decide) kw_5_76 rfl rfl rfl rfl (Nat.le_of_ble_eq_true rfl) dX6_start_12 cWp_84_2 (fun σ3 H locs eσ3 hP hD hS => ?_)
  have hok := hok σ3 eσ3
  refine lv_aload_n hx hb dX6_start_15 rfl (lv_at hl 0 rfl) ?_
  refine lv_iconst (v := 0) hx hb dX6_start_16 (by decide) ?_
  refine yp (ci := 6) (v := .int 0) (cw := (cW o u cI cZ cJ T)) S inX6 tyX6 tyX6_ok nmX6 rfl hK hP hD hS cW_84 3 (by decide) kw_5_78 rfl rfl rfl rfl (Nat.le_of_ble_eq_true rfl) dX6_start_17 cWp_84_3 (fun σ4 H locs eσ4 hP hD hS => ?_)
  have hok := hok σ4 eσ4
  refine lv_aload_n hx hb dX6_start_20 rfl (lv_at hl 0 rfl) ?_
  refine lv_iconst (v := 0) hx hb dX6_start_21 (by decide) ?_
  refine yp (ci := 6) (v := .int 0) (cw := (cW o u cI cZ cJ T)) S inX6 tyX6 tyX6_ok nmX6 rfl hK hP hD hS cW_84 4 (by decide) kw_5_80 rfl rfl rfl rfl (Nat.le_of_ble_eq_true rfl) dX6_start_22 cWp_84_4 (fun σ5 H locs eσ5 hP hD hS => ?_)
  have hok := hok σ5 eσ5
  refine lv_aload_n hx hb dX6_start_25 rfl (lv_at hl 0 rfl) ?_
  refine lv_iconst (v := 0) hx hb dX6_start_26 (by decide) ?_
  refine yp (ci := 6) (v := .int 0) (cw := (cW o u cI cZ cJ T)) S inX6 tyX6 tyX6_ok nmX6 rfl hK hP hD hS cW_84 5 (by decide) kw_5_81 rfl rfl rfl rfl (Nat.le_of_ble_eq_true rfl) dX6_start_27 cWp_84_5 (fun σ6 H locs eσ6 hP hD hS => ?_)
  have hok := hok σ6 eσ6
  refine lv_aload_n hx hb dX6_start_30 rfl (lv_at hl 0 rfl) ?_
  refine lv_iconst (v := 0) hx hb dX6_start_31 (by decide) ?_
  refine yp (ci := 6) (v := .int 0) (cw := (cW o u cI cZ cJ T)) S inX6 tyX6 tyX6_ok nmX6 rfl hK hP hD hS cW_84 6 (by decide) kw_5_83 rfl rfl rfl rfl (Nat.le_of_ble_eq_true rfl) dX6_start_32 cWp_84_6 (fun σ7 H locs eσ7 hP hD hS => ?_)
  have hok := hok σ7 eσ7
  refine lv_aload_n hx hb dX6_start_35 rfl (lv_at hl 0 rfl) ?_
  refine lv_iconst (v := 0) hx hb dX6_start_36 (by decide) ?_
  refine yp (ci := 6) (v := .int 0) (cw := (cW o u cI cZ cJ T)) S inX6 tyX6 tyX6_ok nmX6 rfl hK hP hD hS cW_84 7 (by decide) kw_5_86 rfl rfl rfl rfl (Nat.le_of_ble_eq_true rfl) dX6_start_37 cWp_84_7 (fun σ8 H locs eσ8 hP hD hS => ?_)
  have hok := hok σ8 eσ8
  refine lv_aload_n hx hb dX6_start_40 rfl (lv_at hl 0 rfl) ?_
  refine lv_iconst (v := 0) hx hb dX6_start_41 (by decide) ?_
  refine yp (ci := 6) (v := .int 0) (cw := (cW o u cI cZ cJ T)) S inX6 tyX6 tyX6_ok nmX6 rfl hK hP hD hS cW_84 8 (by decide) kw_5_89 rfl rfl rfl rfl (Nat.le_of_ble_eq_true rfl) dX6_start_42 cWp_84_8 (fun σ9 H locs eσ9 hP hD hS => ?_)
  have hok := hok σ9 eσ9
  refine lv_aload_n hx hb dX6_start_45 rfl (lv_at hl 0 rfl) ?_
  refine lv_iconst (v := 0) hx hb dX6_start_46 (by decide) ?_
  refine yp (ci := 6) (v := .int 0) (cw := (cW o u cI cZ cJ T)) S inX6 tyX6 tyX6_ok nmX6 rfl hK hP hD hS cW_84 9 (by decide) kw_5_91 rfl rfl rfl rfl (Nat.le_of_ble_eq_true rfl) dX6_start_47 cWp_84_9 (fun σ10 H locs eσ10 hP hD hS => ?_)
  have hok := hok σ10 eσ10
  refine lv_aload_n hx hb dX6_start_50 rfl (lv_at hl 0 rfl) ?_
  refine lv_lconst (v := 0) hx hb dX6_start_51 (by decide) ?_
  refine yp (ci := 6) (v := .long 0) (cw := (cW o u cI cZ cJ T)) S inX6 tyX6 tyX6_ok nmX6 rfl hK hP hD hS cW_84 10 (by decide) kw_5_93 rfl rfl rfl rfl (Nat.le_of_ble_eq_true rfl) dX6_start_52 cWp_84_10 (fun σ11 H locs eσ11 hP hD hS => ?_)
  have hok := hok σ11 eσ11
  exact yEndv S hr hlocks hP hD hS (Nat.le_of_ble_eq_true rfl) (Nat.le_of_ble_eq_true rfl) dX6_start_55 hok

set_option maxHeartbeats 8000000 in
set_option maxRecDepth 100000 in
theorem v_X7_add_72 (l : Launch) (D : va_G) (cI cZ cJ : ClassId) (o : Nat) (u : Nat → Nat) (T : Nat) (ra : Nat → Nat) (ga : SG) (σ : FS) (Φ : Int32 → FS → Prop) (sz : Nat) (hok : (wp_X7_add 72 320 σ Φ)) : Met l yX7_add (uW yX7_add cX7_add 3 (some .int)) ({ frames := 0, cells := 0, slots := 0, locals := 0 }) (va_Pc [.ref (u 71)] (aS ra ga D (tyL cI cZ cJ) (cW o u cI cZ cJ T σ) sz)) (yQi Φ D (cW o u cI cZ cJ T) (va_A (cW o u cI cZ cJ T σ) sz)) 0 0 (va_A (cW o u cI cZ cJ T σ) sz) := by
  refine aStart (lv := [(0, .ref (u 71))]) (Qc := fun A => yQi Φ D (cW o u cI cZ cJ T) A) (by decide) (Nat.le_of_ble_eq_true rfl) rfl ?_
  intro p e s m args below meth c ls A H S hr hlocks hnm hl hK hP hD hS hA hB
  have hx := S.1
  have hb := S.2.1
  refine lv_aload_n hx hb dX7_add_0 rfl (lv_at hl 0 rfl) ?_
  refine xg (ci := 7) S inX7 rfl hK hP cW_72 2 (by decide) rfl kw_5_56 rfl dX7_add_1 ?_
  refine lv_iconst (v := 1) hx hb dX7_add_4 (by decide) ?_
  refine xiadd (v := (σ.1 72 2) + 1) S dX7_add_5 rfl ?_
  refine lv_aload_n hx hb dX7_add_6 rfl (lv_at hl 0 rfl) ?_
  refine xg (ci := 7) S inX7 rfl hK hP cW_72 0 (by decide) rfl kw_5_54 rfl dX7_add_7 ?_
  refine ximul (v := ((σ.1 72 2) + 1) * (σ.1 72 0)) S dX7_add_10 rfl ?_
  refine lv_topi (fun x1 ex1 => ?_)
  have hok := hok x1 ex1
  refine lv_istore_n (lv' := [(1, .int x1), (0, .ref (u 71))]) hx hb dX7_add_11 rfl hl (by decide) rfl (fun ls hl => ?_)
  refine lv_iload_n hx hb dX7_add_12 rfl (lv_at hl 0 rfl) ?_
  refine lv_aload_n hx hb dX7_add_13 rfl (lv_at hl 1 rfl) ?_
  refine xg (ci := 7) S inX7 rfl hK hP cW_72 1 (by decide) rfl kw_5_55 rfl dX7_add_14 ?_
  refine xalen (t0 := 0) (v := (nI 320)) S hK hP cW_73 rfl rfl dX7_add_17 ?_
  refine lv_icmp_le (tgt := 49) hx hb dX7_add_18 (by decide) (fun c_18 => ?_) (fun c_18 => ?_)
  · have hok := hok.1 c_18
    refine lv_iload_n hx hb dX7_add_49 rfl (lv_at hl 0 rfl) ?_
    refine lv_aload_n hx hb dX7_add_50 rfl (lv_at hl 1 rfl) ?_
    refine xg (ci := 7) S inX7 rfl hK hP cW_72 1 (by decide) rfl kw_5_55 rfl dX7_add_51 ?_
    refine xalen (t0 := 0) (v := (nI 320)) S hK hP cW_73 rfl rfl dX7_add_54 ?_
    refine lv_icmp_le (tgt := 60) hx hb dX7_add_55 (by decide) (fun c_55 => ?_) (fun c_55 => ?_)
    · have hok := hok.1 c_55
      refine lv_iload_n hx hb dX7_add_60 rfl (lv_at hl 0 rfl) ?_
      refine lv_aload_n hx hb dX7_add_61 rfl (lv_at hl 1 rfl) ?_
      refine xg (ci := 7) S inX7 rfl hK hP cW_72 0 (by decide) rfl kw_5_54 rfl dX7_add_62 ?_
      refine xisub (v := x1 - (σ.1 72 0)) S dX7_add_65 rfl ?_
      refine lv_topi (fun x2 ex2 => ?_)
      have hok := hok x2 ex2
      refine lv_istore_n (lv' := [(2, .int x2), (1, .int x1), (0, .ref (u 71))]) hx hb dX7_add_66 rfl hl (by decide) rfl (fun ls hl => ?_)
      have lp67 : ∀ (K : FS → Int32 → Prop), (∀ (τ0 : FS) (l2_0 : Int32) (H : Heap) (locs : List Loc) (ls : Array Slot), K τ0 l2_0 → lv_has ls 3 [(2, .int l2_0), (1, .int x1), (0, .ref (u 71))] → va_P D vwCl (cW o u cI cZ cJ T τ0) H → va_D A (cW o u cI cZ cJ T τ0) → va_S A s.heap H locs → W p l e ({ frames := 0, cells := 0, slots := 0, locals := 0 }) s m args below meth c H locs 0 0 (MQ below (yQi Φ D (cW o u cI cZ cJ T) A) args s 0 0 A) (F0 m 85 ls [])) → ∀ (n0 : Nat) (τ0 : FS) (l2_0 : Int32) (H : Heap) (locs : List Loc) (ls : Array Slot), wp_X7_add_67 72 320 x1 Φ K n0 τ0 l2_0 → lv_has ls 3 [(2, .int l2_0), (1, .int x1), (0, .ref (u 71))] → va_P D vwCl (cW o u cI cZ cJ T τ0) H → va_D A (cW o u cI cZ cJ T τ0) → va_S A s.heap H locs → W p l e ({ frames := 0, cells := 0, slots := 0, locals := 0 }) s m args below meth c H locs 0 0 (MQ below (yQi Φ D (cW o u cI cZ cJ T) A) args s 0 0 A) (F0 m 67 ls []) := by
        intro K hk n0
        induction n0 with
        | zero => intro τ0 l2_0 H locs ls hok; exact False.elim hok
        | succ n0 ih67 =>
          intro τ0 l2_0 H locs ls hok hl hP hD hS
          refine lv_iload_n hx hb dX7_add_67 rfl (lv_at hl 0 rfl) ?_
          refine lv_iload_n hx hb dX7_add_68 rfl (lv_at hl 1 rfl) ?_
          refine lv_icmp_ge (tgt := 85) hx hb dX7_add_69 (by decide) (fun c_69 => ?_) (fun c_69 => ?_)
          · have hok := hok.1 c_69
            exact hk τ0 l2_0 H locs ls hok (lv_sub hl [0, 1, 2] rfl) hP hD hS
          · have hok := hok.2 c_69
            refine lv_aload_n hx hb dX7_add_72 rfl (lv_at hl 2 rfl) ?_
            refine xg (ci := 7) S inX7 rfl hK hP cW_72 1 (by decide) rfl kw_5_55 rfl dX7_add_73 ?_
            refine lv_iload_n hx hb dX7_add_76 rfl (lv_at hl 0 rfl) ?_
            refine lv_iconst (v := 0) hx hb dX7_add_77 (by decide) ?_
            have h_78 := hok.1
            have hok := hok.2
            refine yiast (t0 := 0) (cw := (cW o u cI cZ cJ T)) S hK hP hD hS cW_73 rfl h_78 dX7_add_78 cWa_73 (fun σ3 H locs eσ3 hP hD hS => ?_)
            have hok := hok σ3 eσ3
            refine lv_iinc (v := l2_0 + 1) (lv' := [(2, .int (l2_0 + 1)), (1, .int x1), (0, .ref (u 71))]) hx hb dX7_add_79 hl (k := 0) rfl rfl (by decide) rfl (fun ls hl => ?_)
            refine lv_goto (tgt := 67) hx hb dX7_add_82 (by decide) ?_
            exact ih67 σ3 (l2_0 + 1) H locs ls hok (lv_sub hl [0, 1, 2] rfl) hP hD hS
      refine lp67 _ ?_ FUEL σ x2 _ _ _ hok (lv_sub hl [0, 1, 2] rfl) hP hD hS
      intro σ4 x5 H locs ls hok hl hP hD hS
      refine lv_aload_n hx hb dX7_add_85 rfl (lv_at hl 2 rfl) ?_
      refine lv_dup hx hb dX7_add_86 rfl ?_
      refine xg (ci := 7) S inX7 rfl hK hP cW_72 2 (by decide) rfl kw_5_56 rfl dX7_add_87 ?_
      refine lv_iconst (v := 1) hx hb dX7_add_90 (by decide) ?_
      refine xiadd (v := (σ4.1 72 2) + 1) S dX7_add_91 rfl ?_
      refine yp (ci := 7) (v := .int ((σ4.1 72 2) + 1)) (cw := (cW o u cI cZ cJ T)) S inX7 tyX7 tyX7_ok nmX7 rfl hK hP hD hS cW_72 2 (by decide) kw_5_56 rfl rfl rfl rfl (Nat.le_of_ble_eq_true rfl) dX7_add_92 cWp_72_2 (fun σ6 H locs eσ6 hP hD hS => ?_)
      have hok := hok σ6 eσ6
      refine lv_aload_n hx hb dX7_add_95 rfl (lv_at hl 2 rfl) ?_
      refine xg (ci := 7) S inX7 rfl hK hP cW_72 2 (by decide) rfl kw_5_56 rfl dX7_add_96 ?_
      refine lv_iconst (v := 1) hx hb dX7_add_99 (by decide) ?_
      refine xisub (v := (σ6.1 72 2) - 1) S dX7_add_100 rfl ?_
      exact yEnd S hr hlocks hP hD hS (Nat.le_of_ble_eq_true rfl) (Nat.le_of_ble_eq_true rfl) dX7_add_101 hok
    · have hok := hok.2 c_55
      refine lv_iconst (v := (-1)) hx hb dX7_add_58 (by decide) ?_
      exact yEnd S hr hlocks hP hD hS (Nat.le_of_ble_eq_true rfl) (Nat.le_of_ble_eq_true rfl) dX7_add_59 hok
  · have hok := hok.2 c_18
    refine lv_aload_n hx hb dX7_add_21 rfl (lv_at hl 1 rfl) ?_
    refine xg (ci := 7) S inX7 rfl hK hP cW_72 1 (by decide) rfl kw_5_55 rfl dX7_add_22 ?_
    refine xalen (t0 := 0) (v := (nI 320)) S hK hP cW_73 rfl rfl dX7_add_25 ?_
    refine lv_ldc hx hb S.2.2.2.1 (S.2.2.2.2 _ kw_2_228) dX7_add_26 ?_
    refine lv_icmp_gt (tgt := 49) hx hb dX7_add_28 (by decide) (fun c_28 => ?_) (fun c_28 => ?_)
    · have hok := hok.1 c_28
      refine lv_iload_n hx hb dX7_add_49 rfl (lv_at hl 0 rfl) ?_
      refine lv_aload_n hx hb dX7_add_50 rfl (lv_at hl 1 rfl) ?_
      refine xg (ci := 7) S inX7 rfl hK hP cW_72 1 (by decide) rfl kw_5_55 rfl dX7_add_51 ?_
      refine xalen (t0 := 0) (v := (nI 320)) S hK hP cW_73 rfl rfl dX7_add_54 ?_
      refine lv_icmp_le (tgt := 60) hx hb dX7_add_55 (by decide) (fun c_55 => ?_) (fun c_55 => ?_)
      · have hok := hok.1 c_55
        refine lv_iload_n hx hb dX7_add_60 rfl (lv_at hl 0 rfl) ?_
        refine lv_aload_n hx hb dX7_add_61 rfl (lv_at hl 1 rfl) ?_
        refine xg (ci := 7) S inX7 rfl hK hP cW_72 0 (by decide) rfl kw_5_54 rfl dX7_add_62 ?_
        refine xisub (v := x1 - (σ.1 72 0)) S dX7_add_65 rfl ?_
        refine lv_topi (fun x7 ex7 => ?_)
        have hok := hok x7 ex7
        refine lv_istore_n (lv' := [(2, .int x7), (1, .int x1), (0, .ref (u 71))]) hx hb dX7_add_66 rfl hl (by decide) rfl (fun ls hl => ?_)
        have lp67 : ∀ (K : FS → Int32 → Prop), (∀ (τ0 : FS) (l2_0 : Int32) (H : Heap) (locs : List Loc) (ls : Array Slot), K τ0 l2_0 → lv_has ls 3 [(2, .int l2_0), (1, .int x1), (0, .ref (u 71))] → va_P D vwCl (cW o u cI cZ cJ T τ0) H → va_D A (cW o u cI cZ cJ T τ0) → va_S A s.heap H locs → W p l e ({ frames := 0, cells := 0, slots := 0, locals := 0 }) s m args below meth c H locs 0 0 (MQ below (yQi Φ D (cW o u cI cZ cJ T) A) args s 0 0 A) (F0 m 85 ls [])) → ∀ (n0 : Nat) (τ0 : FS) (l2_0 : Int32) (H : Heap) (locs : List Loc) (ls : Array Slot), wp_X7_add_67 72 320 x1 Φ K n0 τ0 l2_0 → lv_has ls 3 [(2, .int l2_0), (1, .int x1), (0, .ref (u 71))] → va_P D vwCl (cW o u cI cZ cJ T τ0) H → va_D A (cW o u cI cZ cJ T τ0) → va_S A s.heap H locs → W p l e ({ frames := 0, cells := 0, slots := 0, locals := 0 }) s m args below meth c H locs 0 0 (MQ below (yQi Φ D (cW o u cI cZ cJ T) A) args s 0 0 A) (F0 m 67 ls []) := by
          intro K hk n0
          induction n0 with
          | zero => intro τ0 l2_0 H locs ls hok; exact False.elim hok
          | succ n0 ih67 =>
            intro τ0 l2_0 H locs ls hok hl hP hD hS
            refine lv_iload_n hx hb dX7_add_67 rfl (lv_at hl 0 rfl) ?_
            refine lv_iload_n hx hb dX7_add_68 rfl (lv_at hl 1 rfl) ?_
            refine lv_icmp_ge (tgt := 85) hx hb dX7_add_69 (by decide) (fun c_69 => ?_) (fun c_69 => ?_)
            · have hok := hok.1 c_69
              exact hk τ0 l2_0 H locs ls hok (lv_sub hl [0, 1, 2] rfl) hP hD hS
            · have hok := hok.2 c_69
              refine lv_aload_n hx hb dX7_add_72 rfl (lv_at hl 2 rfl) ?_
              refine xg (ci := 7) S inX7 rfl hK hP cW_72 1 (by decide) rfl kw_5_55 rfl dX7_add_73 ?_
              refine lv_iload_n hx hb dX7_add_76 rfl (lv_at hl 0 rfl) ?_
              refine lv_iconst (v := 0) hx hb dX7_add_77 (by decide) ?_
              have h_78 := hok.1
              have hok := hok.2
              refine yiast (t0 := 0) (cw := (cW o u cI cZ cJ T)) S hK hP hD hS cW_73 rfl h_78 dX7_add_78 cWa_73 (fun σ8 H locs eσ8 hP hD hS => ?_)
              have hok := hok σ8 eσ8
              refine lv_iinc (v := l2_0 + 1) (lv' := [(2, .int (l2_0 + 1)), (1, .int x1), (0, .ref (u 71))]) hx hb dX7_add_79 hl (k := 0) rfl rfl (by decide) rfl (fun ls hl => ?_)
              refine lv_goto (tgt := 67) hx hb dX7_add_82 (by decide) ?_
              exact ih67 σ8 (l2_0 + 1) H locs ls hok (lv_sub hl [0, 1, 2] rfl) hP hD hS
        refine lp67 _ ?_ FUEL σ x7 _ _ _ hok (lv_sub hl [0, 1, 2] rfl) hP hD hS
        intro σ9 x10 H locs ls hok hl hP hD hS
        refine lv_aload_n hx hb dX7_add_85 rfl (lv_at hl 2 rfl) ?_
        refine lv_dup hx hb dX7_add_86 rfl ?_
        refine xg (ci := 7) S inX7 rfl hK hP cW_72 2 (by decide) rfl kw_5_56 rfl dX7_add_87 ?_
        refine lv_iconst (v := 1) hx hb dX7_add_90 (by decide) ?_
        refine xiadd (v := (σ9.1 72 2) + 1) S dX7_add_91 rfl ?_
        refine yp (ci := 7) (v := .int ((σ9.1 72 2) + 1)) (cw := (cW o u cI cZ cJ T)) S inX7 tyX7 tyX7_ok nmX7 rfl hK hP hD hS cW_72 2 (by decide) kw_5_56 rfl rfl rfl rfl (Nat.le_of_ble_eq_true rfl) dX7_add_92 cWp_72_2 (fun σ11 H locs eσ11 hP hD hS => ?_)
        have hok := hok σ11 eσ11
        refine lv_aload_n hx hb dX7_add_95 rfl (lv_at hl 2 rfl) ?_
        refine xg (ci := 7) S inX7 rfl hK hP cW_72 2 (by decide) rfl kw_5_56 rfl dX7_add_96 ?_
        refine lv_iconst (v := 1) hx hb dX7_add_99 (by decide) ?_
        refine xisub (v := (σ11.1 72 2) - 1) S dX7_add_100 rfl ?_
        exact yEnd S hr hlocks hP hD hS (Nat.le_of_ble_eq_true rfl) (Nat.le_of_ble_eq_true rfl) dX7_add_101 hok
      · have hok := hok.2 c_55
        refine lv_iconst (v := (-1)) hx hb dX7_add_58 (by decide) ?_
        exact yEnd S hr hlocks hP hD hS (Nat.le_of_ble_eq_true rfl) (Nat.le_of_ble_eq_true rfl) dX7_add_59 hok
    · have hok := hok.2 c_28
      refine lv_aload_n hx hb dX7_add_31 rfl (lv_at hl 1 rfl) ?_
      refine lv_aload_n hx hb dX7_add_32 rfl (lv_at hl 1 rfl) ?_
      refine xg (ci := 7) S inX7 rfl hK hP cW_72 1 (by decide) rfl kw_5_55 rfl dX7_add_33 ?_
      refine lv_aload_n hx hb dX7_add_36 rfl (lv_at hl 1 rfl) ?_
      refine xg (ci := 7) S inX7 rfl hK hP cW_72 1 (by decide) rfl kw_5_55 rfl dX7_add_37 ?_
      refine xalen (t0 := 0) (v := (nI 320)) S hK hP cW_73 rfl rfl dX7_add_40 ?_
      refine lv_iconst (v := 2) hx hb dX7_add_41 (by decide) ?_
      refine ximul (v := (nI 320) * 2) S dX7_add_42 rfl ?_
      exact False.elim hok

set_option maxHeartbeats 8000000 in
set_option maxRecDepth 100000 in
theorem v_X7_has_72 (l : Launch) (D : va_G) (cI cZ cJ : ClassId) (o : Nat) (u : Nat → Nat) (T : Nat) (ra : Nat → Nat) (ga : SG) (σ : FS) (a1 : Int32) (a2 : Int32) (Φ : Int32 → FS → Prop) (sz : Nat) (hok : (wp_X7_has 72 320 σ a1 a2 Φ)) : Met l yX7_has (uW yX7_has cX7_has 3 (some .boolean)) ({ frames := 0, cells := 0, slots := 0, locals := 0 }) (va_Pc [.ref (u 71), .int a1, .int a2] (aS ra ga D (tyL cI cZ cJ) (cW o u cI cZ cJ T σ) sz)) (yQi Φ D (cW o u cI cZ cJ T) (va_A (cW o u cI cZ cJ T σ) sz)) 0 0 (va_A (cW o u cI cZ cJ T σ) sz) := by
  refine aStart (lv := [(0, .ref (u 71)), (1, .int a1), (2, .int a2)]) (Qc := fun A => yQi Φ D (cW o u cI cZ cJ T) A) (by decide) (Nat.le_of_ble_eq_true rfl) rfl ?_
  intro p e s m args below meth c ls A H S hr hlocks hnm hl hK hP hD hS hA hB
  have hx := S.1
  have hb := S.2.1
  refine lv_iload_n hx hb dX7_has_0 rfl (lv_at hl 1 rfl) ?_
  refine lv_if_lt (tgt := 28) hx hb dX7_has_1 (by decide) (fun c_1 => ?_) (fun c_1 => ?_)
  · have hok := hok.1 c_1
    refine lv_iconst (v := 0) hx hb dX7_has_28 (by decide) ?_
    exact yEndZ S hr hlocks hP hD hS (Nat.le_of_ble_eq_true rfl) (Nat.le_of_ble_eq_true rfl) dX7_has_29 rfl hok
  · have hok := hok.2 c_1
    refine lv_iload_n hx hb dX7_has_4 rfl (lv_at hl 1 rfl) ?_
    refine lv_aload_n hx hb dX7_has_5 rfl (lv_at hl 0 rfl) ?_
    refine xg (ci := 7) S inX7 rfl hK hP cW_72 2 (by decide) rfl kw_5_56 rfl dX7_has_6 ?_
    refine lv_icmp_ge (tgt := 28) hx hb dX7_has_9 (by decide) (fun c_9 => ?_) (fun c_9 => ?_)
    · have hok := hok.1 c_9
      refine lv_iconst (v := 0) hx hb dX7_has_28 (by decide) ?_
      exact yEndZ S hr hlocks hP hD hS (Nat.le_of_ble_eq_true rfl) (Nat.le_of_ble_eq_true rfl) dX7_has_29 rfl hok
    · have hok := hok.2 c_9
      refine lv_iload_n hx hb dX7_has_12 rfl (lv_at hl 2 rfl) ?_
      refine lv_if_lt (tgt := 28) hx hb dX7_has_13 (by decide) (fun c_13 => ?_) (fun c_13 => ?_)
      · have hok := hok.1 c_13
        refine lv_iconst (v := 0) hx hb dX7_has_28 (by decide) ?_
        exact yEndZ S hr hlocks hP hD hS (Nat.le_of_ble_eq_true rfl) (Nat.le_of_ble_eq_true rfl) dX7_has_29 rfl hok
      · have hok := hok.2 c_13
        refine lv_iload_n hx hb dX7_has_16 rfl (lv_at hl 2 rfl) ?_
        refine lv_aload_n hx hb dX7_has_17 rfl (lv_at hl 0 rfl) ?_
        refine xg (ci := 7) S inX7 rfl hK hP cW_72 0 (by decide) rfl kw_5_54 rfl dX7_has_18 ?_
        refine lv_icmp_ge (tgt := 28) hx hb dX7_has_21 (by decide) (fun c_21 => ?_) (fun c_21 => ?_)
        · have hok := hok.1 c_21
          refine lv_iconst (v := 0) hx hb dX7_has_28 (by decide) ?_
          exact yEndZ S hr hlocks hP hD hS (Nat.le_of_ble_eq_true rfl) (Nat.le_of_ble_eq_true rfl) dX7_has_29 rfl hok
        · have hok := hok.2 c_21
          refine lv_iconst (v := 1) hx hb dX7_has_24 (by decide) ?_
          refine lv_goto (tgt := 29) hx hb dX7_has_25 (by decide) ?_
          exact yEndZ S hr hlocks hP hD hS (Nat.le_of_ble_eq_true rfl) (Nat.le_of_ble_eq_true rfl) dX7_has_29 rfl hok

set_option maxHeartbeats 8000000 in
set_option maxRecDepth 100000 in
theorem v_X7_put_72 (l : Launch) (D : va_G) (cI cZ cJ : ClassId) (o : Nat) (u : Nat → Nat) (T : Nat) (ra : Nat → Nat) (ga : SG) (σ : FS) (a1 : Int32) (a2 : Int32) (a3 : Int32) (Φ : FS → Prop) (sz : Nat) (hok : (wp_X7_put 72 320 σ a1 a2 a3 Φ)) : Met l yX7_put (uW yX7_put cX7_put 4 none) ({ frames := 1, cells := 0, slots := 0, locals := 22 }) (va_Pc [.ref (u 71), .int a1, .int a2, .int a3] (aS ra ga D (tyL cI cZ cJ) (cW o u cI cZ cJ T σ) sz)) (yQv Φ D (cW o u cI cZ cJ T) (va_A (cW o u cI cZ cJ T σ) sz)) 0 0 (va_A (cW o u cI cZ cJ T σ) sz) := by
  refine aStart (lv := [(0, .ref (u 71)), (1, .int a1), (2, .int a2), (3, .int a3)]) (Qc := fun A => yQv Φ D (cW o u cI cZ cJ T) A) (by decide) (Nat.le_of_ble_eq_true rfl) rfl ?_
  intro p e s m args below meth c ls A H S hr hlocks hnm hl hK hP hD hS hA hB
  have hx := S.1
  have hb := S.2.1
  refine lv_aload_n hx hb dX7_put_0 rfl (lv_at hl 0 rfl) ?_
  refine lv_iload_n hx hb dX7_put_1 rfl (lv_at hl 1 rfl) ?_
  refine lv_iload_n hx hb dX7_put_2 rfl (lv_at hl 2 rfl) ?_
  refine yVi (As := [.int a1, .int a2]) (cw := (cW o u cI cZ cJ T)) (ci := 7) S (v_X7_has_72 l D cI cZ cJ o u T ra ga σ a1 a2 _ H.size hok) mi_X7_has kw_3_9 rfl rfl ⟨Nat.le_of_ble_eq_true rfl, Nat.le_of_ble_eq_true rfl⟩ hP hD hK hS hA hB cW_72 rfl rfl hl.1 (Nat.le_of_ble_eq_true rfl) ⟨Nat.le_of_ble_eq_true rfl, Nat.le_of_ble_eq_true rfl⟩ dX7_put_3 (fun x2 σ1 H locs hok hz hP hD hS => ?_)
  refine lv_if_eq (tgt := 23) hx hb dX7_put_6 (by decide) (fun c_6 => ?_) (fun c_6 => ?_)
  · have hok := hok.1 c_6
    exact yEndv S hr hlocks hP hD hS (Nat.le_of_ble_eq_true rfl) (Nat.le_of_ble_eq_true rfl) dX7_put_23 hok
  · have hok := hok.2 c_6
    refine lv_aload_n hx hb dX7_put_9 rfl (lv_at hl 0 rfl) ?_
    refine xg (ci := 7) S inX7 rfl hK hP cW_72 1 (by decide) rfl kw_5_55 rfl dX7_put_10 ?_
    refine lv_iload_n hx hb dX7_put_13 rfl (lv_at hl 1 rfl) ?_
    refine lv_aload_n hx hb dX7_put_14 rfl (lv_at hl 0 rfl) ?_
    refine xg (ci := 7) S inX7 rfl hK hP cW_72 0 (by decide) rfl kw_5_54 rfl dX7_put_15 ?_
    refine ximul (v := a1 * (σ1.1 72 0)) S dX7_put_18 rfl ?_
    refine lv_iload_n hx hb dX7_put_19 rfl (lv_at hl 2 rfl) ?_
    refine xiadd (v := (a1 * (σ1.1 72 0)) + a2) S dX7_put_20 rfl ?_
    refine lv_iload_n hx hb dX7_put_21 rfl (lv_at hl 3 rfl) ?_
    have h_22 := hok.1
    have hok := hok.2
    refine yiast (t0 := 0) (cw := (cW o u cI cZ cJ T)) S hK hP hD hS cW_73 rfl h_22 dX7_put_22 cWa_73 (fun σ3 H locs eσ3 hP hD hS => ?_)
    have hok := hok σ3 eσ3
    exact yEndv S hr hlocks hP hD hS (Nat.le_of_ble_eq_true rfl) (Nat.le_of_ble_eq_true rfl) dX7_put_23 hok

set_option maxHeartbeats 8000000 in
set_option maxRecDepth 100000 in
theorem v_X3_keepReturn (l : Launch) (D : va_G) (cI cZ cJ : ClassId) (o : Nat) (u : Nat → Nat) (T : Nat) (ra : Nat → Nat) (ga : SG) (σ : FS) (a1 : Int32) (a2 : Int32) (Φ : FS → Prop) (sz : Nat) (hok : (wp_X3_keepReturn σ a1 a2 Φ)) : Met l yX3_keepReturn (uW yX3_keepReturn cX3_keepReturn 4 none) ({ frames := 2, cells := 0, slots := 0, locals := 45 }) (va_Pc [.ref (u 64), .int a1, .int a2] (aS ra ga D (tyL cI cZ cJ) (cW o u cI cZ cJ T σ) sz)) (yQv Φ D (cW o u cI cZ cJ T) (va_A (cW o u cI cZ cJ T σ) sz)) 0 0 (va_A (cW o u cI cZ cJ T σ) sz) := by
  refine aStart (lv := [(0, .ref (u 64)), (1, .int a1), (2, .int a2)]) (Qc := fun A => yQv Φ D (cW o u cI cZ cJ T) A) (by decide) (Nat.le_of_ble_eq_true rfl) rfl ?_
  intro p e s m args below meth c ls A H S hr hlocks hnm hl hK hP hD hS hA hB
  have hx := S.1
  have hb := S.2.1
  refine lv_aload_n hx hb dX3_keepReturn_0 rfl (lv_at hl 0 rfl) ?_
  refine xg (ci := 3) S inX3 rfl hK hP cW_65 7 (by decide) rfl kw_5_136 rfl dX3_keepReturn_1 ?_
  refine yVi (As := []) (cw := (cW o u cI cZ cJ T)) (ci := 7) S (v_X7_add_72 l D cI cZ cJ o u T ra ga σ _ H.size hok) mi_X7_add kw_2_224 rfl rfl ⟨Nat.le_of_ble_eq_true rfl, Nat.le_of_ble_eq_true rfl⟩ hP hD hK hS hA hB cW_72 rfl rfl hl.1 (Nat.le_of_ble_eq_true rfl) ⟨Nat.le_of_ble_eq_true rfl, Nat.le_of_ble_eq_true rfl⟩ dX3_keepReturn_4 (fun x2 σ1 H locs hok hz hP hD hS => ?_)
  refine lv_istore_n (lv' := [(3, .int x2), (0, .ref (u 64)), (1, .int a1), (2, .int a2)]) hx hb dX3_keepReturn_7 rfl hl (by decide) rfl (fun ls hl => ?_)
  refine lv_aload_n hx hb dX3_keepReturn_8 rfl (lv_at hl 1 rfl) ?_
  refine xg (ci := 3) S inX3 rfl hK hP cW_65 7 (by decide) rfl kw_5_136 rfl dX3_keepReturn_9 ?_
  refine lv_iload_n hx hb dX3_keepReturn_12 rfl (lv_at hl 0 rfl) ?_
  refine lv_iconst (v := 0) hx hb dX3_keepReturn_13 (by decide) ?_
  refine lv_iload_n hx hb dX3_keepReturn_14 rfl (lv_at hl 2 rfl) ?_
  refine yVv (As := [.int x2, .int 0, .int a1]) (cw := (cW o u cI cZ cJ T)) (ci := 7) S (v_X7_put_72 l D cI cZ cJ o u T ra ga σ1 x2 0 a1 _ H.size hok) mi_X7_put kw_3_5 rfl rfl ⟨Nat.le_of_ble_eq_true rfl, Nat.le_of_ble_eq_true rfl⟩ hP hD hK hS hA hB cW_72 rfl rfl hl.1 (Nat.le_of_ble_eq_true rfl) ⟨Nat.le_of_ble_eq_true rfl, Nat.le_of_ble_eq_true rfl⟩ dX3_keepReturn_15 (fun σ3 H locs hok hz hP hD hS => ?_)
  refine lv_aload_n hx hb dX3_keepReturn_18 rfl (lv_at hl 1 rfl) ?_
  refine xg (ci := 3) S inX3 rfl hK hP cW_65 7 (by decide) rfl kw_5_136 rfl dX3_keepReturn_19 ?_
  refine lv_iload_n hx hb dX3_keepReturn_22 rfl (lv_at hl 0 rfl) ?_
  refine lv_iconst (v := 1) hx hb dX3_keepReturn_23 (by decide) ?_
  refine lv_aload_n hx hb dX3_keepReturn_24 rfl (lv_at hl 1 rfl) ?_
  refine xg (ci := 3) S inX3 rfl hK hP cW_65 13 (by decide) rfl kw_5_142 rfl dX3_keepReturn_25 ?_
  refine yVv (As := [.int x2, .int 1, .int (σ3.1 65 13)]) (cw := (cW o u cI cZ cJ T)) (ci := 7) S (v_X7_put_72 l D cI cZ cJ o u T ra ga σ3 x2 1 (σ3.1 65 13) _ H.size hok) mi_X7_put kw_3_5 rfl rfl ⟨Nat.le_of_ble_eq_true rfl, Nat.le_of_ble_eq_true rfl⟩ hP hD hK hS hA hB cW_72 rfl rfl hl.1 (Nat.le_of_ble_eq_true rfl) ⟨Nat.le_of_ble_eq_true rfl, Nat.le_of_ble_eq_true rfl⟩ dX3_keepReturn_28 (fun σ4 H locs hok hz hP hD hS => ?_)
  refine lv_aload_n hx hb dX3_keepReturn_31 rfl (lv_at hl 1 rfl) ?_
  refine xg (ci := 3) S inX3 rfl hK hP cW_65 7 (by decide) rfl kw_5_136 rfl dX3_keepReturn_32 ?_
  refine lv_iload_n hx hb dX3_keepReturn_35 rfl (lv_at hl 0 rfl) ?_
  refine lv_iconst (v := 2) hx hb dX3_keepReturn_36 (by decide) ?_
  refine lv_iload_n hx hb dX3_keepReturn_37 rfl (lv_at hl 3 rfl) ?_
  refine yVv (As := [.int x2, .int 2, .int a2]) (cw := (cW o u cI cZ cJ T)) (ci := 7) S (v_X7_put_72 l D cI cZ cJ o u T ra ga σ4 x2 2 a2 _ H.size hok) mi_X7_put kw_3_5 rfl rfl ⟨Nat.le_of_ble_eq_true rfl, Nat.le_of_ble_eq_true rfl⟩ hP hD hK hS hA hB cW_72 rfl rfl hl.1 (Nat.le_of_ble_eq_true rfl) ⟨Nat.le_of_ble_eq_true rfl, Nat.le_of_ble_eq_true rfl⟩ dX3_keepReturn_38 (fun σ5 H locs hok hz hP hD hS => ?_)
  refine lv_aload_n hx hb dX3_keepReturn_41 rfl (lv_at hl 1 rfl) ?_
  refine xg (ci := 3) S inX3 rfl hK hP cW_65 7 (by decide) rfl kw_5_136 rfl dX3_keepReturn_42 ?_
  refine lv_iload_n hx hb dX3_keepReturn_45 rfl (lv_at hl 0 rfl) ?_
  refine lv_iconst (v := 3) hx hb dX3_keepReturn_46 (by decide) ?_
  refine lv_aload_n hx hb dX3_keepReturn_47 rfl (lv_at hl 1 rfl) ?_
  refine xg (ci := 3) S inX3 rfl hK hP cW_65 15 (by decide) rfl kw_5_144 rfl dX3_keepReturn_48 ?_
  refine yVv (As := [.int x2, .int 3, .int (σ5.1 65 15)]) (cw := (cW o u cI cZ cJ T)) (ci := 7) S (v_X7_put_72 l D cI cZ cJ o u T ra ga σ5 x2 3 (σ5.1 65 15) _ H.size hok) mi_X7_put kw_3_5 rfl rfl ⟨Nat.le_of_ble_eq_true rfl, Nat.le_of_ble_eq_true rfl⟩ hP hD hK hS hA hB cW_72 rfl rfl hl.1 (Nat.le_of_ble_eq_true rfl) ⟨Nat.le_of_ble_eq_true rfl, Nat.le_of_ble_eq_true rfl⟩ dX3_keepReturn_51 (fun σ6 H locs hok hz hP hD hS => ?_)
  refine lv_aload_n hx hb dX3_keepReturn_54 rfl (lv_at hl 1 rfl) ?_
  refine xg (ci := 3) S inX3 rfl hK hP cW_65 7 (by decide) rfl kw_5_136 rfl dX3_keepReturn_55 ?_
  refine lv_iload_n hx hb dX3_keepReturn_58 rfl (lv_at hl 0 rfl) ?_
  refine lv_iconst (v := 4) hx hb dX3_keepReturn_59 (by decide) ?_
  refine lv_aload_n hx hb dX3_keepReturn_60 rfl (lv_at hl 1 rfl) ?_
  refine xg (ci := 3) S inX3 rfl hK hP cW_65 8 (by decide) rfl kw_5_137 rfl dX3_keepReturn_61 ?_
  refine xg (ci := 7) S inX7 rfl hK hP cW_74 2 (by decide) rfl kw_5_57 rfl dX3_keepReturn_64 ?_
  refine yVv (As := [.int x2, .int 4, .int (σ6.1 74 2)]) (cw := (cW o u cI cZ cJ T)) (ci := 7) S (v_X7_put_72 l D cI cZ cJ o u T ra ga σ6 x2 4 (σ6.1 74 2) _ H.size hok) mi_X7_put kw_3_5 rfl rfl ⟨Nat.le_of_ble_eq_true rfl, Nat.le_of_ble_eq_true rfl⟩ hP hD hK hS hA hB cW_72 rfl rfl hl.1 (Nat.le_of_ble_eq_true rfl) ⟨Nat.le_of_ble_eq_true rfl, Nat.le_of_ble_eq_true rfl⟩ dX3_keepReturn_67 (fun σ7 H locs hok hz hP hD hS => ?_)
  exact yEndv S hr hlocks hP hD hS (Nat.le_of_ble_eq_true rfl) (Nat.le_of_ble_eq_true rfl) dX3_keepReturn_70 hok

set_option maxHeartbeats 8000000 in
set_option maxRecDepth 100000 in
theorem v_X7_at_72 (l : Launch) (D : va_G) (cI cZ cJ : ClassId) (o : Nat) (u : Nat → Nat) (T : Nat) (ra : Nat → Nat) (ga : SG) (σ : FS) (a1 : Int32) (a2 : Int32) (Φ : Int32 → FS → Prop) (sz : Nat) (hok : (wp_X7_at 72 320 σ a1 a2 Φ)) : Met l yX7_at (uW yX7_at cX7_at 3 (some .int)) ({ frames := 1, cells := 0, slots := 0, locals := 22 }) (va_Pc [.ref (u 71), .int a1, .int a2] (aS ra ga D (tyL cI cZ cJ) (cW o u cI cZ cJ T σ) sz)) (yQi Φ D (cW o u cI cZ cJ T) (va_A (cW o u cI cZ cJ T σ) sz)) 0 0 (va_A (cW o u cI cZ cJ T σ) sz) := by
  refine aStart (lv := [(0, .ref (u 71)), (1, .int a1), (2, .int a2)]) (Qc := fun A => yQi Φ D (cW o u cI cZ cJ T) A) (by decide) (Nat.le_of_ble_eq_true rfl) rfl ?_
  intro p e s m args below meth c ls A H S hr hlocks hnm hl hK hP hD hS hA hB
  have hx := S.1
  have hb := S.2.1
  refine lv_aload_n hx hb dX7_at_0 rfl (lv_at hl 0 rfl) ?_
  refine lv_iload_n hx hb dX7_at_1 rfl (lv_at hl 1 rfl) ?_
  refine lv_iload_n hx hb dX7_at_2 rfl (lv_at hl 2 rfl) ?_
  refine yVi (As := [.int a1, .int a2]) (cw := (cW o u cI cZ cJ T)) (ci := 7) S (v_X7_has_72 l D cI cZ cJ o u T ra ga σ a1 a2 _ H.size hok) mi_X7_has kw_3_9 rfl rfl ⟨Nat.le_of_ble_eq_true rfl, Nat.le_of_ble_eq_true rfl⟩ hP hD hK hS hA hB cW_72 rfl rfl hl.1 (Nat.le_of_ble_eq_true rfl) ⟨Nat.le_of_ble_eq_true rfl, Nat.le_of_ble_eq_true rfl⟩ dX7_at_3 (fun x2 σ1 H locs hok hz hP hD hS => ?_)
  refine lv_if_eq (tgt := 25) hx hb dX7_at_6 (by decide) (fun c_6 => ?_) (fun c_6 => ?_)
  · have hok := hok.1 c_6
    refine lv_iconst (v := (-1)) hx hb dX7_at_25 (by decide) ?_
    exact yEnd S hr hlocks hP hD hS (Nat.le_of_ble_eq_true rfl) (Nat.le_of_ble_eq_true rfl) dX7_at_26 hok
  · have hok := hok.2 c_6
    refine lv_aload_n hx hb dX7_at_9 rfl (lv_at hl 0 rfl) ?_
    refine xg (ci := 7) S inX7 rfl hK hP cW_72 1 (by decide) rfl kw_5_55 rfl dX7_at_10 ?_
    refine lv_iload_n hx hb dX7_at_13 rfl (lv_at hl 1 rfl) ?_
    refine lv_aload_n hx hb dX7_at_14 rfl (lv_at hl 0 rfl) ?_
    refine xg (ci := 7) S inX7 rfl hK hP cW_72 0 (by decide) rfl kw_5_54 rfl dX7_at_15 ?_
    refine ximul (v := a1 * (σ1.1 72 0)) S dX7_at_18 rfl ?_
    refine lv_iload_n hx hb dX7_at_19 rfl (lv_at hl 2 rfl) ?_
    refine xiadd (v := (a1 * (σ1.1 72 0)) + a2) S dX7_at_20 rfl ?_
    have h_21 := hok.1
    have hok := hok.2
    refine xiald (t0 := 0) (v := (g σ1 73 ((a1 * (σ1.1 72 0)) + a2))) S hK hP cW_73 rfl h_21 rfl dX7_at_21 ?_
    refine lv_goto (tgt := 26) hx hb dX7_at_22 (by decide) ?_
    exact yEnd S hr hlocks hP hD hS (Nat.le_of_ble_eq_true rfl) (Nat.le_of_ble_eq_true rfl) dX7_at_26 hok

set_option maxHeartbeats 8000000 in
set_option maxRecDepth 100000 in
theorem v_X7_add_70 (l : Launch) (D : va_G) (cI cZ cJ : ClassId) (o : Nat) (u : Nat → Nat) (T : Nat) (ra : Nat → Nat) (ga : SG) (σ : FS) (Φ : Int32 → FS → Prop) (sz : Nat) (hok : (wp_X7_add 70 192 σ Φ)) : Met l yX7_add (uW yX7_add cX7_add 3 (some .int)) ({ frames := 0, cells := 0, slots := 0, locals := 0 }) (va_Pc [.ref (u 69)] (aS ra ga D (tyL cI cZ cJ) (cW o u cI cZ cJ T σ) sz)) (yQi Φ D (cW o u cI cZ cJ T) (va_A (cW o u cI cZ cJ T σ) sz)) 0 0 (va_A (cW o u cI cZ cJ T σ) sz) := by
  refine aStart (lv := [(0, .ref (u 69))]) (Qc := fun A => yQi Φ D (cW o u cI cZ cJ T) A) (by decide) (Nat.le_of_ble_eq_true rfl) rfl ?_
  intro p e s m args below meth c ls A H S hr hlocks hnm hl hK hP hD hS hA hB
  have hx := S.1
  have hb := S.2.1
  refine lv_aload_n hx hb dX7_add_0 rfl (lv_at hl 0 rfl) ?_
  refine xg (ci := 7) S inX7 rfl hK hP cW_70 2 (by decide) rfl kw_5_56 rfl dX7_add_1 ?_
  refine lv_iconst (v := 1) hx hb dX7_add_4 (by decide) ?_
  refine xiadd (v := (σ.1 70 2) + 1) S dX7_add_5 rfl ?_
  refine lv_aload_n hx hb dX7_add_6 rfl (lv_at hl 0 rfl) ?_
  refine xg (ci := 7) S inX7 rfl hK hP cW_70 0 (by decide) rfl kw_5_54 rfl dX7_add_7 ?_
  refine ximul (v := ((σ.1 70 2) + 1) * (σ.1 70 0)) S dX7_add_10 rfl ?_
  refine lv_topi (fun x1 ex1 => ?_)
  have hok := hok x1 ex1
  refine lv_istore_n (lv' := [(1, .int x1), (0, .ref (u 69))]) hx hb dX7_add_11 rfl hl (by decide) rfl (fun ls hl => ?_)
  refine lv_iload_n hx hb dX7_add_12 rfl (lv_at hl 0 rfl) ?_
  refine lv_aload_n hx hb dX7_add_13 rfl (lv_at hl 1 rfl) ?_
  refine xg (ci := 7) S inX7 rfl hK hP cW_70 1 (by decide) rfl kw_5_55 rfl dX7_add_14 ?_
  refine xalen (t0 := 0) (v := (nI 192)) S hK hP cW_71 rfl rfl dX7_add_17 ?_
  refine lv_icmp_le (tgt := 49) hx hb dX7_add_18 (by decide) (fun c_18 => ?_) (fun c_18 => ?_)
  · have hok := hok.1 c_18
    refine lv_iload_n hx hb dX7_add_49 rfl (lv_at hl 0 rfl) ?_
    refine lv_aload_n hx hb dX7_add_50 rfl (lv_at hl 1 rfl) ?_
    refine xg (ci := 7) S inX7 rfl hK hP cW_70 1 (by decide) rfl kw_5_55 rfl dX7_add_51 ?_
    refine xalen (t0 := 0) (v := (nI 192)) S hK hP cW_71 rfl rfl dX7_add_54 ?_
    refine lv_icmp_le (tgt := 60) hx hb dX7_add_55 (by decide) (fun c_55 => ?_) (fun c_55 => ?_)
    · have hok := hok.1 c_55
      refine lv_iload_n hx hb dX7_add_60 rfl (lv_at hl 0 rfl) ?_
      refine lv_aload_n hx hb dX7_add_61 rfl (lv_at hl 1 rfl) ?_
      refine xg (ci := 7) S inX7 rfl hK hP cW_70 0 (by decide) rfl kw_5_54 rfl dX7_add_62 ?_
      refine xisub (v := x1 - (σ.1 70 0)) S dX7_add_65 rfl ?_
      refine lv_topi (fun x2 ex2 => ?_)
      have hok := hok x2 ex2
      refine lv_istore_n (lv' := [(2, .int x2), (1, .int x1), (0, .ref (u 69))]) hx hb dX7_add_66 rfl hl (by decide) rfl (fun ls hl => ?_)
      have lp67 : ∀ (K : FS → Int32 → Prop), (∀ (τ0 : FS) (l2_0 : Int32) (H : Heap) (locs : List Loc) (ls : Array Slot), K τ0 l2_0 → lv_has ls 3 [(2, .int l2_0), (1, .int x1), (0, .ref (u 69))] → va_P D vwCl (cW o u cI cZ cJ T τ0) H → va_D A (cW o u cI cZ cJ T τ0) → va_S A s.heap H locs → W p l e ({ frames := 0, cells := 0, slots := 0, locals := 0 }) s m args below meth c H locs 0 0 (MQ below (yQi Φ D (cW o u cI cZ cJ T) A) args s 0 0 A) (F0 m 85 ls [])) → ∀ (n0 : Nat) (τ0 : FS) (l2_0 : Int32) (H : Heap) (locs : List Loc) (ls : Array Slot), wp_X7_add_67 70 192 x1 Φ K n0 τ0 l2_0 → lv_has ls 3 [(2, .int l2_0), (1, .int x1), (0, .ref (u 69))] → va_P D vwCl (cW o u cI cZ cJ T τ0) H → va_D A (cW o u cI cZ cJ T τ0) → va_S A s.heap H locs → W p l e ({ frames := 0, cells := 0, slots := 0, locals := 0 }) s m args below meth c H locs 0 0 (MQ below (yQi Φ D (cW o u cI cZ cJ T) A) args s 0 0 A) (F0 m 67 ls []) := by
        intro K hk n0
        induction n0 with
        | zero => intro τ0 l2_0 H locs ls hok; exact False.elim hok
        | succ n0 ih67 =>
          intro τ0 l2_0 H locs ls hok hl hP hD hS
          refine lv_iload_n hx hb dX7_add_67 rfl (lv_at hl 0 rfl) ?_
          refine lv_iload_n hx hb dX7_add_68 rfl (lv_at hl 1 rfl) ?_
          refine lv_icmp_ge (tgt := 85) hx hb dX7_add_69 (by decide) (fun c_69 => ?_) (fun c_69 => ?_)
          · have hok := hok.1 c_69
            exact hk τ0 l2_0 H locs ls hok (lv_sub hl [0, 1, 2] rfl) hP hD hS
          · have hok := hok.2 c_69
            refine lv_aload_n hx hb dX7_add_72 rfl (lv_at hl 2 rfl) ?_
            refine xg (ci := 7) S inX7 rfl hK hP cW_70 1 (by decide) rfl kw_5_55 rfl dX7_add_73 ?_
            refine lv_iload_n hx hb dX7_add_76 rfl (lv_at hl 0 rfl) ?_
            refine lv_iconst (v := 0) hx hb dX7_add_77 (by decide) ?_
            have h_78 := hok.1
            have hok := hok.2
            refine yiast (t0 := 0) (cw := (cW o u cI cZ cJ T)) S hK hP hD hS cW_71 rfl h_78 dX7_add_78 cWa_71 (fun σ3 H locs eσ3 hP hD hS => ?_)
            have hok := hok σ3 eσ3
            refine lv_iinc (v := l2_0 + 1) (lv' := [(2, .int (l2_0 + 1)), (1, .int x1), (0, .ref (u 69))]) hx hb dX7_add_79 hl (k := 0) rfl rfl (by decide) rfl (fun ls hl => ?_)
            refine lv_goto (tgt := 67) hx hb dX7_add_82 (by decide) ?_
            exact ih67 σ3 (l2_0 + 1) H locs ls hok (lv_sub hl [0, 1, 2] rfl) hP hD hS
      refine lp67 _ ?_ FUEL σ x2 _ _ _ hok (lv_sub hl [0, 1, 2] rfl) hP hD hS
      intro σ4 x5 H locs ls hok hl hP hD hS
      refine lv_aload_n hx hb dX7_add_85 rfl (lv_at hl 2 rfl) ?_
      refine lv_dup hx hb dX7_add_86 rfl ?_
      refine xg (ci := 7) S inX7 rfl hK hP cW_70 2 (by decide) rfl kw_5_56 rfl dX7_add_87 ?_
      refine lv_iconst (v := 1) hx hb dX7_add_90 (by decide) ?_
      refine xiadd (v := (σ4.1 70 2) + 1) S dX7_add_91 rfl ?_
      refine yp (ci := 7) (v := .int ((σ4.1 70 2) + 1)) (cw := (cW o u cI cZ cJ T)) S inX7 tyX7 tyX7_ok nmX7 rfl hK hP hD hS cW_70 2 (by decide) kw_5_56 rfl rfl rfl rfl (Nat.le_of_ble_eq_true rfl) dX7_add_92 cWp_70_2 (fun σ6 H locs eσ6 hP hD hS => ?_)
      have hok := hok σ6 eσ6
      refine lv_aload_n hx hb dX7_add_95 rfl (lv_at hl 2 rfl) ?_
      refine xg (ci := 7) S inX7 rfl hK hP cW_70 2 (by decide) rfl kw_5_56 rfl dX7_add_96 ?_
      refine lv_iconst (v := 1) hx hb dX7_add_99 (by decide) ?_
      refine xisub (v := (σ6.1 70 2) - 1) S dX7_add_100 rfl ?_
      exact yEnd S hr hlocks hP hD hS (Nat.le_of_ble_eq_true rfl) (Nat.le_of_ble_eq_true rfl) dX7_add_101 hok
    · have hok := hok.2 c_55
      refine lv_iconst (v := (-1)) hx hb dX7_add_58 (by decide) ?_
      exact yEnd S hr hlocks hP hD hS (Nat.le_of_ble_eq_true rfl) (Nat.le_of_ble_eq_true rfl) dX7_add_59 hok
  · have hok := hok.2 c_18
    refine lv_aload_n hx hb dX7_add_21 rfl (lv_at hl 1 rfl) ?_
    refine xg (ci := 7) S inX7 rfl hK hP cW_70 1 (by decide) rfl kw_5_55 rfl dX7_add_22 ?_
    refine xalen (t0 := 0) (v := (nI 192)) S hK hP cW_71 rfl rfl dX7_add_25 ?_
    refine lv_ldc hx hb S.2.2.2.1 (S.2.2.2.2 _ kw_2_228) dX7_add_26 ?_
    refine lv_icmp_gt (tgt := 49) hx hb dX7_add_28 (by decide) (fun c_28 => ?_) (fun c_28 => ?_)
    · have hok := hok.1 c_28
      refine lv_iload_n hx hb dX7_add_49 rfl (lv_at hl 0 rfl) ?_
      refine lv_aload_n hx hb dX7_add_50 rfl (lv_at hl 1 rfl) ?_
      refine xg (ci := 7) S inX7 rfl hK hP cW_70 1 (by decide) rfl kw_5_55 rfl dX7_add_51 ?_
      refine xalen (t0 := 0) (v := (nI 192)) S hK hP cW_71 rfl rfl dX7_add_54 ?_
      refine lv_icmp_le (tgt := 60) hx hb dX7_add_55 (by decide) (fun c_55 => ?_) (fun c_55 => ?_)
      · have hok := hok.1 c_55
        refine lv_iload_n hx hb dX7_add_60 rfl (lv_at hl 0 rfl) ?_
        refine lv_aload_n hx hb dX7_add_61 rfl (lv_at hl 1 rfl) ?_
        refine xg (ci := 7) S inX7 rfl hK hP cW_70 0 (by decide) rfl kw_5_54 rfl dX7_add_62 ?_
        refine xisub (v := x1 - (σ.1 70 0)) S dX7_add_65 rfl ?_
        refine lv_topi (fun x7 ex7 => ?_)
        have hok := hok x7 ex7
        refine lv_istore_n (lv' := [(2, .int x7), (1, .int x1), (0, .ref (u 69))]) hx hb dX7_add_66 rfl hl (by decide) rfl (fun ls hl => ?_)
        have lp67 : ∀ (K : FS → Int32 → Prop), (∀ (τ0 : FS) (l2_0 : Int32) (H : Heap) (locs : List Loc) (ls : Array Slot), K τ0 l2_0 → lv_has ls 3 [(2, .int l2_0), (1, .int x1), (0, .ref (u 69))] → va_P D vwCl (cW o u cI cZ cJ T τ0) H → va_D A (cW o u cI cZ cJ T τ0) → va_S A s.heap H locs → W p l e ({ frames := 0, cells := 0, slots := 0, locals := 0 }) s m args below meth c H locs 0 0 (MQ below (yQi Φ D (cW o u cI cZ cJ T) A) args s 0 0 A) (F0 m 85 ls [])) → ∀ (n0 : Nat) (τ0 : FS) (l2_0 : Int32) (H : Heap) (locs : List Loc) (ls : Array Slot), wp_X7_add_67 70 192 x1 Φ K n0 τ0 l2_0 → lv_has ls 3 [(2, .int l2_0), (1, .int x1), (0, .ref (u 69))] → va_P D vwCl (cW o u cI cZ cJ T τ0) H → va_D A (cW o u cI cZ cJ T τ0) → va_S A s.heap H locs → W p l e ({ frames := 0, cells := 0, slots := 0, locals := 0 }) s m args below meth c H locs 0 0 (MQ below (yQi Φ D (cW o u cI cZ cJ T) A) args s 0 0 A) (F0 m 67 ls []) := by
          intro K hk n0
          induction n0 with
          | zero => intro τ0 l2_0 H locs ls hok; exact False.elim hok
          | succ n0 ih67 =>
            intro τ0 l2_0 H locs ls hok hl hP hD hS
            refine lv_iload_n hx hb dX7_add_67 rfl (lv_at hl 0 rfl) ?_
            refine lv_iload_n hx hb dX7_add_68 rfl (lv_at hl 1 rfl) ?_
            refine lv_icmp_ge (tgt := 85) hx hb dX7_add_69 (by decide) (fun c_69 => ?_) (fun c_69 => ?_)
            · have hok := hok.1 c_69
              exact hk τ0 l2_0 H locs ls hok (lv_sub hl [0, 1, 2] rfl) hP hD hS
            · have hok := hok.2 c_69
              refine lv_aload_n hx hb dX7_add_72 rfl (lv_at hl 2 rfl) ?_
              refine xg (ci := 7) S inX7 rfl hK hP cW_70 1 (by decide) rfl kw_5_55 rfl dX7_add_73 ?_
              refine lv_iload_n hx hb dX7_add_76 rfl (lv_at hl 0 rfl) ?_
              refine lv_iconst (v := 0) hx hb dX7_add_77 (by decide) ?_
              have h_78 := hok.1
              have hok := hok.2
              refine yiast (t0 := 0) (cw := (cW o u cI cZ cJ T)) S hK hP hD hS cW_71 rfl h_78 dX7_add_78 cWa_71 (fun σ8 H locs eσ8 hP hD hS => ?_)
              have hok := hok σ8 eσ8
              refine lv_iinc (v := l2_0 + 1) (lv' := [(2, .int (l2_0 + 1)), (1, .int x1), (0, .ref (u 69))]) hx hb dX7_add_79 hl (k := 0) rfl rfl (by decide) rfl (fun ls hl => ?_)
              refine lv_goto (tgt := 67) hx hb dX7_add_82 (by decide) ?_
              exact ih67 σ8 (l2_0 + 1) H locs ls hok (lv_sub hl [0, 1, 2] rfl) hP hD hS
        refine lp67 _ ?_ FUEL σ x7 _ _ _ hok (lv_sub hl [0, 1, 2] rfl) hP hD hS
        intro σ9 x10 H locs ls hok hl hP hD hS
        refine lv_aload_n hx hb dX7_add_85 rfl (lv_at hl 2 rfl) ?_
        refine lv_dup hx hb dX7_add_86 rfl ?_
        refine xg (ci := 7) S inX7 rfl hK hP cW_70 2 (by decide) rfl kw_5_56 rfl dX7_add_87 ?_
        refine lv_iconst (v := 1) hx hb dX7_add_90 (by decide) ?_
        refine xiadd (v := (σ9.1 70 2) + 1) S dX7_add_91 rfl ?_
        refine yp (ci := 7) (v := .int ((σ9.1 70 2) + 1)) (cw := (cW o u cI cZ cJ T)) S inX7 tyX7 tyX7_ok nmX7 rfl hK hP hD hS cW_70 2 (by decide) kw_5_56 rfl rfl rfl rfl (Nat.le_of_ble_eq_true rfl) dX7_add_92 cWp_70_2 (fun σ11 H locs eσ11 hP hD hS => ?_)
        have hok := hok σ11 eσ11
        refine lv_aload_n hx hb dX7_add_95 rfl (lv_at hl 2 rfl) ?_
        refine xg (ci := 7) S inX7 rfl hK hP cW_70 2 (by decide) rfl kw_5_56 rfl dX7_add_96 ?_
        refine lv_iconst (v := 1) hx hb dX7_add_99 (by decide) ?_
        refine xisub (v := (σ11.1 70 2) - 1) S dX7_add_100 rfl ?_
        exact yEnd S hr hlocks hP hD hS (Nat.le_of_ble_eq_true rfl) (Nat.le_of_ble_eq_true rfl) dX7_add_101 hok
      · have hok := hok.2 c_55
        refine lv_iconst (v := (-1)) hx hb dX7_add_58 (by decide) ?_
        exact yEnd S hr hlocks hP hD hS (Nat.le_of_ble_eq_true rfl) (Nat.le_of_ble_eq_true rfl) dX7_add_59 hok
    · have hok := hok.2 c_28
      refine lv_aload_n hx hb dX7_add_31 rfl (lv_at hl 1 rfl) ?_
      refine lv_aload_n hx hb dX7_add_32 rfl (lv_at hl 1 rfl) ?_
      refine xg (ci := 7) S inX7 rfl hK hP cW_70 1 (by decide) rfl kw_5_55 rfl dX7_add_33 ?_
      refine lv_aload_n hx hb dX7_add_36 rfl (lv_at hl 1 rfl) ?_
      refine xg (ci := 7) S inX7 rfl hK hP cW_70 1 (by decide) rfl kw_5_55 rfl dX7_add_37 ?_
      refine xalen (t0 := 0) (v := (nI 192)) S hK hP cW_71 rfl rfl dX7_add_40 ?_
      refine lv_iconst (v := 2) hx hb dX7_add_41 (by decide) ?_
      refine ximul (v := (nI 192) * 2) S dX7_add_42 rfl ?_
      exact False.elim hok

set_option maxHeartbeats 8000000 in
set_option maxRecDepth 100000 in
theorem v_X7_has_70 (l : Launch) (D : va_G) (cI cZ cJ : ClassId) (o : Nat) (u : Nat → Nat) (T : Nat) (ra : Nat → Nat) (ga : SG) (σ : FS) (a1 : Int32) (a2 : Int32) (Φ : Int32 → FS → Prop) (sz : Nat) (hok : (wp_X7_has 70 192 σ a1 a2 Φ)) : Met l yX7_has (uW yX7_has cX7_has 3 (some .boolean)) ({ frames := 0, cells := 0, slots := 0, locals := 0 }) (va_Pc [.ref (u 69), .int a1, .int a2] (aS ra ga D (tyL cI cZ cJ) (cW o u cI cZ cJ T σ) sz)) (yQi Φ D (cW o u cI cZ cJ T) (va_A (cW o u cI cZ cJ T σ) sz)) 0 0 (va_A (cW o u cI cZ cJ T σ) sz) := by
  refine aStart (lv := [(0, .ref (u 69)), (1, .int a1), (2, .int a2)]) (Qc := fun A => yQi Φ D (cW o u cI cZ cJ T) A) (by decide) (Nat.le_of_ble_eq_true rfl) rfl ?_
  intro p e s m args below meth c ls A H S hr hlocks hnm hl hK hP hD hS hA hB
  have hx := S.1
  have hb := S.2.1
  refine lv_iload_n hx hb dX7_has_0 rfl (lv_at hl 1 rfl) ?_
  refine lv_if_lt (tgt := 28) hx hb dX7_has_1 (by decide) (fun c_1 => ?_) (fun c_1 => ?_)
  · have hok := hok.1 c_1
    refine lv_iconst (v := 0) hx hb dX7_has_28 (by decide) ?_
    exact yEndZ S hr hlocks hP hD hS (Nat.le_of_ble_eq_true rfl) (Nat.le_of_ble_eq_true rfl) dX7_has_29 rfl hok
  · have hok := hok.2 c_1
    refine lv_iload_n hx hb dX7_has_4 rfl (lv_at hl 1 rfl) ?_
    refine lv_aload_n hx hb dX7_has_5 rfl (lv_at hl 0 rfl) ?_
    refine xg (ci := 7) S inX7 rfl hK hP cW_70 2 (by decide) rfl kw_5_56 rfl dX7_has_6 ?_
    refine lv_icmp_ge (tgt := 28) hx hb dX7_has_9 (by decide) (fun c_9 => ?_) (fun c_9 => ?_)
    · have hok := hok.1 c_9
      refine lv_iconst (v := 0) hx hb dX7_has_28 (by decide) ?_
      exact yEndZ S hr hlocks hP hD hS (Nat.le_of_ble_eq_true rfl) (Nat.le_of_ble_eq_true rfl) dX7_has_29 rfl hok
    · have hok := hok.2 c_9
      refine lv_iload_n hx hb dX7_has_12 rfl (lv_at hl 2 rfl) ?_
      refine lv_if_lt (tgt := 28) hx hb dX7_has_13 (by decide) (fun c_13 => ?_) (fun c_13 => ?_)
      · have hok := hok.1 c_13
        refine lv_iconst (v := 0) hx hb dX7_has_28 (by decide) ?_
        exact yEndZ S hr hlocks hP hD hS (Nat.le_of_ble_eq_true rfl) (Nat.le_of_ble_eq_true rfl) dX7_has_29 rfl hok
      · have hok := hok.2 c_13
        refine lv_iload_n hx hb dX7_has_16 rfl (lv_at hl 2 rfl) ?_
        refine lv_aload_n hx hb dX7_has_17 rfl (lv_at hl 0 rfl) ?_
        refine xg (ci := 7) S inX7 rfl hK hP cW_70 0 (by decide) rfl kw_5_54 rfl dX7_has_18 ?_
        refine lv_icmp_ge (tgt := 28) hx hb dX7_has_21 (by decide) (fun c_21 => ?_) (fun c_21 => ?_)
        · have hok := hok.1 c_21
          refine lv_iconst (v := 0) hx hb dX7_has_28 (by decide) ?_
          exact yEndZ S hr hlocks hP hD hS (Nat.le_of_ble_eq_true rfl) (Nat.le_of_ble_eq_true rfl) dX7_has_29 rfl hok
        · have hok := hok.2 c_21
          refine lv_iconst (v := 1) hx hb dX7_has_24 (by decide) ?_
          refine lv_goto (tgt := 29) hx hb dX7_has_25 (by decide) ?_
          exact yEndZ S hr hlocks hP hD hS (Nat.le_of_ble_eq_true rfl) (Nat.le_of_ble_eq_true rfl) dX7_has_29 rfl hok

set_option maxHeartbeats 8000000 in
set_option maxRecDepth 100000 in
theorem v_X7_put_70 (l : Launch) (D : va_G) (cI cZ cJ : ClassId) (o : Nat) (u : Nat → Nat) (T : Nat) (ra : Nat → Nat) (ga : SG) (σ : FS) (a1 : Int32) (a2 : Int32) (a3 : Int32) (Φ : FS → Prop) (sz : Nat) (hok : (wp_X7_put 70 192 σ a1 a2 a3 Φ)) : Met l yX7_put (uW yX7_put cX7_put 4 none) ({ frames := 1, cells := 0, slots := 0, locals := 22 }) (va_Pc [.ref (u 69), .int a1, .int a2, .int a3] (aS ra ga D (tyL cI cZ cJ) (cW o u cI cZ cJ T σ) sz)) (yQv Φ D (cW o u cI cZ cJ T) (va_A (cW o u cI cZ cJ T σ) sz)) 0 0 (va_A (cW o u cI cZ cJ T σ) sz) := by
  refine aStart (lv := [(0, .ref (u 69)), (1, .int a1), (2, .int a2), (3, .int a3)]) (Qc := fun A => yQv Φ D (cW o u cI cZ cJ T) A) (by decide) (Nat.le_of_ble_eq_true rfl) rfl ?_
  intro p e s m args below meth c ls A H S hr hlocks hnm hl hK hP hD hS hA hB
  have hx := S.1
  have hb := S.2.1
  refine lv_aload_n hx hb dX7_put_0 rfl (lv_at hl 0 rfl) ?_
  refine lv_iload_n hx hb dX7_put_1 rfl (lv_at hl 1 rfl) ?_
  refine lv_iload_n hx hb dX7_put_2 rfl (lv_at hl 2 rfl) ?_
  refine yVi (As := [.int a1, .int a2]) (cw := (cW o u cI cZ cJ T)) (ci := 7) S (v_X7_has_70 l D cI cZ cJ o u T ra ga σ a1 a2 _ H.size hok) mi_X7_has kw_3_9 rfl rfl ⟨Nat.le_of_ble_eq_true rfl, Nat.le_of_ble_eq_true rfl⟩ hP hD hK hS hA hB cW_70 rfl rfl hl.1 (Nat.le_of_ble_eq_true rfl) ⟨Nat.le_of_ble_eq_true rfl, Nat.le_of_ble_eq_true rfl⟩ dX7_put_3 (fun x2 σ1 H locs hok hz hP hD hS => ?_)
  refine lv_if_eq (tgt := 23) hx hb dX7_put_6 (by decide) (fun c_6 => ?_) (fun c_6 => ?_)
  · have hok := hok.1 c_6
    exact yEndv S hr hlocks hP hD hS (Nat.le_of_ble_eq_true rfl) (Nat.le_of_ble_eq_true rfl) dX7_put_23 hok
  · have hok := hok.2 c_6
    refine lv_aload_n hx hb dX7_put_9 rfl (lv_at hl 0 rfl) ?_
    refine xg (ci := 7) S inX7 rfl hK hP cW_70 1 (by decide) rfl kw_5_55 rfl dX7_put_10 ?_
    refine lv_iload_n hx hb dX7_put_13 rfl (lv_at hl 1 rfl) ?_
    refine lv_aload_n hx hb dX7_put_14 rfl (lv_at hl 0 rfl) ?_
    refine xg (ci := 7) S inX7 rfl hK hP cW_70 0 (by decide) rfl kw_5_54 rfl dX7_put_15 ?_
    refine ximul (v := a1 * (σ1.1 70 0)) S dX7_put_18 rfl ?_
    refine lv_iload_n hx hb dX7_put_19 rfl (lv_at hl 2 rfl) ?_
    refine xiadd (v := (a1 * (σ1.1 70 0)) + a2) S dX7_put_20 rfl ?_
    refine lv_iload_n hx hb dX7_put_21 rfl (lv_at hl 3 rfl) ?_
    have h_22 := hok.1
    have hok := hok.2
    refine yiast (t0 := 0) (cw := (cW o u cI cZ cJ T)) S hK hP hD hS cW_71 rfl h_22 dX7_put_22 cWa_71 (fun σ3 H locs eσ3 hP hD hS => ?_)
    have hok := hok σ3 eσ3
    exact yEndv S hr hlocks hP hD hS (Nat.le_of_ble_eq_true rfl) (Nat.le_of_ble_eq_true rfl) dX7_put_23 hok

set_option maxHeartbeats 8000000 in
set_option maxRecDepth 100000 in
theorem v_X7_add_66 (l : Launch) (D : va_G) (cI cZ cJ : ClassId) (o : Nat) (u : Nat → Nat) (T : Nat) (ra : Nat → Nat) (ga : SG) (σ : FS) (Φ : Int32 → FS → Prop) (sz : Nat) (hok : (wp_X7_add 66 128 σ Φ)) : Met l yX7_add (uW yX7_add cX7_add 3 (some .int)) ({ frames := 0, cells := 0, slots := 0, locals := 0 }) (va_Pc [.ref (u 65)] (aS ra ga D (tyL cI cZ cJ) (cW o u cI cZ cJ T σ) sz)) (yQi Φ D (cW o u cI cZ cJ T) (va_A (cW o u cI cZ cJ T σ) sz)) 0 0 (va_A (cW o u cI cZ cJ T σ) sz) := by
  refine aStart (lv := [(0, .ref (u 65))]) (Qc := fun A => yQi Φ D (cW o u cI cZ cJ T) A) (by decide) (Nat.le_of_ble_eq_true rfl) rfl ?_
  intro p e s m args below meth c ls A H S hr hlocks hnm hl hK hP hD hS hA hB
  have hx := S.1
  have hb := S.2.1
  refine lv_aload_n hx hb dX7_add_0 rfl (lv_at hl 0 rfl) ?_
  refine xg (ci := 7) S inX7 rfl hK hP cW_66 2 (by decide) rfl kw_5_56 rfl dX7_add_1 ?_
  refine lv_iconst (v := 1) hx hb dX7_add_4 (by decide) ?_
  refine xiadd (v := (σ.1 66 2) + 1) S dX7_add_5 rfl ?_
  refine lv_aload_n hx hb dX7_add_6 rfl (lv_at hl 0 rfl) ?_
  refine xg (ci := 7) S inX7 rfl hK hP cW_66 0 (by decide) rfl kw_5_54 rfl dX7_add_7 ?_
  refine ximul (v := ((σ.1 66 2) + 1) * (σ.1 66 0)) S dX7_add_10 rfl ?_
  refine lv_topi (fun x1 ex1 => ?_)
  have hok := hok x1 ex1
  refine lv_istore_n (lv' := [(1, .int x1), (0, .ref (u 65))]) hx hb dX7_add_11 rfl hl (by decide) rfl (fun ls hl => ?_)
  refine lv_iload_n hx hb dX7_add_12 rfl (lv_at hl 0 rfl) ?_
  refine lv_aload_n hx hb dX7_add_13 rfl (lv_at hl 1 rfl) ?_
  refine xg (ci := 7) S inX7 rfl hK hP cW_66 1 (by decide) rfl kw_5_55 rfl dX7_add_14 ?_
  refine xalen (t0 := 0) (v := (nI 128)) S hK hP cW_67 rfl rfl dX7_add_17 ?_
  refine lv_icmp_le (tgt := 49) hx hb dX7_add_18 (by decide) (fun c_18 => ?_) (fun c_18 => ?_)
  · have hok := hok.1 c_18
    refine lv_iload_n hx hb dX7_add_49 rfl (lv_at hl 0 rfl) ?_
    refine lv_aload_n hx hb dX7_add_50 rfl (lv_at hl 1 rfl) ?_
    refine xg (ci := 7) S inX7 rfl hK hP cW_66 1 (by decide) rfl kw_5_55 rfl dX7_add_51 ?_
    refine xalen (t0 := 0) (v := (nI 128)) S hK hP cW_67 rfl rfl dX7_add_54 ?_
    refine lv_icmp_le (tgt := 60) hx hb dX7_add_55 (by decide) (fun c_55 => ?_) (fun c_55 => ?_)
    · have hok := hok.1 c_55
      refine lv_iload_n hx hb dX7_add_60 rfl (lv_at hl 0 rfl) ?_
      refine lv_aload_n hx hb dX7_add_61 rfl (lv_at hl 1 rfl) ?_
      refine xg (ci := 7) S inX7 rfl hK hP cW_66 0 (by decide) rfl kw_5_54 rfl dX7_add_62 ?_
      refine xisub (v := x1 - (σ.1 66 0)) S dX7_add_65 rfl ?_
      refine lv_topi (fun x2 ex2 => ?_)
      have hok := hok x2 ex2
      refine lv_istore_n (lv' := [(2, .int x2), (1, .int x1), (0, .ref (u 65))]) hx hb dX7_add_66 rfl hl (by decide) rfl (fun ls hl => ?_)
      have lp67 : ∀ (K : FS → Int32 → Prop), (∀ (τ0 : FS) (l2_0 : Int32) (H : Heap) (locs : List Loc) (ls : Array Slot), K τ0 l2_0 → lv_has ls 3 [(2, .int l2_0), (1, .int x1), (0, .ref (u 65))] → va_P D vwCl (cW o u cI cZ cJ T τ0) H → va_D A (cW o u cI cZ cJ T τ0) → va_S A s.heap H locs → W p l e ({ frames := 0, cells := 0, slots := 0, locals := 0 }) s m args below meth c H locs 0 0 (MQ below (yQi Φ D (cW o u cI cZ cJ T) A) args s 0 0 A) (F0 m 85 ls [])) → ∀ (n0 : Nat) (τ0 : FS) (l2_0 : Int32) (H : Heap) (locs : List Loc) (ls : Array Slot), wp_X7_add_67 66 128 x1 Φ K n0 τ0 l2_0 → lv_has ls 3 [(2, .int l2_0), (1, .int x1), (0, .ref (u 65))] → va_P D vwCl (cW o u cI cZ cJ T τ0) H → va_D A (cW o u cI cZ cJ T τ0) → va_S A s.heap H locs → W p l e ({ frames := 0, cells := 0, slots := 0, locals := 0 }) s m args below meth c H locs 0 0 (MQ below (yQi Φ D (cW o u cI cZ cJ T) A) args s 0 0 A) (F0 m 67 ls []) := by
        intro K hk n0
        induction n0 with
        | zero => intro τ0 l2_0 H locs ls hok; exact False.elim hok
        | succ n0 ih67 =>
          intro τ0 l2_0 H locs ls hok hl hP hD hS
          refine lv_iload_n hx hb dX7_add_67 rfl (lv_at hl 0 rfl) ?_
          refine lv_iload_n hx hb dX7_add_68 rfl (lv_at hl 1 rfl) ?_
          refine lv_icmp_ge (tgt := 85) hx hb dX7_add_69 (by decide) (fun c_69 => ?_) (fun c_69 => ?_)
          · have hok := hok.1 c_69
            exact hk τ0 l2_0 H locs ls hok (lv_sub hl [0, 1, 2] rfl) hP hD hS
          · have hok := hok.2 c_69
            refine lv_aload_n hx hb dX7_add_72 rfl (lv_at hl 2 rfl) ?_
            refine xg (ci := 7) S inX7 rfl hK hP cW_66 1 (by decide) rfl kw_5_55 rfl dX7_add_73 ?_
            refine lv_iload_n hx hb dX7_add_76 rfl (lv_at hl 0 rfl) ?_
            refine lv_iconst (v := 0) hx hb dX7_add_77 (by decide) ?_
            have h_78 := hok.1
            have hok := hok.2
            refine yiast (t0 := 0) (cw := (cW o u cI cZ cJ T)) S hK hP hD hS cW_67 rfl h_78 dX7_add_78 cWa_67 (fun σ3 H locs eσ3 hP hD hS => ?_)
            have hok := hok σ3 eσ3
            refine lv_iinc (v := l2_0 + 1) (lv' := [(2, .int (l2_0 + 1)), (1, .int x1), (0, .ref (u 65))]) hx hb dX7_add_79 hl (k := 0) rfl rfl (by decide) rfl (fun ls hl => ?_)
            refine lv_goto (tgt := 67) hx hb dX7_add_82 (by decide) ?_
            exact ih67 σ3 (l2_0 + 1) H locs ls hok (lv_sub hl [0, 1, 2] rfl) hP hD hS
      refine lp67 _ ?_ FUEL σ x2 _ _ _ hok (lv_sub hl [0, 1, 2] rfl) hP hD hS
      intro σ4 x5 H locs ls hok hl hP hD hS
      refine lv_aload_n hx hb dX7_add_85 rfl (lv_at hl 2 rfl) ?_
      refine lv_dup hx hb dX7_add_86 rfl ?_
      refine xg (ci := 7) S inX7 rfl hK hP cW_66 2 (by decide) rfl kw_5_56 rfl dX7_add_87 ?_
      refine lv_iconst (v := 1) hx hb dX7_add_90 (by decide) ?_
      refine xiadd (v := (σ4.1 66 2) + 1) S dX7_add_91 rfl ?_
      refine yp (ci := 7) (v := .int ((σ4.1 66 2) + 1)) (cw := (cW o u cI cZ cJ T)) S inX7 tyX7 tyX7_ok nmX7 rfl hK hP hD hS cW_66 2 (by decide) kw_5_56 rfl rfl rfl rfl (Nat.le_of_ble_eq_true rfl) dX7_add_92 cWp_66_2 (fun σ6 H locs eσ6 hP hD hS => ?_)
      have hok := hok σ6 eσ6
      refine lv_aload_n hx hb dX7_add_95 rfl (lv_at hl 2 rfl) ?_
      refine xg (ci := 7) S inX7 rfl hK hP cW_66 2 (by decide) rfl kw_5_56 rfl dX7_add_96 ?_
      refine lv_iconst (v := 1) hx hb dX7_add_99 (by decide) ?_
      refine xisub (v := (σ6.1 66 2) - 1) S dX7_add_100 rfl ?_
      exact yEnd S hr hlocks hP hD hS (Nat.le_of_ble_eq_true rfl) (Nat.le_of_ble_eq_true rfl) dX7_add_101 hok
    · have hok := hok.2 c_55
      refine lv_iconst (v := (-1)) hx hb dX7_add_58 (by decide) ?_
      exact yEnd S hr hlocks hP hD hS (Nat.le_of_ble_eq_true rfl) (Nat.le_of_ble_eq_true rfl) dX7_add_59 hok
  · have hok := hok.2 c_18
    refine lv_aload_n hx hb dX7_add_21 rfl (lv_at hl 1 rfl) ?_
    refine xg (ci := 7) S inX7 rfl hK hP cW_66 1 (by decide) rfl kw_5_55 rfl dX7_add_22 ?_
    refine xalen (t0 := 0) (v := (nI 128)) S hK hP cW_67 rfl rfl dX7_add_25 ?_
    refine lv_ldc hx hb S.2.2.2.1 (S.2.2.2.2 _ kw_2_228) dX7_add_26 ?_
    refine lv_icmp_gt (tgt := 49) hx hb dX7_add_28 (by decide) (fun c_28 => ?_) (fun c_28 => ?_)
    · have hok := hok.1 c_28
      refine lv_iload_n hx hb dX7_add_49 rfl (lv_at hl 0 rfl) ?_
      refine lv_aload_n hx hb dX7_add_50 rfl (lv_at hl 1 rfl) ?_
      refine xg (ci := 7) S inX7 rfl hK hP cW_66 1 (by decide) rfl kw_5_55 rfl dX7_add_51 ?_
      refine xalen (t0 := 0) (v := (nI 128)) S hK hP cW_67 rfl rfl dX7_add_54 ?_
      refine lv_icmp_le (tgt := 60) hx hb dX7_add_55 (by decide) (fun c_55 => ?_) (fun c_55 => ?_)
      · have hok := hok.1 c_55
        refine lv_iload_n hx hb dX7_add_60 rfl (lv_at hl 0 rfl) ?_
        refine lv_aload_n hx hb dX7_add_61 rfl (lv_at hl 1 rfl) ?_
        refine xg (ci := 7) S inX7 rfl hK hP cW_66 0 (by decide) rfl kw_5_54 rfl dX7_add_62 ?_
        refine xisub (v := x1 - (σ.1 66 0)) S dX7_add_65 rfl ?_
        refine lv_topi (fun x7 ex7 => ?_)
        have hok := hok x7 ex7
        refine lv_istore_n (lv' := [(2, .int x7), (1, .int x1), (0, .ref (u 65))]) hx hb dX7_add_66 rfl hl (by decide) rfl (fun ls hl => ?_)
        have lp67 : ∀ (K : FS → Int32 → Prop), (∀ (τ0 : FS) (l2_0 : Int32) (H : Heap) (locs : List Loc) (ls : Array Slot), K τ0 l2_0 → lv_has ls 3 [(2, .int l2_0), (1, .int x1), (0, .ref (u 65))] → va_P D vwCl (cW o u cI cZ cJ T τ0) H → va_D A (cW o u cI cZ cJ T τ0) → va_S A s.heap H locs → W p l e ({ frames := 0, cells := 0, slots := 0, locals := 0 }) s m args below meth c H locs 0 0 (MQ below (yQi Φ D (cW o u cI cZ cJ T) A) args s 0 0 A) (F0 m 85 ls [])) → ∀ (n0 : Nat) (τ0 : FS) (l2_0 : Int32) (H : Heap) (locs : List Loc) (ls : Array Slot), wp_X7_add_67 66 128 x1 Φ K n0 τ0 l2_0 → lv_has ls 3 [(2, .int l2_0), (1, .int x1), (0, .ref (u 65))] → va_P D vwCl (cW o u cI cZ cJ T τ0) H → va_D A (cW o u cI cZ cJ T τ0) → va_S A s.heap H locs → W p l e ({ frames := 0, cells := 0, slots := 0, locals := 0 }) s m args below meth c H locs 0 0 (MQ below (yQi Φ D (cW o u cI cZ cJ T) A) args s 0 0 A) (F0 m 67 ls []) := by
          intro K hk n0
          induction n0 with
          | zero => intro τ0 l2_0 H locs ls hok; exact False.elim hok
          | succ n0 ih67 =>
            intro τ0 l2_0 H locs ls hok hl hP hD hS
            refine lv_iload_n hx hb dX7_add_67 rfl (lv_at hl 0 rfl) ?_
            refine lv_iload_n hx hb dX7_add_68 rfl (lv_at hl 1 rfl) ?_
            refine lv_icmp_ge (tgt := 85) hx hb dX7_add_69 (by decide) (fun c_69 => ?_) (fun c_69 => ?_)
            · have hok := hok.1 c_69
              exact hk τ0 l2_0 H locs ls hok (lv_sub hl [0, 1, 2] rfl) hP hD hS
            · have hok := hok.2 c_69
              refine lv_aload_n hx hb dX7_add_72 rfl (lv_at hl 2 rfl) ?_
              refine xg (ci := 7) S inX7 rfl hK hP cW_66 1 (by decide) rfl kw_5_55 rfl dX7_add_73 ?_
              refine lv_iload_n hx hb dX7_add_76 rfl (lv_at hl 0 rfl) ?_
              refine lv_iconst (v := 0) hx hb dX7_add_77 (by decide) ?_
              have h_78 := hok.1
              have hok := hok.2
              refine yiast (t0 := 0) (cw := (cW o u cI cZ cJ T)) S hK hP hD hS cW_67 rfl h_78 dX7_add_78 cWa_67 (fun σ8 H locs eσ8 hP hD hS => ?_)
              have hok := hok σ8 eσ8
              refine lv_iinc (v := l2_0 + 1) (lv' := [(2, .int (l2_0 + 1)), (1, .int x1), (0, .ref (u 65))]) hx hb dX7_add_79 hl (k := 0) rfl rfl (by decide) rfl (fun ls hl => ?_)
              refine lv_goto (tgt := 67) hx hb dX7_add_82 (by decide) ?_
              exact ih67 σ8 (l2_0 + 1) H locs ls hok (lv_sub hl [0, 1, 2] rfl) hP hD hS
        refine lp67 _ ?_ FUEL σ x7 _ _ _ hok (lv_sub hl [0, 1, 2] rfl) hP hD hS
        intro σ9 x10 H locs ls hok hl hP hD hS
        refine lv_aload_n hx hb dX7_add_85 rfl (lv_at hl 2 rfl) ?_
        refine lv_dup hx hb dX7_add_86 rfl ?_
        refine xg (ci := 7) S inX7 rfl hK hP cW_66 2 (by decide) rfl kw_5_56 rfl dX7_add_87 ?_
        refine lv_iconst (v := 1) hx hb dX7_add_90 (by decide) ?_
        refine xiadd (v := (σ9.1 66 2) + 1) S dX7_add_91 rfl ?_
        refine yp (ci := 7) (v := .int ((σ9.1 66 2) + 1)) (cw := (cW o u cI cZ cJ T)) S inX7 tyX7 tyX7_ok nmX7 rfl hK hP hD hS cW_66 2 (by decide) kw_5_56 rfl rfl rfl rfl (Nat.le_of_ble_eq_true rfl) dX7_add_92 cWp_66_2 (fun σ11 H locs eσ11 hP hD hS => ?_)
        have hok := hok σ11 eσ11
        refine lv_aload_n hx hb dX7_add_95 rfl (lv_at hl 2 rfl) ?_
        refine xg (ci := 7) S inX7 rfl hK hP cW_66 2 (by decide) rfl kw_5_56 rfl dX7_add_96 ?_
        refine lv_iconst (v := 1) hx hb dX7_add_99 (by decide) ?_
        refine xisub (v := (σ11.1 66 2) - 1) S dX7_add_100 rfl ?_
        exact yEnd S hr hlocks hP hD hS (Nat.le_of_ble_eq_true rfl) (Nat.le_of_ble_eq_true rfl) dX7_add_101 hok
      · have hok := hok.2 c_55
        refine lv_iconst (v := (-1)) hx hb dX7_add_58 (by decide) ?_
        exact yEnd S hr hlocks hP hD hS (Nat.le_of_ble_eq_true rfl) (Nat.le_of_ble_eq_true rfl) dX7_add_59 hok
    · have hok := hok.2 c_28
      refine lv_aload_n hx hb dX7_add_31 rfl (lv_at hl 1 rfl) ?_
      refine lv_aload_n hx hb dX7_add_32 rfl (lv_at hl 1 rfl) ?_
      refine xg (ci := 7) S inX7 rfl hK hP cW_66 1 (by decide) rfl kw_5_55 rfl dX7_add_33 ?_
      refine lv_aload_n hx hb dX7_add_36 rfl (lv_at hl 1 rfl) ?_
      refine xg (ci := 7) S inX7 rfl hK hP cW_66 1 (by decide) rfl kw_5_55 rfl dX7_add_37 ?_
      refine xalen (t0 := 0) (v := (nI 128)) S hK hP cW_67 rfl rfl dX7_add_40 ?_
      refine lv_iconst (v := 2) hx hb dX7_add_41 (by decide) ?_
      refine ximul (v := (nI 128) * 2) S dX7_add_42 rfl ?_
      exact False.elim hok

set_option maxHeartbeats 8000000 in
set_option maxRecDepth 100000 in
theorem v_X7_has_66 (l : Launch) (D : va_G) (cI cZ cJ : ClassId) (o : Nat) (u : Nat → Nat) (T : Nat) (ra : Nat → Nat) (ga : SG) (σ : FS) (a1 : Int32) (a2 : Int32) (Φ : Int32 → FS → Prop) (sz : Nat) (hok : (wp_X7_has 66 128 σ a1 a2 Φ)) : Met l yX7_has (uW yX7_has cX7_has 3 (some .boolean)) ({ frames := 0, cells := 0, slots := 0, locals := 0 }) (va_Pc [.ref (u 65), .int a1, .int a2] (aS ra ga D (tyL cI cZ cJ) (cW o u cI cZ cJ T σ) sz)) (yQi Φ D (cW o u cI cZ cJ T) (va_A (cW o u cI cZ cJ T σ) sz)) 0 0 (va_A (cW o u cI cZ cJ T σ) sz) := by
  refine aStart (lv := [(0, .ref (u 65)), (1, .int a1), (2, .int a2)]) (Qc := fun A => yQi Φ D (cW o u cI cZ cJ T) A) (by decide) (Nat.le_of_ble_eq_true rfl) rfl ?_
  intro p e s m args below meth c ls A H S hr hlocks hnm hl hK hP hD hS hA hB
  have hx := S.1
  have hb := S.2.1
  refine lv_iload_n hx hb dX7_has_0 rfl (lv_at hl 1 rfl) ?_
  refine lv_if_lt (tgt := 28) hx hb dX7_has_1 (by decide) (fun c_1 => ?_) (fun c_1 => ?_)
  · have hok := hok.1 c_1
    refine lv_iconst (v := 0) hx hb dX7_has_28 (by decide) ?_
    exact yEndZ S hr hlocks hP hD hS (Nat.le_of_ble_eq_true rfl) (Nat.le_of_ble_eq_true rfl) dX7_has_29 rfl hok
  · have hok := hok.2 c_1
    refine lv_iload_n hx hb dX7_has_4 rfl (lv_at hl 1 rfl) ?_
    refine lv_aload_n hx hb dX7_has_5 rfl (lv_at hl 0 rfl) ?_
    refine xg (ci := 7) S inX7 rfl hK hP cW_66 2 (by decide) rfl kw_5_56 rfl dX7_has_6 ?_
    refine lv_icmp_ge (tgt := 28) hx hb dX7_has_9 (by decide) (fun c_9 => ?_) (fun c_9 => ?_)
    · have hok := hok.1 c_9
      refine lv_iconst (v := 0) hx hb dX7_has_28 (by decide) ?_
      exact yEndZ S hr hlocks hP hD hS (Nat.le_of_ble_eq_true rfl) (Nat.le_of_ble_eq_true rfl) dX7_has_29 rfl hok
    · have hok := hok.2 c_9
      refine lv_iload_n hx hb dX7_has_12 rfl (lv_at hl 2 rfl) ?_
      refine lv_if_lt (tgt := 28) hx hb dX7_has_13 (by decide) (fun c_13 => ?_) (fun c_13 => ?_)
      · have hok := hok.1 c_13
        refine lv_iconst (v := 0) hx hb dX7_has_28 (by decide) ?_
        exact yEndZ S hr hlocks hP hD hS (Nat.le_of_ble_eq_true rfl) (Nat.le_of_ble_eq_true rfl) dX7_has_29 rfl hok
      · have hok := hok.2 c_13
        refine lv_iload_n hx hb dX7_has_16 rfl (lv_at hl 2 rfl) ?_
        refine lv_aload_n hx hb dX7_has_17 rfl (lv_at hl 0 rfl) ?_
        refine xg (ci := 7) S inX7 rfl hK hP cW_66 0 (by decide) rfl kw_5_54 rfl dX7_has_18 ?_
        refine lv_icmp_ge (tgt := 28) hx hb dX7_has_21 (by decide) (fun c_21 => ?_) (fun c_21 => ?_)
        · have hok := hok.1 c_21
          refine lv_iconst (v := 0) hx hb dX7_has_28 (by decide) ?_
          exact yEndZ S hr hlocks hP hD hS (Nat.le_of_ble_eq_true rfl) (Nat.le_of_ble_eq_true rfl) dX7_has_29 rfl hok
        · have hok := hok.2 c_21
          refine lv_iconst (v := 1) hx hb dX7_has_24 (by decide) ?_
          refine lv_goto (tgt := 29) hx hb dX7_has_25 (by decide) ?_
          exact yEndZ S hr hlocks hP hD hS (Nat.le_of_ble_eq_true rfl) (Nat.le_of_ble_eq_true rfl) dX7_has_29 rfl hok

set_option maxHeartbeats 8000000 in
set_option maxRecDepth 100000 in
theorem v_X7_put_66 (l : Launch) (D : va_G) (cI cZ cJ : ClassId) (o : Nat) (u : Nat → Nat) (T : Nat) (ra : Nat → Nat) (ga : SG) (σ : FS) (a1 : Int32) (a2 : Int32) (a3 : Int32) (Φ : FS → Prop) (sz : Nat) (hok : (wp_X7_put 66 128 σ a1 a2 a3 Φ)) : Met l yX7_put (uW yX7_put cX7_put 4 none) ({ frames := 1, cells := 0, slots := 0, locals := 22 }) (va_Pc [.ref (u 65), .int a1, .int a2, .int a3] (aS ra ga D (tyL cI cZ cJ) (cW o u cI cZ cJ T σ) sz)) (yQv Φ D (cW o u cI cZ cJ T) (va_A (cW o u cI cZ cJ T σ) sz)) 0 0 (va_A (cW o u cI cZ cJ T σ) sz) := by
  refine aStart (lv := [(0, .ref (u 65)), (1, .int a1), (2, .int a2), (3, .int a3)]) (Qc := fun A => yQv Φ D (cW o u cI cZ cJ T) A) (by decide) (Nat.le_of_ble_eq_true rfl) rfl ?_
  intro p e s m args below meth c ls A H S hr hlocks hnm hl hK hP hD hS hA hB
  have hx := S.1
  have hb := S.2.1
  refine lv_aload_n hx hb dX7_put_0 rfl (lv_at hl 0 rfl) ?_
  refine lv_iload_n hx hb dX7_put_1 rfl (lv_at hl 1 rfl) ?_
  refine lv_iload_n hx hb dX7_put_2 rfl (lv_at hl 2 rfl) ?_
  refine yVi (As := [.int a1, .int a2]) (cw := (cW o u cI cZ cJ T)) (ci := 7) S (v_X7_has_66 l D cI cZ cJ o u T ra ga σ a1 a2 _ H.size hok) mi_X7_has kw_3_9 rfl rfl ⟨Nat.le_of_ble_eq_true rfl, Nat.le_of_ble_eq_true rfl⟩ hP hD hK hS hA hB cW_66 rfl rfl hl.1 (Nat.le_of_ble_eq_true rfl) ⟨Nat.le_of_ble_eq_true rfl, Nat.le_of_ble_eq_true rfl⟩ dX7_put_3 (fun x2 σ1 H locs hok hz hP hD hS => ?_)
  refine lv_if_eq (tgt := 23) hx hb dX7_put_6 (by decide) (fun c_6 => ?_) (fun c_6 => ?_)
  · have hok := hok.1 c_6
    exact yEndv S hr hlocks hP hD hS (Nat.le_of_ble_eq_true rfl) (Nat.le_of_ble_eq_true rfl) dX7_put_23 hok
  · have hok := hok.2 c_6
    refine lv_aload_n hx hb dX7_put_9 rfl (lv_at hl 0 rfl) ?_
    refine xg (ci := 7) S inX7 rfl hK hP cW_66 1 (by decide) rfl kw_5_55 rfl dX7_put_10 ?_
    refine lv_iload_n hx hb dX7_put_13 rfl (lv_at hl 1 rfl) ?_
    refine lv_aload_n hx hb dX7_put_14 rfl (lv_at hl 0 rfl) ?_
    refine xg (ci := 7) S inX7 rfl hK hP cW_66 0 (by decide) rfl kw_5_54 rfl dX7_put_15 ?_
    refine ximul (v := a1 * (σ1.1 66 0)) S dX7_put_18 rfl ?_
    refine lv_iload_n hx hb dX7_put_19 rfl (lv_at hl 2 rfl) ?_
    refine xiadd (v := (a1 * (σ1.1 66 0)) + a2) S dX7_put_20 rfl ?_
    refine lv_iload_n hx hb dX7_put_21 rfl (lv_at hl 3 rfl) ?_
    have h_22 := hok.1
    have hok := hok.2
    refine yiast (t0 := 0) (cw := (cW o u cI cZ cJ T)) S hK hP hD hS cW_67 rfl h_22 dX7_put_22 cWa_67 (fun σ3 H locs eσ3 hP hD hS => ?_)
    have hok := hok σ3 eσ3
    exact yEndv S hr hlocks hP hD hS (Nat.le_of_ble_eq_true rfl) (Nat.le_of_ble_eq_true rfl) dX7_put_23 hok

set_option maxHeartbeats 8000000 in
set_option maxRecDepth 100000 in
theorem v_X7_has_68 (l : Launch) (D : va_G) (cI cZ cJ : ClassId) (o : Nat) (u : Nat → Nat) (T : Nat) (ra : Nat → Nat) (ga : SG) (σ : FS) (a1 : Int32) (a2 : Int32) (Φ : Int32 → FS → Prop) (sz : Nat) (hok : (wp_X7_has 68 128 σ a1 a2 Φ)) : Met l yX7_has (uW yX7_has cX7_has 3 (some .boolean)) ({ frames := 0, cells := 0, slots := 0, locals := 0 }) (va_Pc [.ref (u 67), .int a1, .int a2] (aS ra ga D (tyL cI cZ cJ) (cW o u cI cZ cJ T σ) sz)) (yQi Φ D (cW o u cI cZ cJ T) (va_A (cW o u cI cZ cJ T σ) sz)) 0 0 (va_A (cW o u cI cZ cJ T σ) sz) := by
  refine aStart (lv := [(0, .ref (u 67)), (1, .int a1), (2, .int a2)]) (Qc := fun A => yQi Φ D (cW o u cI cZ cJ T) A) (by decide) (Nat.le_of_ble_eq_true rfl) rfl ?_
  intro p e s m args below meth c ls A H S hr hlocks hnm hl hK hP hD hS hA hB
  have hx := S.1
  have hb := S.2.1
  refine lv_iload_n hx hb dX7_has_0 rfl (lv_at hl 1 rfl) ?_
  refine lv_if_lt (tgt := 28) hx hb dX7_has_1 (by decide) (fun c_1 => ?_) (fun c_1 => ?_)
  · have hok := hok.1 c_1
    refine lv_iconst (v := 0) hx hb dX7_has_28 (by decide) ?_
    exact yEndZ S hr hlocks hP hD hS (Nat.le_of_ble_eq_true rfl) (Nat.le_of_ble_eq_true rfl) dX7_has_29 rfl hok
  · have hok := hok.2 c_1
    refine lv_iload_n hx hb dX7_has_4 rfl (lv_at hl 1 rfl) ?_
    refine lv_aload_n hx hb dX7_has_5 rfl (lv_at hl 0 rfl) ?_
    refine xg (ci := 7) S inX7 rfl hK hP cW_68 2 (by decide) rfl kw_5_56 rfl dX7_has_6 ?_
    refine lv_icmp_ge (tgt := 28) hx hb dX7_has_9 (by decide) (fun c_9 => ?_) (fun c_9 => ?_)
    · have hok := hok.1 c_9
      refine lv_iconst (v := 0) hx hb dX7_has_28 (by decide) ?_
      exact yEndZ S hr hlocks hP hD hS (Nat.le_of_ble_eq_true rfl) (Nat.le_of_ble_eq_true rfl) dX7_has_29 rfl hok
    · have hok := hok.2 c_9
      refine lv_iload_n hx hb dX7_has_12 rfl (lv_at hl 2 rfl) ?_
      refine lv_if_lt (tgt := 28) hx hb dX7_has_13 (by decide) (fun c_13 => ?_) (fun c_13 => ?_)
      · have hok := hok.1 c_13
        refine lv_iconst (v := 0) hx hb dX7_has_28 (by decide) ?_
        exact yEndZ S hr hlocks hP hD hS (Nat.le_of_ble_eq_true rfl) (Nat.le_of_ble_eq_true rfl) dX7_has_29 rfl hok
      · have hok := hok.2 c_13
        refine lv_iload_n hx hb dX7_has_16 rfl (lv_at hl 2 rfl) ?_
        refine lv_aload_n hx hb dX7_has_17 rfl (lv_at hl 0 rfl) ?_
        refine xg (ci := 7) S inX7 rfl hK hP cW_68 0 (by decide) rfl kw_5_54 rfl dX7_has_18 ?_
        refine lv_icmp_ge (tgt := 28) hx hb dX7_has_21 (by decide) (fun c_21 => ?_) (fun c_21 => ?_)
        · have hok := hok.1 c_21
          refine lv_iconst (v := 0) hx hb dX7_has_28 (by decide) ?_
          exact yEndZ S hr hlocks hP hD hS (Nat.le_of_ble_eq_true rfl) (Nat.le_of_ble_eq_true rfl) dX7_has_29 rfl hok
        · have hok := hok.2 c_21
          refine lv_iconst (v := 1) hx hb dX7_has_24 (by decide) ?_
          refine lv_goto (tgt := 29) hx hb dX7_has_25 (by decide) ?_
          exact yEndZ S hr hlocks hP hD hS (Nat.le_of_ble_eq_true rfl) (Nat.le_of_ble_eq_true rfl) dX7_has_29 rfl hok

set_option maxHeartbeats 8000000 in
set_option maxRecDepth 100000 in
theorem v_X7_at_68 (l : Launch) (D : va_G) (cI cZ cJ : ClassId) (o : Nat) (u : Nat → Nat) (T : Nat) (ra : Nat → Nat) (ga : SG) (σ : FS) (a1 : Int32) (a2 : Int32) (Φ : Int32 → FS → Prop) (sz : Nat) (hok : (wp_X7_at 68 128 σ a1 a2 Φ)) : Met l yX7_at (uW yX7_at cX7_at 3 (some .int)) ({ frames := 1, cells := 0, slots := 0, locals := 22 }) (va_Pc [.ref (u 67), .int a1, .int a2] (aS ra ga D (tyL cI cZ cJ) (cW o u cI cZ cJ T σ) sz)) (yQi Φ D (cW o u cI cZ cJ T) (va_A (cW o u cI cZ cJ T σ) sz)) 0 0 (va_A (cW o u cI cZ cJ T σ) sz) := by
  refine aStart (lv := [(0, .ref (u 67)), (1, .int a1), (2, .int a2)]) (Qc := fun A => yQi Φ D (cW o u cI cZ cJ T) A) (by decide) (Nat.le_of_ble_eq_true rfl) rfl ?_
  intro p e s m args below meth c ls A H S hr hlocks hnm hl hK hP hD hS hA hB
  have hx := S.1
  have hb := S.2.1
  refine lv_aload_n hx hb dX7_at_0 rfl (lv_at hl 0 rfl) ?_
  refine lv_iload_n hx hb dX7_at_1 rfl (lv_at hl 1 rfl) ?_
  refine lv_iload_n hx hb dX7_at_2 rfl (lv_at hl 2 rfl) ?_
  refine yVi (As := [.int a1, .int a2]) (cw := (cW o u cI cZ cJ T)) (ci := 7) S (v_X7_has_68 l D cI cZ cJ o u T ra ga σ a1 a2 _ H.size hok) mi_X7_has kw_3_9 rfl rfl ⟨Nat.le_of_ble_eq_true rfl, Nat.le_of_ble_eq_true rfl⟩ hP hD hK hS hA hB cW_68 rfl rfl hl.1 (Nat.le_of_ble_eq_true rfl) ⟨Nat.le_of_ble_eq_true rfl, Nat.le_of_ble_eq_true rfl⟩ dX7_at_3 (fun x2 σ1 H locs hok hz hP hD hS => ?_)
  refine lv_if_eq (tgt := 25) hx hb dX7_at_6 (by decide) (fun c_6 => ?_) (fun c_6 => ?_)
  · have hok := hok.1 c_6
    refine lv_iconst (v := (-1)) hx hb dX7_at_25 (by decide) ?_
    exact yEnd S hr hlocks hP hD hS (Nat.le_of_ble_eq_true rfl) (Nat.le_of_ble_eq_true rfl) dX7_at_26 hok
  · have hok := hok.2 c_6
    refine lv_aload_n hx hb dX7_at_9 rfl (lv_at hl 0 rfl) ?_
    refine xg (ci := 7) S inX7 rfl hK hP cW_68 1 (by decide) rfl kw_5_55 rfl dX7_at_10 ?_
    refine lv_iload_n hx hb dX7_at_13 rfl (lv_at hl 1 rfl) ?_
    refine lv_aload_n hx hb dX7_at_14 rfl (lv_at hl 0 rfl) ?_
    refine xg (ci := 7) S inX7 rfl hK hP cW_68 0 (by decide) rfl kw_5_54 rfl dX7_at_15 ?_
    refine ximul (v := a1 * (σ1.1 68 0)) S dX7_at_18 rfl ?_
    refine lv_iload_n hx hb dX7_at_19 rfl (lv_at hl 2 rfl) ?_
    refine xiadd (v := (a1 * (σ1.1 68 0)) + a2) S dX7_at_20 rfl ?_
    have h_21 := hok.1
    have hok := hok.2
    refine xiald (t0 := 0) (v := (g σ1 69 ((a1 * (σ1.1 68 0)) + a2))) S hK hP cW_69 rfl h_21 rfl dX7_at_21 ?_
    refine lv_goto (tgt := 26) hx hb dX7_at_22 (by decide) ?_
    exact yEnd S hr hlocks hP hD hS (Nat.le_of_ble_eq_true rfl) (Nat.le_of_ble_eq_true rfl) dX7_at_26 hok

set_option maxHeartbeats 8000000 in
set_option maxRecDepth 100000 in
theorem v_X3_layPlaces (l : Launch) (D : va_G) (cI cZ cJ : ClassId) (o : Nat) (u : Nat → Nat) (T : Nat) (ra : Nat → Nat) (ga : SG) (σ : FS) (a1 : Int32) (Φ : FS → Prop) (sz : Nat) (hok : (wp_X3_layPlaces σ a1 Φ)) : Met l yX3_layPlaces (uW yX3_layPlaces cX3_layPlaces 11 none) ({ frames := 2, cells := 0, slots := 0, locals := 45 }) (va_Pc [.ref (u 64), .int a1] (aS ra ga D (tyL cI cZ cJ) (cW o u cI cZ cJ T σ) sz)) (yQv Φ D (cW o u cI cZ cJ T) (va_A (cW o u cI cZ cJ T σ) sz)) 0 0 (va_A (cW o u cI cZ cJ T σ) sz) := by
  refine aStart (lv := [(0, .ref (u 64)), (1, .int a1)]) (Qc := fun A => yQv Φ D (cW o u cI cZ cJ T) A) (by decide) (Nat.le_of_ble_eq_true rfl) rfl ?_
  intro p e s m args below meth c ls A H S hr hlocks hnm hl hK hP hD hS hA hB
  have hx := S.1
  have hb := S.2.1
  refine lv_aload_n hx hb dX3_layPlaces_0 rfl (lv_at hl 0 rfl) ?_
  refine xg (ci := 3) S inX3 rfl hK hP cW_65 4 (by decide) rfl kw_5_133 rfl dX3_layPlaces_1 ?_
  refine xg (ci := 7) S inX7 rfl hK hP cW_66 2 (by decide) rfl kw_5_57 rfl dX3_layPlaces_4 ?_
  refine lv_topi (fun x1 ex1 => ?_)
  have hok := hok x1 ex1
  refine lv_istore_n (lv' := [(2, .int x1), (0, .ref (u 64)), (1, .int a1)]) hx hb dX3_layPlaces_7 rfl hl (by decide) rfl (fun ls hl => ?_)
  refine lv_aload_n hx hb dX3_layPlaces_8 rfl (lv_at hl 1 rfl) ?_
  refine xg (ci := 3) S inX3 rfl hK hP cW_65 0 (by decide) rfl kw_5_129 rfl dX3_layPlaces_9 ?_
  refine xg (ci := 1) S inX1 rfl hK hP cW_1 5 (by decide) rfl kw_3_230 rfl dX3_layPlaces_12 ?_
  refine lv_iload_n hx hb dX3_layPlaces_15 rfl (lv_at hl 2 rfl) ?_
  have h_16 := hok.1
  have hok := hok.2
  refine xiald (t0 := 0) (v := (g σ 6 a1)) S hK hP cW_6 rfl h_16 rfl dX3_layPlaces_16 ?_
  refine lv_topi (fun x2 ex2 => ?_)
  have hok := hok x2 ex2
  refine lv_istore_n (lv' := [(3, .int x2), (2, .int x1), (0, .ref (u 64)), (1, .int a1)]) hx hb dX3_layPlaces_17 rfl hl (by decide) rfl (fun ls hl => ?_)
  refine lv_aload_n hx hb dX3_layPlaces_18 rfl (lv_at hl 2 rfl) ?_
  refine xg (ci := 3) S inX3 rfl hK hP cW_65 0 (by decide) rfl kw_5_129 rfl dX3_layPlaces_19 ?_
  refine xg (ci := 1) S inX1 rfl hK hP cW_1 3 (by decide) rfl kw_3_226 rfl dX3_layPlaces_22 ?_
  refine lv_iload_n hx hb dX3_layPlaces_25 rfl (lv_at hl 3 rfl) ?_
  have h_26 := hok.1
  have hok := hok.2
  refine xiald (t0 := 0) (v := (g σ 4 a1)) S hK hP cW_4 rfl h_26 rfl dX3_layPlaces_26 ?_
  refine lv_topi (fun x3 ex3 => ?_)
  have hok := hok x3 ex3
  refine lv_istore (lv' := [(4, .int x3), (3, .int x2), (2, .int x1), (0, .ref (u 64)), (1, .int a1)]) hx hb dX3_layPlaces_27 hl (by decide) rfl (fun ls hl => ?_)
  refine lv_aload_n hx hb dX3_layPlaces_29 rfl (lv_at hl 3 rfl) ?_
  refine xg (ci := 3) S inX3 rfl hK hP cW_65 5 (by decide) rfl kw_5_134 rfl dX3_layPlaces_30 ?_
  refine xg (ci := 7) S inX7 rfl hK hP cW_68 2 (by decide) rfl kw_5_57 rfl dX3_layPlaces_33 ?_
  refine lv_iload hx hb dX3_layPlaces_36 (lv_at hl 0 rfl) ?_
  refine xisub (v := (σ.1 68 2) - x3) S dX3_layPlaces_38 rfl ?_
  refine lv_topi (fun x4 ex4 => ?_)
  have hok := hok x4 ex4
  refine lv_istore (lv' := [(5, .int x4), (4, .int x3), (3, .int x2), (2, .int x1), (0, .ref (u 64)), (1, .int a1)]) hx hb dX3_layPlaces_39 hl (by decide) rfl (fun ls hl => ?_)
  refine lv_iload_n hx hb dX3_layPlaces_41 rfl (lv_at hl 3 rfl) ?_
  refine lv_iload_n hx hb dX3_layPlaces_42 rfl (lv_at hl 2 rfl) ?_
  refine xiadd (v := x1 + x2) S dX3_layPlaces_43 rfl ?_
  refine lv_topi (fun x5 ex5 => ?_)
  have hok := hok x5 ex5
  refine lv_istore (lv' := [(6, .int x5), (5, .int x4), (4, .int x3), (3, .int x2), (2, .int x1), (0, .ref (u 64)), (1, .int a1)]) hx hb dX3_layPlaces_44 hl (by decide) rfl (fun ls hl => ?_)
  refine lv_iconst (v := 0) hx hb dX3_layPlaces_46 (by decide) ?_
  refine lv_istore (lv' := [(7, .int 0), (6, .int x5), (5, .int x4), (4, .int x3), (3, .int x2), (2, .int x1), (0, .ref (u 64)), (1, .int a1)]) hx hb dX3_layPlaces_47 hl (by decide) rfl (fun ls hl => ?_)
  have lp49 : ∀ (K : FS → Int32 → Int32 → Prop), (∀ (τ0 : FS) (l7_0 : Int32) (l6_0 : Int32) (H : Heap) (locs : List Loc) (ls : Array Slot), K τ0 l7_0 l6_0 → lv_has ls 11 [(7, .int l7_0), (6, .int l6_0), (5, .int x4), (4, .int x3), (3, .int x2), (2, .int x1), (0, .ref (u 64)), (1, .int a1)] → va_P D vwCl (cW o u cI cZ cJ T τ0) H → va_D A (cW o u cI cZ cJ T τ0) → va_S A s.heap H locs → W p l e ({ frames := 2, cells := 0, slots := 0, locals := 45 }) s m args below meth c H locs 0 0 (MQ below (yQv Φ D (cW o u cI cZ cJ T) A) args s 0 0 A) (F0 m 219 ls [])) → ∀ (n0 : Nat) (τ0 : FS) (l7_0 : Int32) (l6_0 : Int32) (H : Heap) (locs : List Loc) (ls : Array Slot), wp_X3_layPlaces_49 a1 x1 x2 x3 x4 Φ K n0 τ0 l7_0 l6_0 → lv_has ls 11 [(7, .int l7_0), (6, .int l6_0), (5, .int x4), (4, .int x3), (3, .int x2), (2, .int x1), (0, .ref (u 64)), (1, .int a1)] → va_P D vwCl (cW o u cI cZ cJ T τ0) H → va_D A (cW o u cI cZ cJ T τ0) → va_S A s.heap H locs → W p l e ({ frames := 2, cells := 0, slots := 0, locals := 45 }) s m args below meth c H locs 0 0 (MQ below (yQv Φ D (cW o u cI cZ cJ T) A) args s 0 0 A) (F0 m 49 ls []) := by
    intro K hk n0
    induction n0 with
    | zero => intro τ0 l7_0 l6_0 H locs ls hok; exact False.elim hok
    | succ n0 ih49 =>
      intro τ0 l7_0 l6_0 H locs ls hok hl hP hD hS
      refine lv_iload hx hb dX3_layPlaces_49 (lv_at hl 0 rfl) ?_
      refine lv_iload_n hx hb dX3_layPlaces_51 rfl (lv_at hl 4 rfl) ?_
      refine lv_icmp_ge (tgt := 219) hx hb dX3_layPlaces_52 (by decide) (fun c_52 => ?_) (fun c_52 => ?_)
      · have hok := hok.1 c_52
        exact hk τ0 l7_0 l6_0 H locs ls hok (lv_sub hl [0, 1, 2, 3, 4, 5, 6, 7] rfl) hP hD hS
      · have hok := hok.2 c_52
        refine lv_aload_n hx hb dX3_layPlaces_55 rfl (lv_at hl 6 rfl) ?_
        refine xg (ci := 3) S inX3 rfl hK hP cW_65 4 (by decide) rfl kw_5_133 rfl dX3_layPlaces_56 ?_
        refine yVi (As := []) (cw := (cW o u cI cZ cJ T)) (ci := 7) S (v_X7_add_66 l D cI cZ cJ o u T ra ga τ0 _ H.size hok) mi_X7_add kw_2_224 rfl rfl ⟨Nat.le_of_ble_eq_true rfl, Nat.le_of_ble_eq_true rfl⟩ hP hD hK hS hA hB cW_66 rfl rfl hl.1 (Nat.le_of_ble_eq_true rfl) ⟨Nat.le_of_ble_eq_true rfl, Nat.le_of_ble_eq_true rfl⟩ dX3_layPlaces_59 (fun x7 σ6 H locs hok hz hP hD hS => ?_)
        refine lv_istore (lv' := [(8, .int x7), (7, .int l7_0), (6, .int l6_0), (5, .int x4), (4, .int x3), (3, .int x2), (2, .int x1), (0, .ref (u 64)), (1, .int a1)]) hx hb dX3_layPlaces_62 hl (by decide) rfl (fun ls hl => ?_)
        refine lv_aload_n hx hb dX3_layPlaces_64 rfl (lv_at hl 7 rfl) ?_
        refine xg (ci := 3) S inX3 rfl hK hP cW_65 0 (by decide) rfl kw_5_129 rfl dX3_layPlaces_65 ?_
        refine xg (ci := 1) S inX1 rfl hK hP cW_1 10 (by decide) rfl kw_4_3 rfl dX3_layPlaces_68 ?_
        refine lv_iload_n hx hb dX3_layPlaces_71 rfl (lv_at hl 8 rfl) ?_
        refine lv_bipush (v := 10) hx hb dX3_layPlaces_72 (by decide) ?_
        refine ximul (v := a1 * 10) S dX3_layPlaces_74 rfl ?_
        refine lv_iload hx hb dX3_layPlaces_75 (lv_at hl 1 rfl) ?_
        refine xiadd (v := (a1 * 10) + l7_0) S dX3_layPlaces_77 rfl ?_
        have h_78 := hok.1
        have hok := hok.2
        refine xiald (t0 := 0) (v := (g σ6 11 ((a1 * 10) + l7_0))) S hK hP cW_11 rfl h_78 rfl dX3_layPlaces_78 ?_
        refine lv_topi (fun x8 ex8 => ?_)
        have hok := hok x8 ex8
        refine lv_istore (lv' := [(9, .int x8), (8, .int x7), (7, .int l7_0), (6, .int l6_0), (5, .int x4), (4, .int x3), (3, .int x2), (2, .int x1), (0, .ref (u 64)), (1, .int a1)]) hx hb dX3_layPlaces_79 hl (by decide) rfl (fun ls hl => ?_)
        refine lv_iload hx hb dX3_layPlaces_81 (lv_at hl 2 rfl) ?_
        refine lv_iload hx hb dX3_layPlaces_83 (lv_at hl 5 rfl) ?_
        refine lv_icmp_ge (tgt := 137) hx hb dX3_layPlaces_85 (by decide) (fun c_85 => ?_) (fun c_85 => ?_)
        · have hok := hok.1 c_85
          refine lv_iload hx hb dX3_layPlaces_137 (lv_at hl 0 rfl) ?_
          refine lv_bipush (v := 7) hx hb dX3_layPlaces_139 (by decide) ?_
          refine lv_icmp_ne (tgt := 195) hx hb dX3_layPlaces_141 (by decide) (fun c_141 => ?_) (fun c_141 => ?_)
          · have hok := hok.2 c_141
            refine lv_iload hx hb dX3_layPlaces_195 (lv_at hl 0 rfl) ?_
            refine lv_bipush (v := 8) hx hb dX3_layPlaces_197 (by decide) ?_
            refine lv_icmp_ne (tgt := 213) hx hb dX3_layPlaces_199 (by decide) (fun c_199 => ?_) (fun c_199 => ?_)
            · have hok := hok.2 c_199
              refine lv_iinc (v := l7_0 + 1) (lv' := [(7, .int (l7_0 + 1)), (9, .int x8), (8, .int x7), (6, .int l6_0), (5, .int x4), (4, .int x3), (3, .int x2), (2, .int x1), (0, .ref (u 64)), (1, .int a1)]) hx hb dX3_layPlaces_213 hl (k := 2) rfl rfl (by decide) rfl (fun ls hl => ?_)
              refine lv_goto (tgt := 49) hx hb dX3_layPlaces_216 (by decide) ?_
              exact ih49 σ6 (l7_0 + 1) l6_0 H locs ls hok (lv_sub hl [0, 3, 4, 5, 6, 7, 8, 9] rfl) hP hD hS
            · have hok := hok.1 c_199
              refine lv_aload_n hx hb dX3_layPlaces_202 rfl (lv_at hl 8 rfl) ?_
              refine xg (ci := 3) S inX3 rfl hK hP cW_65 4 (by decide) rfl kw_5_133 rfl dX3_layPlaces_203 ?_
              refine lv_iload hx hb dX3_layPlaces_206 (lv_at hl 1 rfl) ?_
              refine lv_iconst (v := 0) hx hb dX3_layPlaces_208 (by decide) ?_
              refine lv_iconst (v := (-1)) hx hb dX3_layPlaces_209 (by decide) ?_
              refine yVv (As := [.int x7, .int 0, .int (-1)]) (cw := (cW o u cI cZ cJ T)) (ci := 7) S (v_X7_put_66 l D cI cZ cJ o u T ra ga σ6 x7 0 (-1) _ H.size hok) mi_X7_put kw_3_5 rfl rfl ⟨Nat.le_of_ble_eq_true rfl, Nat.le_of_ble_eq_true rfl⟩ hP hD hK hS hA hB cW_66 rfl rfl hl.1 (Nat.le_of_ble_eq_true rfl) ⟨Nat.le_of_ble_eq_true rfl, Nat.le_of_ble_eq_true rfl⟩ dX3_layPlaces_210 (fun σ9 H locs hok hz hP hD hS => ?_)
              refine lv_iinc (v := l7_0 + 1) (lv' := [(7, .int (l7_0 + 1)), (9, .int x8), (8, .int x7), (6, .int l6_0), (5, .int x4), (4, .int x3), (3, .int x2), (2, .int x1), (0, .ref (u 64)), (1, .int a1)]) hx hb dX3_layPlaces_213 hl (k := 2) rfl rfl (by decide) rfl (fun ls hl => ?_)
              refine lv_goto (tgt := 49) hx hb dX3_layPlaces_216 (by decide) ?_
              exact ih49 σ9 (l7_0 + 1) l6_0 H locs ls hok (lv_sub hl [0, 3, 4, 5, 6, 7, 8, 9] rfl) hP hD hS
          · have hok := hok.1 c_141
            refine lv_aload_n hx hb dX3_layPlaces_144 rfl (lv_at hl 8 rfl) ?_
            refine xg (ci := 3) S inX3 rfl hK hP cW_65 0 (by decide) rfl kw_5_129 rfl dX3_layPlaces_145 ?_
            refine xg (ci := 1) S inX1 rfl hK hP cW_1 11 (by decide) rfl kw_4_5 rfl dX3_layPlaces_148 ?_
            refine lv_iload_n hx hb dX3_layPlaces_151 rfl (lv_at hl 9 rfl) ?_
            refine lv_bipush (v := 10) hx hb dX3_layPlaces_152 (by decide) ?_
            refine ximul (v := a1 * 10) S dX3_layPlaces_154 rfl ?_
            refine lv_iload hx hb dX3_layPlaces_155 (lv_at hl 2 rfl) ?_
            refine xiadd (v := (a1 * 10) + l7_0) S dX3_layPlaces_157 rfl ?_
            have h_158 := hok.1
            have hok := hok.2
            refine xiald (t0 := 0) (v := (g σ6 12 ((a1 * 10) + l7_0))) S hK hP cW_12 rfl h_158 rfl dX3_layPlaces_158 ?_
            refine lv_topi (fun x10 ex10 => ?_)
            have hok := hok x10 ex10
            refine lv_istore (lv' := [(10, .int x10), (9, .int x8), (8, .int x7), (7, .int l7_0), (6, .int l6_0), (5, .int x4), (4, .int x3), (3, .int x2), (2, .int x1), (0, .ref (u 64)), (1, .int a1)]) hx hb dX3_layPlaces_159 hl (by decide) rfl (fun ls hl => ?_)
            refine lv_aload_n hx hb dX3_layPlaces_161 rfl (lv_at hl 9 rfl) ?_
            refine xg (ci := 3) S inX3 rfl hK hP cW_65 4 (by decide) rfl kw_5_133 rfl dX3_layPlaces_162 ?_
            refine lv_iload hx hb dX3_layPlaces_165 (lv_at hl 2 rfl) ?_
            refine lv_iconst (v := 0) hx hb dX3_layPlaces_167 (by decide) ?_
            refine lv_iload hx hb dX3_layPlaces_168 (lv_at hl 4 rfl) ?_
            refine yVv (As := [.int x7, .int 0, .int l6_0]) (cw := (cW o u cI cZ cJ T)) (ci := 7) S (v_X7_put_66 l D cI cZ cJ o u T ra ga σ6 x7 0 l6_0 _ H.size hok) mi_X7_put kw_3_5 rfl rfl ⟨Nat.le_of_ble_eq_true rfl, Nat.le_of_ble_eq_true rfl⟩ hP hD hK hS hA hB cW_66 rfl rfl hl.1 (Nat.le_of_ble_eq_true rfl) ⟨Nat.le_of_ble_eq_true rfl, Nat.le_of_ble_eq_true rfl⟩ dX3_layPlaces_170 (fun σ11 H locs hok hz hP hD hS => ?_)
            refine lv_aload_n hx hb dX3_layPlaces_173 rfl (lv_at hl 9 rfl) ?_
            refine xg (ci := 3) S inX3 rfl hK hP cW_65 4 (by decide) rfl kw_5_133 rfl dX3_layPlaces_174 ?_
            refine lv_iload hx hb dX3_layPlaces_177 (lv_at hl 2 rfl) ?_
            refine lv_iconst (v := 1) hx hb dX3_layPlaces_179 (by decide) ?_
            refine lv_iload hx hb dX3_layPlaces_180 (lv_at hl 0 rfl) ?_
            refine yVv (As := [.int x7, .int 1, .int x10]) (cw := (cW o u cI cZ cJ T)) (ci := 7) S (v_X7_put_66 l D cI cZ cJ o u T ra ga σ11 x7 1 x10 _ H.size hok) mi_X7_put kw_3_5 rfl rfl ⟨Nat.le_of_ble_eq_true rfl, Nat.le_of_ble_eq_true rfl⟩ hP hD hK hS hA hB cW_66 rfl rfl hl.1 (Nat.le_of_ble_eq_true rfl) ⟨Nat.le_of_ble_eq_true rfl, Nat.le_of_ble_eq_true rfl⟩ dX3_layPlaces_182 (fun σ12 H locs hok hz hP hD hS => ?_)
            refine lv_iload hx hb dX3_layPlaces_185 (lv_at hl 4 rfl) ?_
            refine lv_iload hx hb dX3_layPlaces_187 (lv_at hl 0 rfl) ?_
            refine xiadd (v := l6_0 + x10) S dX3_layPlaces_189 rfl ?_
            refine lv_topi (fun x13 ex13 => ?_)
            have hok := hok x13 ex13
            refine lv_istore (lv' := [(6, .int x13), (10, .int x10), (9, .int x8), (8, .int x7), (7, .int l7_0), (5, .int x4), (4, .int x3), (3, .int x2), (2, .int x1), (0, .ref (u 64)), (1, .int a1)]) hx hb dX3_layPlaces_190 hl (by decide) rfl (fun ls hl => ?_)
            refine lv_goto (tgt := 213) hx hb dX3_layPlaces_192 (by decide) ?_
            refine lv_iinc (v := l7_0 + 1) (lv' := [(7, .int (l7_0 + 1)), (6, .int x13), (10, .int x10), (9, .int x8), (8, .int x7), (5, .int x4), (4, .int x3), (3, .int x2), (2, .int x1), (0, .ref (u 64)), (1, .int a1)]) hx hb dX3_layPlaces_213 hl (k := 4) rfl rfl (by decide) rfl (fun ls hl => ?_)
            refine lv_goto (tgt := 49) hx hb dX3_layPlaces_216 (by decide) ?_
            exact ih49 σ12 (l7_0 + 1) x13 H locs ls hok (lv_sub hl [0, 1, 5, 6, 7, 8, 9, 10] rfl) hP hD hS
        · have hok := hok.2 c_85
          refine lv_aload_n hx hb dX3_layPlaces_88 rfl (lv_at hl 8 rfl) ?_
          refine xg (ci := 3) S inX3 rfl hK hP cW_65 4 (by decide) rfl kw_5_133 rfl dX3_layPlaces_89 ?_
          refine lv_iload hx hb dX3_layPlaces_92 (lv_at hl 1 rfl) ?_
          refine lv_iconst (v := 0) hx hb dX3_layPlaces_94 (by decide) ?_
          refine lv_aload_n hx hb dX3_layPlaces_95 rfl (lv_at hl 8 rfl) ?_
          refine xg (ci := 3) S inX3 rfl hK hP cW_65 5 (by decide) rfl kw_5_134 rfl dX3_layPlaces_96 ?_
          refine lv_iload hx hb dX3_layPlaces_99 (lv_at hl 4 rfl) ?_
          refine lv_iload hx hb dX3_layPlaces_101 (lv_at hl 2 rfl) ?_
          refine xiadd (v := x4 + l7_0) S dX3_layPlaces_103 rfl ?_
          refine lv_iconst (v := 0) hx hb dX3_layPlaces_104 (by decide) ?_
          refine yVi (As := [.int (x4 + l7_0), .int 0]) (cw := (cW o u cI cZ cJ T)) (ci := 7) S (v_X7_at_68 l D cI cZ cJ o u T ra ga σ6 (x4 + l7_0) 0 _ H.size hok) mi_X7_at kw_3_18 rfl rfl ⟨Nat.le_of_ble_eq_true rfl, Nat.le_of_ble_eq_true rfl⟩ hP hD hK hS hA hB cW_68 rfl rfl hl.1 (Nat.le_of_ble_eq_true rfl) ⟨Nat.le_of_ble_eq_true rfl, Nat.le_of_ble_eq_true rfl⟩ dX3_layPlaces_105 (fun x15 σ14 H locs hok hz hP hD hS => ?_)
          refine yVv (As := [.int x7, .int 0, .int x15]) (cw := (cW o u cI cZ cJ T)) (ci := 7) S (v_X7_put_66 l D cI cZ cJ o u T ra ga σ14 x7 0 x15 _ H.size hok) mi_X7_put kw_3_5 rfl rfl ⟨Nat.le_of_ble_eq_true rfl, Nat.le_of_ble_eq_true rfl⟩ hP hD hK hS hA hB cW_66 rfl rfl hl.1 (Nat.le_of_ble_eq_true rfl) ⟨Nat.le_of_ble_eq_true rfl, Nat.le_of_ble_eq_true rfl⟩ dX3_layPlaces_108 (fun σ16 H locs hok hz hP hD hS => ?_)
          refine lv_aload_n hx hb dX3_layPlaces_111 rfl (lv_at hl 8 rfl) ?_
          refine xg (ci := 3) S inX3 rfl hK hP cW_65 4 (by decide) rfl kw_5_133 rfl dX3_layPlaces_112 ?_
          refine lv_iload hx hb dX3_layPlaces_115 (lv_at hl 1 rfl) ?_
          refine lv_iconst (v := 1) hx hb dX3_layPlaces_117 (by decide) ?_
          refine lv_aload_n hx hb dX3_layPlaces_118 rfl (lv_at hl 8 rfl) ?_
          refine xg (ci := 3) S inX3 rfl hK hP cW_65 5 (by decide) rfl kw_5_134 rfl dX3_layPlaces_119 ?_
          refine lv_iload hx hb dX3_layPlaces_122 (lv_at hl 4 rfl) ?_
          refine lv_iload hx hb dX3_layPlaces_124 (lv_at hl 2 rfl) ?_
          refine xiadd (v := x4 + l7_0) S dX3_layPlaces_126 rfl ?_
          refine lv_iconst (v := 1) hx hb dX3_layPlaces_127 (by decide) ?_
          refine yVi (As := [.int (x4 + l7_0), .int 1]) (cw := (cW o u cI cZ cJ T)) (ci := 7) S (v_X7_at_68 l D cI cZ cJ o u T ra ga σ16 (x4 + l7_0) 1 _ H.size hok) mi_X7_at kw_3_18 rfl rfl ⟨Nat.le_of_ble_eq_true rfl, Nat.le_of_ble_eq_true rfl⟩ hP hD hK hS hA hB cW_68 rfl rfl hl.1 (Nat.le_of_ble_eq_true rfl) ⟨Nat.le_of_ble_eq_true rfl, Nat.le_of_ble_eq_true rfl⟩ dX3_layPlaces_128 (fun x18 σ17 H locs hok hz hP hD hS => ?_)
          refine yVv (As := [.int x7, .int 1, .int x18]) (cw := (cW o u cI cZ cJ T)) (ci := 7) S (v_X7_put_66 l D cI cZ cJ o u T ra ga σ17 x7 1 x18 _ H.size hok) mi_X7_put kw_3_5 rfl rfl ⟨Nat.le_of_ble_eq_true rfl, Nat.le_of_ble_eq_true rfl⟩ hP hD hK hS hA hB cW_66 rfl rfl hl.1 (Nat.le_of_ble_eq_true rfl) ⟨Nat.le_of_ble_eq_true rfl, Nat.le_of_ble_eq_true rfl⟩ dX3_layPlaces_131 (fun σ19 H locs hok hz hP hD hS => ?_)
          refine lv_goto (tgt := 213) hx hb dX3_layPlaces_134 (by decide) ?_
          refine lv_iinc (v := l7_0 + 1) (lv' := [(7, .int (l7_0 + 1)), (9, .int x8), (8, .int x7), (6, .int l6_0), (5, .int x4), (4, .int x3), (3, .int x2), (2, .int x1), (0, .ref (u 64)), (1, .int a1)]) hx hb dX3_layPlaces_213 hl (k := 2) rfl rfl (by decide) rfl (fun ls hl => ?_)
          refine lv_goto (tgt := 49) hx hb dX3_layPlaces_216 (by decide) ?_
          exact ih49 σ19 (l7_0 + 1) l6_0 H locs ls hok (lv_sub hl [0, 3, 4, 5, 6, 7, 8, 9] rfl) hP hD hS
  refine lp49 _ ?_ FUEL σ 0 x5 _ _ _ hok (lv_sub hl [0, 1, 2, 3, 4, 5, 6, 7] rfl) hP hD hS
  intro σ20 x21 x22 H locs ls hok hl hP hD hS
  refine lv_aload_n hx hb dX3_layPlaces_219 rfl (lv_at hl 6 rfl) ?_
  refine xg (ci := 3) S inX3 rfl hK hP cW_65 5 (by decide) rfl kw_5_134 rfl dX3_layPlaces_220 ?_
  refine lv_iload hx hb dX3_layPlaces_223 (lv_at hl 2 rfl) ?_
  refine yVv (As := [.int x4]) (cw := (cW o u cI cZ cJ T)) (ci := 7) S (v_X7_cut_68 l D cI cZ cJ o u T ra ga σ20 x4 _ H.size hok) mi_X7_cut kw_2_212 rfl rfl ⟨Nat.le_of_ble_eq_true rfl, Nat.le_of_ble_eq_true rfl⟩ hP hD hK hS hA hB cW_68 rfl rfl hl.1 (Nat.le_of_ble_eq_true rfl) ⟨Nat.le_of_ble_eq_true rfl, Nat.le_of_ble_eq_true rfl⟩ dX3_layPlaces_225 (fun σ23 H locs hok hz hP hD hS => ?_)
  refine lv_aload_n hx hb dX3_layPlaces_228 rfl (lv_at hl 6 rfl) ?_
  refine xg (ci := 3) S inX3 rfl hK hP cW_65 4 (by decide) rfl kw_5_133 rfl dX3_layPlaces_229 ?_
  refine xg (ci := 7) S inX7 rfl hK hP cW_66 2 (by decide) rfl kw_5_57 rfl dX3_layPlaces_232 ?_
  refine lv_topi (fun x24 ex24 => ?_)
  have hok := hok x24 ex24
  refine lv_istore (lv' := [(7, .int x24), (6, .int x22), (5, .int x4), (4, .int x3), (3, .int x2), (2, .int x1), (0, .ref (u 64)), (1, .int a1)]) hx hb dX3_layPlaces_235 hl (by decide) rfl (fun ls hl => ?_)
  have lp237 : ∀ (K : FS → Int32 → Prop), (∀ (τ0 : FS) (l7_0 : Int32) (H : Heap) (locs : List Loc) (ls : Array Slot), K τ0 l7_0 → lv_has ls 11 [(7, .int l7_0), (6, .int x22), (5, .int x4), (4, .int x3), (3, .int x2), (2, .int x1), (0, .ref (u 64)), (1, .int a1)] → va_P D vwCl (cW o u cI cZ cJ T τ0) H → va_D A (cW o u cI cZ cJ T τ0) → va_S A s.heap H locs → W p l e ({ frames := 2, cells := 0, slots := 0, locals := 45 }) s m args below meth c H locs 0 0 (MQ below (yQv Φ D (cW o u cI cZ cJ T) A) args s 0 0 A) (F0 m 258 ls [])) → ∀ (n0 : Nat) (τ0 : FS) (l7_0 : Int32) (H : Heap) (locs : List Loc) (ls : Array Slot), wp_X3_layPlaces_237 a1 x1 x2 x22 x3 x4 Φ K n0 τ0 l7_0 → lv_has ls 11 [(7, .int l7_0), (6, .int x22), (5, .int x4), (4, .int x3), (3, .int x2), (2, .int x1), (0, .ref (u 64)), (1, .int a1)] → va_P D vwCl (cW o u cI cZ cJ T τ0) H → va_D A (cW o u cI cZ cJ T τ0) → va_S A s.heap H locs → W p l e ({ frames := 2, cells := 0, slots := 0, locals := 45 }) s m args below meth c H locs 0 0 (MQ below (yQv Φ D (cW o u cI cZ cJ T) A) args s 0 0 A) (F0 m 237 ls []) := by
    intro K hk n0
    induction n0 with
    | zero => intro τ0 l7_0 H locs ls hok; exact False.elim hok
    | succ n0 ih237 =>
      intro τ0 l7_0 H locs ls hok hl hP hD hS
      refine lv_iload hx hb dX3_layPlaces_237 (lv_at hl 0 rfl) ?_
      refine lv_iload hx hb dX3_layPlaces_239 (lv_at hl 1 rfl) ?_
      refine lv_icmp_ge (tgt := 258) hx hb dX3_layPlaces_241 (by decide) (fun c_241 => ?_) (fun c_241 => ?_)
      · have hok := hok.1 c_241
        exact hk τ0 l7_0 H locs ls hok (lv_sub hl [0, 1, 2, 3, 4, 5, 6, 7] rfl) hP hD hS
      · have hok := hok.2 c_241
        refine lv_aload_n hx hb dX3_layPlaces_244 rfl (lv_at hl 6 rfl) ?_
        refine xg (ci := 3) S inX3 rfl hK hP cW_65 4 (by decide) rfl kw_5_133 rfl dX3_layPlaces_245 ?_
        refine yVi (As := []) (cw := (cW o u cI cZ cJ T)) (ci := 7) S (v_X7_add_66 l D cI cZ cJ o u T ra ga τ0 _ H.size hok) mi_X7_add kw_2_224 rfl rfl ⟨Nat.le_of_ble_eq_true rfl, Nat.le_of_ble_eq_true rfl⟩ hP hD hK hS hA hB cW_66 rfl rfl hl.1 (Nat.le_of_ble_eq_true rfl) ⟨Nat.le_of_ble_eq_true rfl, Nat.le_of_ble_eq_true rfl⟩ dX3_layPlaces_248 (fun x26 σ25 H locs hok hz hP hD hS => ?_)
        refine lv_pop hx hb dX3_layPlaces_251 rfl ?_
        refine lv_iinc (v := l7_0 + 1) (lv' := [(7, .int (l7_0 + 1)), (6, .int x22), (5, .int x4), (4, .int x3), (3, .int x2), (2, .int x1), (0, .ref (u 64)), (1, .int a1)]) hx hb dX3_layPlaces_252 hl (k := 0) rfl rfl (by decide) rfl (fun ls hl => ?_)
        refine lv_goto (tgt := 237) hx hb dX3_layPlaces_255 (by decide) ?_
        exact ih237 σ25 (l7_0 + 1) H locs ls hok (lv_sub hl [0, 1, 2, 3, 4, 5, 6, 7] rfl) hP hD hS
  refine lp237 _ ?_ FUEL σ23 x24 _ _ _ hok (lv_sub hl [0, 1, 2, 3, 4, 5, 6, 7] rfl) hP hD hS
  intro σ27 x28 H locs ls hok hl hP hD hS
  exact yEndv S hr hlocks hP hD hS (Nat.le_of_ble_eq_true rfl) (Nat.le_of_ble_eq_true rfl) dX3_layPlaces_258 hok

set_option maxHeartbeats 8000000 in
set_option maxRecDepth 100000 in
theorem v_X3_call_t84 (l : Launch) (D : va_G) (cI cZ cJ : ClassId) (o : Nat) (u : Nat → Nat) (ra : Nat → Nat) (ga : SG) (σ : FS) (a1 : Int32) (a2 : Int32) (Φ : FS → Prop) (sz : Nat) (hok : (wp_X3_call 84 σ a1 a2 Φ)) : Met l yX3_call (uW yX3_call cX3_call 3 none) ({ frames := 3, cells := 0, slots := 0, locals := 75 }) (va_Pc [.ref (u 64), .int a1, .int a2] (aS ra ga D (tyL cI cZ cJ) (cW o u cI cZ cJ 83 σ) sz)) (yQv Φ D (cW o u cI cZ cJ 83) (va_A (cW o u cI cZ cJ 83 σ) sz)) 0 0 (va_A (cW o u cI cZ cJ 83 σ) sz) := by
  refine aStart (lv := [(0, .ref (u 64)), (1, .int a1), (2, .int a2)]) (Qc := fun A => yQv Φ D (cW o u cI cZ cJ 83) A) (by decide) (Nat.le_of_ble_eq_true rfl) rfl ?_
  intro p e s m args below meth c ls A H S hr hlocks hnm hl hK hP hD hS hA hB
  have hx := S.1
  have hb := S.2.1
  refine lv_aload_n hx hb dX3_call_0 rfl (lv_at hl 0 rfl) ?_
  refine lv_dup hx hb dX3_call_1 rfl ?_
  refine xg (ci := 3) S inX3 rfl hK hP cW_65 15 (by decide) rfl kw_5_144 rfl dX3_call_2 ?_
  refine lv_iconst (v := 1) hx hb dX3_call_5 (by decide) ?_
  refine xiadd (v := (σ.1 65 15) + 1) S dX3_call_6 rfl ?_
  refine yp (ci := 3) (v := .int ((σ.1 65 15) + 1)) (cw := (cW o u cI cZ cJ 83)) S inX3 tyX3 tyX3_ok nmX3 rfl hK hP hD hS cW_65 15 (by decide) kw_5_144 rfl rfl rfl rfl (Nat.le_of_ble_eq_true rfl) dX3_call_7 cWp_65_15 (fun σ1 H locs eσ1 hP hD hS => ?_)
  have hok := hok σ1 eσ1
  refine lv_aload_n hx hb dX3_call_10 rfl (lv_at hl 0 rfl) ?_
  refine lv_aload_n hx hb dX3_call_11 rfl (lv_at hl 0 rfl) ?_
  refine xg (ci := 3) S inX3 rfl hK hP cW_65 7 (by decide) rfl kw_5_136 rfl dX3_call_12 ?_
  refine lv_aload_n hx hb dX3_call_15 rfl (lv_at hl 0 rfl) ?_
  refine xg (ci := 3) S inX3 rfl hK hP cW_65 7 (by decide) rfl kw_5_136 rfl dX3_call_16 ?_
  refine xg (ci := 7) S inX7 rfl hK hP cW_72 2 (by decide) rfl kw_5_57 rfl dX3_call_19 ?_
  refine lv_iconst (v := 1) hx hb dX3_call_22 (by decide) ?_
  refine xisub (v := (σ1.1 72 2) - 1) S dX3_call_23 rfl ?_
  refine lv_iconst (v := 2) hx hb dX3_call_24 (by decide) ?_
  refine yVi (As := [.int ((σ1.1 72 2) - 1), .int 2]) (cw := (cW o u cI cZ cJ 83)) (ci := 7) S (v_X7_at_72 l D cI cZ cJ o u 83 ra ga σ1 ((σ1.1 72 2) - 1) 2 _ H.size hok) mi_X7_at kw_3_18 rfl rfl ⟨Nat.le_of_ble_eq_true rfl, Nat.le_of_ble_eq_true rfl⟩ hP hD hK hS hA hB cW_72 rfl rfl hl.1 (Nat.le_of_ble_eq_true rfl) ⟨Nat.le_of_ble_eq_true rfl, Nat.le_of_ble_eq_true rfl⟩ dX3_call_25 (fun x3 σ2 H locs hok hz hP hD hS => ?_)
  refine lv_iconst (v := 1) hx hb dX3_call_28 (by decide) ?_
  refine xiadd (v := x3 + 1) S dX3_call_29 rfl ?_
  refine yp (ci := 3) (v := .int (x3 + 1)) (cw := (cW o u cI cZ cJ 83)) S inX3 tyX3 tyX3_ok nmX3 rfl hK hP hD hS cW_65 14 (by decide) kw_5_143 rfl rfl rfl rfl (Nat.le_of_ble_eq_true rfl) dX3_call_30 cWp_65_14 (fun σ4 H locs eσ4 hP hD hS => ?_)
  have hok := hok σ4 eσ4
  refine lv_aload_n hx hb dX3_call_33 rfl (lv_at hl 0 rfl) ?_
  refine xg (ci := 3) S inX3 rfl hK hP cW_65 9 (by decide) rfl kw_5_138 rfl dX3_call_34 ?_
  refine lv_dup hx hb dX3_call_37 rfl ?_
  refine xg (ci := 6) S inX6 rfl hK hP cW_84 5 (by decide) rfl kw_5_82 rfl dX3_call_38 ?_
  refine lv_iconst (v := 1) hx hb dX3_call_41 (by decide) ?_
  refine xiadd (v := (σ4.1 84 5) + 1) S dX3_call_42 rfl ?_
  refine yp (ci := 6) (v := .int ((σ4.1 84 5) + 1)) (cw := (cW o u cI cZ cJ 83)) S inX6 tyX6 tyX6_ok nmX6 rfl hK hP hD hS cW_84 5 (by decide) kw_5_82 rfl rfl rfl rfl (Nat.le_of_ble_eq_true rfl) dX3_call_43 cWp_84_5 (fun σ5 H locs eσ5 hP hD hS => ?_)
  have hok := hok σ5 eσ5
  refine lv_aload_n hx hb dX3_call_46 rfl (lv_at hl 0 rfl) ?_
  refine xg (ci := 3) S inX3 rfl hK hP cW_65 9 (by decide) rfl kw_5_138 rfl dX3_call_47 ?_
  refine lv_dup hx hb dX3_call_50 rfl ?_
  refine xg (ci := 6) S inX6 rfl hK hP cW_84 6 (by decide) rfl kw_5_85 rfl dX3_call_51 ?_
  refine lv_aload_n hx hb dX3_call_54 rfl (lv_at hl 0 rfl) ?_
  refine xg (ci := 3) S inX3 rfl hK hP cW_65 10 (by decide) rfl kw_5_139 rfl dX3_call_55 ?_
  refine lv_iconst (v := 4) hx hb dX3_call_58 (by decide) ?_
  refine xiand (v := (σ5.1 65 10) &&& 4) S dX3_call_59 rfl ?_
  refine lv_if_eq (tgt := 78) hx hb dX3_call_60 (by decide) (fun c_60 => ?_) (fun c_60 => ?_)
  · have hok := hok.1 c_60
    refine lv_aload_n hx hb dX3_call_78 rfl (lv_at hl 0 rfl) ?_
    refine xg (ci := 3) S inX3 rfl hK hP cW_65 0 (by decide) rfl kw_5_129 rfl dX3_call_79 ?_
    refine xg (ci := 1) S inX1 rfl hK hP cW_1 5 (by decide) rfl kw_3_230 rfl dX3_call_82 ?_
    refine lv_iload_n hx hb dX3_call_85 rfl (lv_at hl 1 rfl) ?_
    have h_86 := hok.1
    have hok := hok.2
    refine xiald (t0 := 0) (v := (g σ5 6 a1)) S hK hP cW_6 rfl h_86 rfl dX3_call_86 ?_
    refine xiadd (v := (σ5.1 84 6) + (g σ5 6 a1)) S dX3_call_87 rfl ?_
    refine yp (ci := 6) (v := .int ((σ5.1 84 6) + (g σ5 6 a1))) (cw := (cW o u cI cZ cJ 83)) S inX6 tyX6 tyX6_ok nmX6 rfl hK hP hD hS cW_84 6 (by decide) kw_5_85 rfl rfl rfl rfl (Nat.le_of_ble_eq_true rfl) dX3_call_88 cWp_84_6 (fun σ6 H locs eσ6 hP hD hS => ?_)
    have hok := hok σ6 eσ6
    refine lv_aload_n hx hb dX3_call_91 rfl (lv_at hl 0 rfl) ?_
    refine xg (ci := 3) S inX3 rfl hK hP cW_65 9 (by decide) rfl kw_5_138 rfl dX3_call_92 ?_
    refine lv_aload_n hx hb dX3_call_95 rfl (lv_at hl 0 rfl) ?_
    refine xg (ci := 3) S inX3 rfl hK hP cW_65 9 (by decide) rfl kw_5_138 rfl dX3_call_96 ?_
    refine xg (ci := 6) S inX6 rfl hK hP cW_84 7 (by decide) rfl kw_5_88 rfl dX3_call_99 ?_
    refine lv_aload_n hx hb dX3_call_102 rfl (lv_at hl 0 rfl) ?_
    refine xg (ci := 3) S inX3 rfl hK hP cW_65 14 (by decide) rfl kw_5_143 rfl dX3_call_103 ?_
    refine ymmax S kw_3_23 kw_3_24 kw_1_19 kw_3_25 hl.1 (Nat.le_of_ble_eq_true rfl) (Nat.le_of_ble_eq_true rfl) ⟨Nat.le_of_ble_eq_true rfl, Nat.le_of_ble_eq_true rfl⟩ dX3_call_106 ?_
    refine lv_topi (fun x7 ex7 => ?_)
    have hok := hok x7 ex7
    refine yp (ci := 6) (v := .int x7) (cw := (cW o u cI cZ cJ 83)) S inX6 tyX6 tyX6_ok nmX6 rfl hK hP hD hS cW_84 7 (by decide) kw_5_88 rfl rfl rfl rfl (Nat.le_of_ble_eq_true rfl) dX3_call_109 cWp_84_7 (fun σ8 H locs eσ8 hP hD hS => ?_)
    have hok := hok σ8 eσ8
    refine lv_aload_n hx hb dX3_call_112 rfl (lv_at hl 0 rfl) ?_
    refine xg (ci := 3) S inX3 rfl hK hP cW_65 9 (by decide) rfl kw_5_138 rfl dX3_call_113 ?_
    refine lv_aload_n hx hb dX3_call_116 rfl (lv_at hl 0 rfl) ?_
    refine xg (ci := 3) S inX3 rfl hK hP cW_65 9 (by decide) rfl kw_5_138 rfl dX3_call_117 ?_
    refine xg (ci := 6) S inX6 rfl hK hP cW_84 8 (by decide) rfl kw_5_90 rfl dX3_call_120 ?_
    refine lv_aload_n hx hb dX3_call_123 rfl (lv_at hl 0 rfl) ?_
    refine xg (ci := 3) S inX3 rfl hK hP cW_65 15 (by decide) rfl kw_5_144 rfl dX3_call_124 ?_
    refine ymmax S kw_3_23 kw_3_24 kw_1_19 kw_3_25 hl.1 (Nat.le_of_ble_eq_true rfl) (Nat.le_of_ble_eq_true rfl) ⟨Nat.le_of_ble_eq_true rfl, Nat.le_of_ble_eq_true rfl⟩ dX3_call_127 ?_
    refine lv_topi (fun x9 ex9 => ?_)
    have hok := hok x9 ex9
    refine yp (ci := 6) (v := .int x9) (cw := (cW o u cI cZ cJ 83)) S inX6 tyX6 tyX6_ok nmX6 rfl hK hP hD hS cW_84 8 (by decide) kw_5_90 rfl rfl rfl rfl (Nat.le_of_ble_eq_true rfl) dX3_call_130 cWp_84_8 (fun σ10 H locs eσ10 hP hD hS => ?_)
    have hok := hok σ10 eσ10
    refine lv_aload_n hx hb dX3_call_133 rfl (lv_at hl 0 rfl) ?_
    refine lv_aload_n hx hb dX3_call_134 rfl (lv_at hl 0 rfl) ?_
    refine xg (ci := 3) S inX3 rfl hK hP cW_65 6 (by decide) rfl kw_5_135 rfl dX3_call_135 ?_
    refine yVi (As := []) (cw := (cW o u cI cZ cJ 83)) (ci := 7) S (v_X7_add_70 l D cI cZ cJ o u 83 ra ga σ10 _ H.size hok) mi_X7_add kw_2_224 rfl rfl ⟨Nat.le_of_ble_eq_true rfl, Nat.le_of_ble_eq_true rfl⟩ hP hD hK hS hA hB cW_70 rfl rfl hl.1 (Nat.le_of_ble_eq_true rfl) ⟨Nat.le_of_ble_eq_true rfl, Nat.le_of_ble_eq_true rfl⟩ dX3_call_138 (fun x12 σ11 H locs hok hz hP hD hS => ?_)
    refine yp (ci := 3) (v := .int x12) (cw := (cW o u cI cZ cJ 83)) S inX3 tyX3 tyX3_ok nmX3 rfl hK hP hD hS cW_65 13 (by decide) kw_5_142 rfl rfl rfl rfl (Nat.le_of_ble_eq_true rfl) dX3_call_141 cWp_65_13 (fun σ13 H locs eσ13 hP hD hS => ?_)
    have hok := hok σ13 eσ13
    refine lv_aload_n hx hb dX3_call_144 rfl (lv_at hl 0 rfl) ?_
    refine xg (ci := 3) S inX3 rfl hK hP cW_65 6 (by decide) rfl kw_5_135 rfl dX3_call_145 ?_
    refine lv_aload_n hx hb dX3_call_148 rfl (lv_at hl 0 rfl) ?_
    refine xg (ci := 3) S inX3 rfl hK hP cW_65 13 (by decide) rfl kw_5_142 rfl dX3_call_149 ?_
    refine lv_iconst (v := 0) hx hb dX3_call_152 (by decide) ?_
    refine lv_iload_n hx hb dX3_call_153 rfl (lv_at hl 1 rfl) ?_
    refine yVv (As := [.int (σ13.1 65 13), .int 0, .int a1]) (cw := (cW o u cI cZ cJ 83)) (ci := 7) S (v_X7_put_70 l D cI cZ cJ o u 83 ra ga σ13 (σ13.1 65 13) 0 a1 _ H.size hok) mi_X7_put kw_3_5 rfl rfl ⟨Nat.le_of_ble_eq_true rfl, Nat.le_of_ble_eq_true rfl⟩ hP hD hK hS hA hB cW_70 rfl rfl hl.1 (Nat.le_of_ble_eq_true rfl) ⟨Nat.le_of_ble_eq_true rfl, Nat.le_of_ble_eq_true rfl⟩ dX3_call_154 (fun σ14 H locs hok hz hP hD hS => ?_)
    refine lv_aload_n hx hb dX3_call_157 rfl (lv_at hl 0 rfl) ?_
    refine xg (ci := 3) S inX3 rfl hK hP cW_65 6 (by decide) rfl kw_5_135 rfl dX3_call_158 ?_
    refine lv_aload_n hx hb dX3_call_161 rfl (lv_at hl 0 rfl) ?_
    refine xg (ci := 3) S inX3 rfl hK hP cW_65 13 (by decide) rfl kw_5_142 rfl dX3_call_162 ?_
    refine lv_iconst (v := 1) hx hb dX3_call_165 (by decide) ?_
    refine lv_iload_n hx hb dX3_call_166 rfl (lv_at hl 2 rfl) ?_
    refine yVv (As := [.int (σ14.1 65 13), .int 1, .int a2]) (cw := (cW o u cI cZ cJ 83)) (ci := 7) S (v_X7_put_70 l D cI cZ cJ o u 83 ra ga σ14 (σ14.1 65 13) 1 a2 _ H.size hok) mi_X7_put kw_3_5 rfl rfl ⟨Nat.le_of_ble_eq_true rfl, Nat.le_of_ble_eq_true rfl⟩ hP hD hK hS hA hB cW_70 rfl rfl hl.1 (Nat.le_of_ble_eq_true rfl) ⟨Nat.le_of_ble_eq_true rfl, Nat.le_of_ble_eq_true rfl⟩ dX3_call_167 (fun σ15 H locs hok hz hP hD hS => ?_)
    refine lv_aload_n hx hb dX3_call_170 rfl (lv_at hl 0 rfl) ?_
    refine xg (ci := 3) S inX3 rfl hK hP cW_65 6 (by decide) rfl kw_5_135 rfl dX3_call_171 ?_
    refine lv_aload_n hx hb dX3_call_174 rfl (lv_at hl 0 rfl) ?_
    refine xg (ci := 3) S inX3 rfl hK hP cW_65 13 (by decide) rfl kw_5_142 rfl dX3_call_175 ?_
    refine lv_iconst (v := 2) hx hb dX3_call_178 (by decide) ?_
    refine lv_aload_n hx hb dX3_call_179 rfl (lv_at hl 0 rfl) ?_
    refine xg (ci := 3) S inX3 rfl hK hP cW_65 4 (by decide) rfl kw_5_133 rfl dX3_call_180 ?_
    refine xg (ci := 7) S inX7 rfl hK hP cW_66 2 (by decide) rfl kw_5_57 rfl dX3_call_183 ?_
    refine yVv (As := [.int (σ15.1 65 13), .int 2, .int (σ15.1 66 2)]) (cw := (cW o u cI cZ cJ 83)) (ci := 7) S (v_X7_put_70 l D cI cZ cJ o u 83 ra ga σ15 (σ15.1 65 13) 2 (σ15.1 66 2) _ H.size hok) mi_X7_put kw_3_5 rfl rfl ⟨Nat.le_of_ble_eq_true rfl, Nat.le_of_ble_eq_true rfl⟩ hP hD hK hS hA hB cW_70 rfl rfl hl.1 (Nat.le_of_ble_eq_true rfl) ⟨Nat.le_of_ble_eq_true rfl, Nat.le_of_ble_eq_true rfl⟩ dX3_call_186 (fun σ16 H locs hok hz hP hD hS => ?_)
    refine lv_aload_n hx hb dX3_call_189 rfl (lv_at hl 0 rfl) ?_
    refine lv_iload_n hx hb dX3_call_190 rfl (lv_at hl 1 rfl) ?_
    refine yVv (As := [.int a1]) (cw := (cW o u cI cZ cJ 83)) (ci := 3) S (v_X3_layPlaces l D cI cZ cJ o u 83 ra ga σ16 a1 _ H.size hok) mi_X3_layPlaces kw_3_26 rfl rfl ⟨Nat.le_of_ble_eq_true rfl, Nat.le_of_ble_eq_true rfl⟩ hP hD hK hS hA hB cW_65 rfl rfl hl.1 (Nat.le_of_ble_eq_true rfl) ⟨Nat.le_of_ble_eq_true rfl, Nat.le_of_ble_eq_true rfl⟩ dX3_call_191 (fun σ17 H locs hok hz hP hD hS => ?_)
    refine lv_aload_n hx hb dX3_call_194 rfl (lv_at hl 0 rfl) ?_
    refine lv_aload_n hx hb dX3_call_195 rfl (lv_at hl 0 rfl) ?_
    refine xg (ci := 3) S inX3 rfl hK hP cW_65 3 (by decide) rfl kw_5_132 rfl dX3_call_196 ?_
    refine xg (ci := 0) S inX0 rfl hK hP cW_52 5 (by decide) rfl kw_4_224 rfl dX3_call_199 ?_
    refine lv_iload_n hx hb dX3_call_202 rfl (lv_at hl 1 rfl) ?_
    have h_203 := hok.1
    have hok := hok.2
    refine xiald (t0 := 0) (v := (g σ17 53 a1)) S hK hP cW_53 rfl h_203 rfl dX3_call_203 ?_
    refine yp (ci := 3) (v := .int (g σ17 53 a1)) (cw := (cW o u cI cZ cJ 83)) S inX3 tyX3 tyX3_ok nmX3 rfl hK hP hD hS cW_65 12 (by decide) kw_5_141 rfl rfl rfl rfl (Nat.le_of_ble_eq_true rfl) dX3_call_204 cWp_65_12 (fun σ18 H locs eσ18 hP hD hS => ?_)
    have hok := hok σ18 eσ18
    exact yEndv S hr hlocks hP hD hS (Nat.le_of_ble_eq_true rfl) (Nat.le_of_ble_eq_true rfl) dX3_call_207 hok
  · have hok := hok.2 c_60
    refine lv_aload_n hx hb dX3_call_63 rfl (lv_at hl 0 rfl) ?_
    refine xg (ci := 3) S inX3 rfl hK hP cW_65 2 (by decide) rfl kw_5_131 rfl dX3_call_64 ?_
    refine xg (ci := 4) S inX4 rfl hK hP cW_20 14 (by decide) rfl kw_4_124 rfl dX3_call_67 ?_
    refine lv_iload_n hx hb dX3_call_70 rfl (lv_at hl 1 rfl) ?_
    have h_71 := hok.1
    have hok := hok.2
    refine xiald (t0 := 0) (v := (g σ5 33 a1)) S hK hP cW_33 rfl h_71 rfl dX3_call_71 ?_
    refine ySi (As := [.int (g σ5 33 a1)]) (cw := (cW o u cI cZ cJ 83)) S (v_J6_bitCount_0f7a4 l D cI cZ cJ o u 83 ra ga σ5 (g σ5 33 a1) _ H.size hok) ms_J6_bitCount_0f7a4 kw_3_22 rfl rfl ⟨Nat.le_of_ble_eq_true rfl, Nat.le_of_ble_eq_true rfl⟩ hP hD hK hS hA hB hl.1 (Nat.le_of_ble_eq_true rfl) ⟨Nat.le_of_ble_eq_true rfl, Nat.le_of_ble_eq_true rfl⟩ dX3_call_72 (fun x20 σ19 H locs hok hz hP hD hS => ?_)
    refine lv_goto (tgt := 87) hx hb dX3_call_75 (by decide) ?_
    refine xiadd (v := (σ5.1 84 6) + x20) S dX3_call_87 rfl ?_
    refine yp (ci := 6) (v := .int ((σ5.1 84 6) + x20)) (cw := (cW o u cI cZ cJ 83)) S inX6 tyX6 tyX6_ok nmX6 rfl hK hP hD hS cW_84 6 (by decide) kw_5_85 rfl rfl rfl rfl (Nat.le_of_ble_eq_true rfl) dX3_call_88 cWp_84_6 (fun σ21 H locs eσ21 hP hD hS => ?_)
    have hok := hok σ21 eσ21
    refine lv_aload_n hx hb dX3_call_91 rfl (lv_at hl 0 rfl) ?_
    refine xg (ci := 3) S inX3 rfl hK hP cW_65 9 (by decide) rfl kw_5_138 rfl dX3_call_92 ?_
    refine lv_aload_n hx hb dX3_call_95 rfl (lv_at hl 0 rfl) ?_
    refine xg (ci := 3) S inX3 rfl hK hP cW_65 9 (by decide) rfl kw_5_138 rfl dX3_call_96 ?_
    refine xg (ci := 6) S inX6 rfl hK hP cW_84 7 (by decide) rfl kw_5_88 rfl dX3_call_99 ?_
    refine lv_aload_n hx hb dX3_call_102 rfl (lv_at hl 0 rfl) ?_
    refine xg (ci := 3) S inX3 rfl hK hP cW_65 14 (by decide) rfl kw_5_143 rfl dX3_call_103 ?_
    refine ymmax S kw_3_23 kw_3_24 kw_1_19 kw_3_25 hl.1 (Nat.le_of_ble_eq_true rfl) (Nat.le_of_ble_eq_true rfl) ⟨Nat.le_of_ble_eq_true rfl, Nat.le_of_ble_eq_true rfl⟩ dX3_call_106 ?_
    refine lv_topi (fun x22 ex22 => ?_)
    have hok := hok x22 ex22
    refine yp (ci := 6) (v := .int x22) (cw := (cW o u cI cZ cJ 83)) S inX6 tyX6 tyX6_ok nmX6 rfl hK hP hD hS cW_84 7 (by decide) kw_5_88 rfl rfl rfl rfl (Nat.le_of_ble_eq_true rfl) dX3_call_109 cWp_84_7 (fun σ23 H locs eσ23 hP hD hS => ?_)
    have hok := hok σ23 eσ23
    refine lv_aload_n hx hb dX3_call_112 rfl (lv_at hl 0 rfl) ?_
    refine xg (ci := 3) S inX3 rfl hK hP cW_65 9 (by decide) rfl kw_5_138 rfl dX3_call_113 ?_
    refine lv_aload_n hx hb dX3_call_116 rfl (lv_at hl 0 rfl) ?_
    refine xg (ci := 3) S inX3 rfl hK hP cW_65 9 (by decide) rfl kw_5_138 rfl dX3_call_117 ?_
    refine xg (ci := 6) S inX6 rfl hK hP cW_84 8 (by decide) rfl kw_5_90 rfl dX3_call_120 ?_
    refine lv_aload_n hx hb dX3_call_123 rfl (lv_at hl 0 rfl) ?_
    refine xg (ci := 3) S inX3 rfl hK hP cW_65 15 (by decide) rfl kw_5_144 rfl dX3_call_124 ?_
    refine ymmax S kw_3_23 kw_3_24 kw_1_19 kw_3_25 hl.1 (Nat.le_of_ble_eq_true rfl) (Nat.le_of_ble_eq_true rfl) ⟨Nat.le_of_ble_eq_true rfl, Nat.le_of_ble_eq_true rfl⟩ dX3_call_127 ?_
    refine lv_topi (fun x24 ex24 => ?_)
    have hok := hok x24 ex24
    refine yp (ci := 6) (v := .int x24) (cw := (cW o u cI cZ cJ 83)) S inX6 tyX6 tyX6_ok nmX6 rfl hK hP hD hS cW_84 8 (by decide) kw_5_90 rfl rfl rfl rfl (Nat.le_of_ble_eq_true rfl) dX3_call_130 cWp_84_8 (fun σ25 H locs eσ25 hP hD hS => ?_)
    have hok := hok σ25 eσ25
    refine lv_aload_n hx hb dX3_call_133 rfl (lv_at hl 0 rfl) ?_
    refine lv_aload_n hx hb dX3_call_134 rfl (lv_at hl 0 rfl) ?_
    refine xg (ci := 3) S inX3 rfl hK hP cW_65 6 (by decide) rfl kw_5_135 rfl dX3_call_135 ?_
    refine yVi (As := []) (cw := (cW o u cI cZ cJ 83)) (ci := 7) S (v_X7_add_70 l D cI cZ cJ o u 83 ra ga σ25 _ H.size hok) mi_X7_add kw_2_224 rfl rfl ⟨Nat.le_of_ble_eq_true rfl, Nat.le_of_ble_eq_true rfl⟩ hP hD hK hS hA hB cW_70 rfl rfl hl.1 (Nat.le_of_ble_eq_true rfl) ⟨Nat.le_of_ble_eq_true rfl, Nat.le_of_ble_eq_true rfl⟩ dX3_call_138 (fun x27 σ26 H locs hok hz hP hD hS => ?_)
    refine yp (ci := 3) (v := .int x27) (cw := (cW o u cI cZ cJ 83)) S inX3 tyX3 tyX3_ok nmX3 rfl hK hP hD hS cW_65 13 (by decide) kw_5_142 rfl rfl rfl rfl (Nat.le_of_ble_eq_true rfl) dX3_call_141 cWp_65_13 (fun σ28 H locs eσ28 hP hD hS => ?_)
    have hok := hok σ28 eσ28
    refine lv_aload_n hx hb dX3_call_144 rfl (lv_at hl 0 rfl) ?_
    refine xg (ci := 3) S inX3 rfl hK hP cW_65 6 (by decide) rfl kw_5_135 rfl dX3_call_145 ?_
    refine lv_aload_n hx hb dX3_call_148 rfl (lv_at hl 0 rfl) ?_
    refine xg (ci := 3) S inX3 rfl hK hP cW_65 13 (by decide) rfl kw_5_142 rfl dX3_call_149 ?_
    refine lv_iconst (v := 0) hx hb dX3_call_152 (by decide) ?_
    refine lv_iload_n hx hb dX3_call_153 rfl (lv_at hl 1 rfl) ?_
    refine yVv (As := [.int (σ28.1 65 13), .int 0, .int a1]) (cw := (cW o u cI cZ cJ 83)) (ci := 7) S (v_X7_put_70 l D cI cZ cJ o u 83 ra ga σ28 (σ28.1 65 13) 0 a1 _ H.size hok) mi_X7_put kw_3_5 rfl rfl ⟨Nat.le_of_ble_eq_true rfl, Nat.le_of_ble_eq_true rfl⟩ hP hD hK hS hA hB cW_70 rfl rfl hl.1 (Nat.le_of_ble_eq_true rfl) ⟨Nat.le_of_ble_eq_true rfl, Nat.le_of_ble_eq_true rfl⟩ dX3_call_154 (fun σ29 H locs hok hz hP hD hS => ?_)
    refine lv_aload_n hx hb dX3_call_157 rfl (lv_at hl 0 rfl) ?_
    refine xg (ci := 3) S inX3 rfl hK hP cW_65 6 (by decide) rfl kw_5_135 rfl dX3_call_158 ?_
    refine lv_aload_n hx hb dX3_call_161 rfl (lv_at hl 0 rfl) ?_
    refine xg (ci := 3) S inX3 rfl hK hP cW_65 13 (by decide) rfl kw_5_142 rfl dX3_call_162 ?_
    refine lv_iconst (v := 1) hx hb dX3_call_165 (by decide) ?_
    refine lv_iload_n hx hb dX3_call_166 rfl (lv_at hl 2 rfl) ?_
    refine yVv (As := [.int (σ29.1 65 13), .int 1, .int a2]) (cw := (cW o u cI cZ cJ 83)) (ci := 7) S (v_X7_put_70 l D cI cZ cJ o u 83 ra ga σ29 (σ29.1 65 13) 1 a2 _ H.size hok) mi_X7_put kw_3_5 rfl rfl ⟨Nat.le_of_ble_eq_true rfl, Nat.le_of_ble_eq_true rfl⟩ hP hD hK hS hA hB cW_70 rfl rfl hl.1 (Nat.le_of_ble_eq_true rfl) ⟨Nat.le_of_ble_eq_true rfl, Nat.le_of_ble_eq_true rfl⟩ dX3_call_167 (fun σ30 H locs hok hz hP hD hS => ?_)
    refine lv_aload_n hx hb dX3_call_170 rfl (lv_at hl 0 rfl) ?_
    refine xg (ci := 3) S inX3 rfl hK hP cW_65 6 (by decide) rfl kw_5_135 rfl dX3_call_171 ?_
    refine lv_aload_n hx hb dX3_call_174 rfl (lv_at hl 0 rfl) ?_
    refine xg (ci := 3) S inX3 rfl hK hP cW_65 13 (by decide) rfl kw_5_142 rfl dX3_call_175 ?_
    refine lv_iconst (v := 2) hx hb dX3_call_178 (by decide) ?_
    refine lv_aload_n hx hb dX3_call_179 rfl (lv_at hl 0 rfl) ?_
    refine xg (ci := 3) S inX3 rfl hK hP cW_65 4 (by decide) rfl kw_5_133 rfl dX3_call_180 ?_
    refine xg (ci := 7) S inX7 rfl hK hP cW_66 2 (by decide) rfl kw_5_57 rfl dX3_call_183 ?_
    refine yVv (As := [.int (σ30.1 65 13), .int 2, .int (σ30.1 66 2)]) (cw := (cW o u cI cZ cJ 83)) (ci := 7) S (v_X7_put_70 l D cI cZ cJ o u 83 ra ga σ30 (σ30.1 65 13) 2 (σ30.1 66 2) _ H.size hok) mi_X7_put kw_3_5 rfl rfl ⟨Nat.le_of_ble_eq_true rfl, Nat.le_of_ble_eq_true rfl⟩ hP hD hK hS hA hB cW_70 rfl rfl hl.1 (Nat.le_of_ble_eq_true rfl) ⟨Nat.le_of_ble_eq_true rfl, Nat.le_of_ble_eq_true rfl⟩ dX3_call_186 (fun σ31 H locs hok hz hP hD hS => ?_)
    refine lv_aload_n hx hb dX3_call_189 rfl (lv_at hl 0 rfl) ?_
    refine lv_iload_n hx hb dX3_call_190 rfl (lv_at hl 1 rfl) ?_
    refine yVv (As := [.int a1]) (cw := (cW o u cI cZ cJ 83)) (ci := 3) S (v_X3_layPlaces l D cI cZ cJ o u 83 ra ga σ31 a1 _ H.size hok) mi_X3_layPlaces kw_3_26 rfl rfl ⟨Nat.le_of_ble_eq_true rfl, Nat.le_of_ble_eq_true rfl⟩ hP hD hK hS hA hB cW_65 rfl rfl hl.1 (Nat.le_of_ble_eq_true rfl) ⟨Nat.le_of_ble_eq_true rfl, Nat.le_of_ble_eq_true rfl⟩ dX3_call_191 (fun σ32 H locs hok hz hP hD hS => ?_)
    refine lv_aload_n hx hb dX3_call_194 rfl (lv_at hl 0 rfl) ?_
    refine lv_aload_n hx hb dX3_call_195 rfl (lv_at hl 0 rfl) ?_
    refine xg (ci := 3) S inX3 rfl hK hP cW_65 3 (by decide) rfl kw_5_132 rfl dX3_call_196 ?_
    refine xg (ci := 0) S inX0 rfl hK hP cW_52 5 (by decide) rfl kw_4_224 rfl dX3_call_199 ?_
    refine lv_iload_n hx hb dX3_call_202 rfl (lv_at hl 1 rfl) ?_
    have h_203 := hok.1
    have hok := hok.2
    refine xiald (t0 := 0) (v := (g σ32 53 a1)) S hK hP cW_53 rfl h_203 rfl dX3_call_203 ?_
    refine yp (ci := 3) (v := .int (g σ32 53 a1)) (cw := (cW o u cI cZ cJ 83)) S inX3 tyX3 tyX3_ok nmX3 rfl hK hP hD hS cW_65 12 (by decide) kw_5_141 rfl rfl rfl rfl (Nat.le_of_ble_eq_true rfl) dX3_call_204 cWp_65_12 (fun σ33 H locs eσ33 hP hD hS => ?_)
    have hok := hok σ33 eσ33
    exact yEndv S hr hlocks hP hD hS (Nat.le_of_ble_eq_true rfl) (Nat.le_of_ble_eq_true rfl) dX3_call_207 hok

set_option maxHeartbeats 8000000 in
set_option maxRecDepth 100000 in
theorem v_X3_trap_t84 (l : Launch) (D : va_G) (cI cZ cJ : ClassId) (o : Nat) (u : Nat → Nat) (ra : Nat → Nat) (ga : SG) (σ : FS) (a1 : Int32) (a2 : Int32) (Φ : FS → Prop) (sz : Nat) (hok : (wp_X3_trap 84 σ a1 a2 Φ)) : Met l yX3_trap (uW yX3_trap cX3_trap 3 none) ({ frames := 0, cells := 0, slots := 0, locals := 0 }) (va_Pc [.ref (u 64), .int a1, .int a2] (aS ra ga D (tyL cI cZ cJ) (cW o u cI cZ cJ 83 σ) sz)) (yQv Φ D (cW o u cI cZ cJ 83) (va_A (cW o u cI cZ cJ 83 σ) sz)) 0 0 (va_A (cW o u cI cZ cJ 83 σ) sz) := by
  refine aStart (lv := [(0, .ref (u 64)), (1, .int a1), (2, .int a2)]) (Qc := fun A => yQv Φ D (cW o u cI cZ cJ 83) A) (by decide) (Nat.le_of_ble_eq_true rfl) rfl ?_
  intro p e s m args below meth c ls A H S hr hlocks hnm hl hK hP hD hS hA hB
  have hx := S.1
  have hb := S.2.1
  refine lv_aload_n hx hb dX3_trap_0 rfl (lv_at hl 0 rfl) ?_
  refine xg (ci := 3) S inX3 rfl hK hP cW_65 9 (by decide) rfl kw_5_138 rfl dX3_trap_1 ?_
  refine lv_iload_n hx hb dX3_trap_4 rfl (lv_at hl 1 rfl) ?_
  refine yp (ci := 6) (v := .int a1) (cw := (cW o u cI cZ cJ 83)) S inX6 tyX6 tyX6_ok nmX6 rfl hK hP hD hS cW_84 0 (by decide) kw_5_72 rfl rfl rfl rfl (Nat.le_of_ble_eq_true rfl) dX3_trap_5 cWp_84_0 (fun σ1 H locs eσ1 hP hD hS => ?_)
  have hok := hok σ1 eσ1
  refine lv_aload_n hx hb dX3_trap_8 rfl (lv_at hl 0 rfl) ?_
  refine xg (ci := 3) S inX3 rfl hK hP cW_65 9 (by decide) rfl kw_5_138 rfl dX3_trap_9 ?_
  refine lv_iload_n hx hb dX3_trap_12 rfl (lv_at hl 2 rfl) ?_
  refine yp (ci := 6) (v := .int a2) (cw := (cW o u cI cZ cJ 83)) S inX6 tyX6 tyX6_ok nmX6 rfl hK hP hD hS cW_84 1 (by decide) kw_5_75 rfl rfl rfl rfl (Nat.le_of_ble_eq_true rfl) dX3_trap_13 cWp_84_1 (fun σ2 H locs eσ2 hP hD hS => ?_)
  have hok := hok σ2 eσ2
  refine lv_aload_n hx hb dX3_trap_16 rfl (lv_at hl 0 rfl) ?_
  refine xg (ci := 3) S inX3 rfl hK hP cW_65 9 (by decide) rfl kw_5_138 rfl dX3_trap_17 ?_
  refine lv_aload_n hx hb dX3_trap_20 rfl (lv_at hl 0 rfl) ?_
  refine xg (ci := 3) S inX3 rfl hK hP cW_65 2 (by decide) rfl kw_5_131 rfl dX3_trap_21 ?_
  refine xg (ci := 4) S inX4 rfl hK hP cW_20 2 (by decide) rfl kw_4_91 rfl dX3_trap_24 ?_
  refine lv_iload_n hx hb dX3_trap_27 rfl (lv_at hl 2 rfl) ?_
  have h_28 := hok.1
  have hok := hok.2
  refine xiald (t0 := 0) (v := (g σ2 21 a2)) S hK hP cW_21 rfl h_28 rfl dX3_trap_28 ?_
  refine yp (ci := 6) (v := .int (g σ2 21 a2)) (cw := (cW o u cI cZ cJ 83)) S inX6 tyX6 tyX6_ok nmX6 rfl hK hP hD hS cW_84 2 (by decide) kw_5_77 rfl rfl rfl rfl (Nat.le_of_ble_eq_true rfl) dX3_trap_29 cWp_84_2 (fun σ3 H locs eσ3 hP hD hS => ?_)
  have hok := hok σ3 eσ3
  refine lv_aload_n hx hb dX3_trap_32 rfl (lv_at hl 0 rfl) ?_
  refine lv_iconst (v := 1) hx hb dX3_trap_33 (by decide) ?_
  refine yp (ci := 3) (v := .int 1) (cw := (cW o u cI cZ cJ 83)) S inX3 tyX3 tyX3_ok nmX3 rfl hK hP hD hS cW_65 16 (by decide) kw_5_145 rfl rfl rfl rfl (Nat.le_of_ble_eq_true rfl) dX3_trap_34 cWp_65_16 (fun σ4 H locs eσ4 hP hD hS => ?_)
  have hok := hok σ4 eσ4
  exact yEndv S hr hlocks hP hD hS (Nat.le_of_ble_eq_true rfl) (Nat.le_of_ble_eq_true rfl) dX3_trap_37 hok

set_option maxHeartbeats 8000000 in
set_option maxRecDepth 100000 in
theorem v_X3_begin_t84 (l : Launch) (D : va_G) (cI cZ cJ : ClassId) (o : Nat) (u : Nat → Nat) (ra : Nat → Nat) (ga : SG) (σ : FS) (a1 : Int32) (a2 : Int32) (Φ : Int32 → FS → Prop) (sz : Nat) (hok : (wp_X3_begin 84 σ a1 a2 Φ)) : Met l yX3_begin (uW yX3_begin cX3_begin 5 (some .boolean)) ({ frames := 1, cells := 0, slots := 0, locals := 22 }) (va_Pc [.ref (u 64), .int a1, .int a2] (aS ra ga D (tyL cI cZ cJ) (cW o u cI cZ cJ 83 σ) sz)) (yQi Φ D (cW o u cI cZ cJ 83) (va_A (cW o u cI cZ cJ 83 σ) sz)) 0 0 (va_A (cW o u cI cZ cJ 83 σ) sz) := by
  refine aStart (lv := [(0, .ref (u 64)), (1, .int a1), (2, .int a2)]) (Qc := fun A => yQi Φ D (cW o u cI cZ cJ 83) A) (by decide) (Nat.le_of_ble_eq_true rfl) rfl ?_
  intro p e s m args below meth c ls A H S hr hlocks hnm hl hK hP hD hS hA hB
  have hx := S.1
  have hb := S.2.1
  refine lv_aload_n hx hb dX3_begin_0 rfl (lv_at hl 0 rfl) ?_
  refine xg (ci := 3) S inX3 rfl hK hP cW_65 3 (by decide) rfl kw_5_132 rfl dX3_begin_1 ?_
  refine xg (ci := 0) S inX0 rfl hK hP cW_52 11 (by decide) rfl kw_4_239 rfl dX3_begin_4 ?_
  refine lv_iload_n hx hb dX3_begin_7 rfl (lv_at hl 1 rfl) ?_
  have h_8 := hok.1
  have hok := hok.2
  refine xiald (t0 := 0) (v := (g σ 59 a1)) S hK hP cW_59 rfl h_8 rfl dX3_begin_8 ?_
  refine lv_topi (fun x1 ex1 => ?_)
  have hok := hok x1 ex1
  refine lv_istore_n (lv' := [(3, .int x1), (0, .ref (u 64)), (1, .int a1), (2, .int a2)]) hx hb dX3_begin_9 rfl hl (by decide) rfl (fun ls hl => ?_)
  refine lv_iconst (v := 0) hx hb dX3_begin_10 (by decide) ?_
  refine lv_istore (lv' := [(4, .int 0), (3, .int x1), (0, .ref (u 64)), (1, .int a1), (2, .int a2)]) hx hb dX3_begin_11 hl (by decide) rfl (fun ls hl => ?_)
  have lp13 : ∀ (K : FS → Int32 → Int32 → Prop), (∀ (τ0 : FS) (l4_0 : Int32) (l3_0 : Int32) (H : Heap) (locs : List Loc) (ls : Array Slot), K τ0 l4_0 l3_0 → lv_has ls 5 [(4, .int l4_0), (3, .int l3_0), (0, .ref (u 64)), (1, .int a1), (2, .int a2)] → va_P D vwCl (cW o u cI cZ cJ 83 τ0) H → va_D A (cW o u cI cZ cJ 83 τ0) → va_S A s.heap H locs → W p l e ({ frames := 1, cells := 0, slots := 0, locals := 22 }) s m args below meth c H locs 0 0 (MQ below (yQi Φ D (cW o u cI cZ cJ 83) A) args s 0 0 A) (F0 m 74 ls [])) → ∀ (n0 : Nat) (τ0 : FS) (l4_0 : Int32) (l3_0 : Int32) (H : Heap) (locs : List Loc) (ls : Array Slot), wp_X3_begin_13 84 a1 a2 Φ K n0 τ0 l4_0 l3_0 → lv_has ls 5 [(4, .int l4_0), (3, .int l3_0), (0, .ref (u 64)), (1, .int a1), (2, .int a2)] → va_P D vwCl (cW o u cI cZ cJ 83 τ0) H → va_D A (cW o u cI cZ cJ 83 τ0) → va_S A s.heap H locs → W p l e ({ frames := 1, cells := 0, slots := 0, locals := 22 }) s m args below meth c H locs 0 0 (MQ below (yQi Φ D (cW o u cI cZ cJ 83) A) args s 0 0 A) (F0 m 13 ls []) := by
    intro K hk n0
    induction n0 with
    | zero => intro τ0 l4_0 l3_0 H locs ls hok; exact False.elim hok
    | succ n0 ih13 =>
      intro τ0 l4_0 l3_0 H locs ls hok hl hP hD hS
      refine lv_iload hx hb dX3_begin_13 (lv_at hl 0 rfl) ?_
      refine lv_bipush (v := 110) hx hb dX3_begin_15 (by decide) ?_
      refine lv_icmp_ge (tgt := 74) hx hb dX3_begin_17 (by decide) (fun c_17 => ?_) (fun c_17 => ?_)
      · have hok := hok.1 c_17
        exact hk τ0 l4_0 l3_0 H locs ls hok (lv_sub hl [0, 1, 2, 3, 4] rfl) hP hD hS
      · have hok := hok.2 c_17
        refine lv_iload_n hx hb dX3_begin_20 rfl (lv_at hl 1 rfl) ?_
        refine lv_iconst (v := (-1)) hx hb dX3_begin_21 (by decide) ?_
        refine lv_icmp_eq (tgt := 74) hx hb dX3_begin_22 (by decide) (fun c_22 => ?_) (fun c_22 => ?_)
        · have hok := hok.1 c_22
          exact hk τ0 l4_0 l3_0 H locs ls hok (lv_sub hl [0, 1, 2, 3, 4] rfl) hP hD hS
        · have hok := hok.2 c_22
          refine lv_aload_n hx hb dX3_begin_25 rfl (lv_at hl 2 rfl) ?_
          refine xg (ci := 3) S inX3 rfl hK hP cW_65 9 (by decide) rfl kw_5_138 rfl dX3_begin_26 ?_
          refine xg (ci := 6) S inX6 rfl hK hP cW_84 3 (by decide) rfl kw_5_79 rfl dX3_begin_29 ?_
          refine lv_iload_n hx hb dX3_begin_32 rfl (lv_at hl 4 rfl) ?_
          refine lv_icmp_lt (tgt := 45) hx hb dX3_begin_33 (by decide) (fun c_33 => ?_) (fun c_33 => ?_)
          · have hok := hok.1 c_33
            refine lv_aload_n hx hb dX3_begin_45 rfl (lv_at hl 2 rfl) ?_
            refine xg (ci := 3) S inX3 rfl hK hP cW_65 9 (by decide) rfl kw_5_138 rfl dX3_begin_46 ?_
            refine lv_dup hx hb dX3_begin_49 rfl ?_
            refine xg (ci := 6) S inX6 rfl hK hP cW_84 3 (by decide) rfl kw_5_79 rfl dX3_begin_50 ?_
            refine lv_iconst (v := 1) hx hb dX3_begin_53 (by decide) ?_
            refine xiadd (v := (τ0.1 84 3) + 1) S dX3_begin_54 rfl ?_
            refine yp (ci := 6) (v := .int ((τ0.1 84 3) + 1)) (cw := (cW o u cI cZ cJ 83)) S inX6 tyX6 tyX6_ok nmX6 rfl hK hP hD hS cW_84 3 (by decide) kw_5_79 rfl rfl rfl rfl (Nat.le_of_ble_eq_true rfl) dX3_begin_55 cWp_84_3 (fun σ2 H locs eσ2 hP hD hS => ?_)
            have hok := hok σ2 eσ2
            refine lv_aload_n hx hb dX3_begin_58 rfl (lv_at hl 2 rfl) ?_
            refine xg (ci := 3) S inX3 rfl hK hP cW_65 3 (by decide) rfl kw_5_132 rfl dX3_begin_59 ?_
            refine xg (ci := 0) S inX0 rfl hK hP cW_52 15 (by decide) rfl kw_5_7 rfl dX3_begin_62 ?_
            refine lv_iload_n hx hb dX3_begin_65 rfl (lv_at hl 1 rfl) ?_
            have h_66 := hok.1
            have hok := hok.2
            refine xiald (t0 := 0) (v := (g σ2 63 l3_0)) S hK hP cW_63 rfl h_66 rfl dX3_begin_66 ?_
            refine lv_topi (fun x3 ex3 => ?_)
            have hok := hok x3 ex3
            refine lv_istore_n (lv' := [(3, .int x3), (4, .int l4_0), (0, .ref (u 64)), (1, .int a1), (2, .int a2)]) hx hb dX3_begin_67 rfl hl (by decide) rfl (fun ls hl => ?_)
            refine lv_iinc (v := l4_0 + 1) (lv' := [(4, .int (l4_0 + 1)), (3, .int x3), (0, .ref (u 64)), (1, .int a1), (2, .int a2)]) hx hb dX3_begin_68 hl (k := 1) rfl rfl (by decide) rfl (fun ls hl => ?_)
            refine lv_goto (tgt := 13) hx hb dX3_begin_71 (by decide) ?_
            exact ih13 σ2 (l4_0 + 1) x3 H locs ls hok (lv_sub hl [0, 1, 2, 3, 4] rfl) hP hD hS
          · have hok := hok.2 c_33
            refine lv_aload_n hx hb dX3_begin_36 rfl (lv_at hl 2 rfl) ?_
            refine lv_bipush (v := 6) hx hb dX3_begin_37 (by decide) ?_
            refine lv_iload_n hx hb dX3_begin_39 rfl (lv_at hl 1 rfl) ?_
            refine yVv (As := [.int 6, .int l3_0]) (cw := (cW o u cI cZ cJ 83)) (ci := 3) S (v_X3_trap_t84 l D cI cZ cJ o u ra ga τ0 6 l3_0 _ H.size hok) mi_X3_trap kw_3_35 rfl rfl ⟨Nat.le_of_ble_eq_true rfl, Nat.le_of_ble_eq_true rfl⟩ hP hD hK hS hA hB cW_65 rfl rfl hl.1 (Nat.le_of_ble_eq_true rfl) ⟨Nat.le_of_ble_eq_true rfl, Nat.le_of_ble_eq_true rfl⟩ dX3_begin_40 (fun σ4 H locs hok hz hP hD hS => ?_)
            refine lv_iconst (v := 0) hx hb dX3_begin_43 (by decide) ?_
            exact yEndZ S hr hlocks hP hD hS (Nat.le_of_ble_eq_true rfl) (Nat.le_of_ble_eq_true rfl) dX3_begin_44 rfl hok
  refine lp13 _ ?_ FUEL σ 0 x1 _ _ _ hok (lv_sub hl [0, 1, 2, 3, 4] rfl) hP hD hS
  intro σ5 x6 x7 H locs ls hok hl hP hD hS
  refine lv_iconst (v := 1) hx hb dX3_begin_74 (by decide) ?_
  exact yEndZ S hr hlocks hP hD hS (Nat.le_of_ble_eq_true rfl) (Nat.le_of_ble_eq_true rfl) dX3_begin_75 rfl hok
