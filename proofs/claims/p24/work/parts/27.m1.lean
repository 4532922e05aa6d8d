set_option maxHeartbeats 8000000 in
set_option maxRecDepth 100000 in
theorem v_L_cell (l : Launch) (D : va_G) (cI cZ cJ : ClassId) (o : Nat) (u : Nat → Nat) (T : Nat) (ra : Nat → Nat) (ga : SG) (σ : FS) (a2 : Int32) (Φ : Int32 → FS → Prop) (sz : Nat) (hok : (wp_L_cell ga σ a2 Φ)) : Met l yL_cell (uW yL_cell cL_cell 2 (some .int)) ({ frames := 0, cells := 0, slots := 0, locals := 0 }) (va_Pc [.ref ga.1, .int a2] (aS ra ga D (tyL cI cZ cJ) (mW o u cI cZ cJ T ga σ) sz)) (yQi Φ D (mW o u cI cZ cJ T ga) (va_A (mW o u cI cZ cJ T ga σ) sz)) 0 0 (va_A (mW o u cI cZ cJ T ga σ) sz) := by
  refine aStart (lv := [(0, .ref ga.1), (1, .int a2)]) (Qc := fun A => yQi Φ D (mW o u cI cZ cJ T ga) A) (by decide) (Nat.le_of_ble_eq_true rfl) rfl ?_
  intro p e s m args below meth c ls A H S hr hlocks hnm hl hK hP hD hS hA hB
  have hx := S.1
  have hb := S.2.1
  refine lv_iload_n hx hb dL_cell_0 rfl (lv_at hl 1 rfl) ?_
  refine lv_aload_n hx hb dL_cell_1 rfl (lv_at hl 0 rfl) ?_
  refine xsl (v := nI ga.2.1) S hB hS rfl dL_cell_2 ?_
  refine lv_icmp_ge (tgt := 12) hx hb dL_cell_3 (by decide) (fun c_3 => ?_) (fun c_3 => ?_)
  · have hok := hok.1 c_3
    refine lv_ldc hx hb S.2.2.2.1 (S.2.2.2.2 _ kw_6_36) dL_cell_12 ?_
    refine lv_iload_n hx hb dL_cell_14 rfl (lv_at hl 1 rfl) ?_
    refine lv_iconst (v := 3) hx hb dL_cell_15 (by decide) ?_
    refine xiadd (v := a2 + 3) S dL_cell_16 rfl ?_
    refine ximul (v := 790386105 * (a2 + 3)) S dL_cell_17 rfl ?_
    exact yEnd S hr hlocks hP hD hS (Nat.le_of_ble_eq_true rfl) (Nat.le_of_ble_eq_true rfl) dL_cell_18 hok
  · have hok := hok.2 c_3
    refine lv_aload_n hx hb dL_cell_6 rfl (lv_at hl 0 rfl) ?_
    refine lv_iload_n hx hb dL_cell_7 rfl (lv_at hl 1 rfl) ?_
    have h_8 := hok.1
    have hok := hok.2
    refine xsi (v := (ga.2.2 (a2 : Int32).toNatClampNeg)) S hB hS h_8 rfl dL_cell_8 ?_
    refine lv_goto (tgt := 18) hx hb dL_cell_9 (by decide) ?_
    exact yEnd S hr hlocks hP hD hS (Nat.le_of_ble_eq_true rfl) (Nat.le_of_ble_eq_true rfl) dL_cell_18 hok

set_option maxHeartbeats 8000000 in
set_option maxRecDepth 100000 in
theorem v_L_below (l : Launch) (D : va_G) (cI cZ cJ : ClassId) (o : Nat) (u : Nat → Nat) (T : Nat) (ra : Nat → Nat) (ga : SG) (σ : FS) (a1 : Int32) (a2 : Int32) (Φ : Int32 → FS → Prop) (sz : Nat) (hok : (wp_L_below ga σ a1 a2 Φ)) : Met l yL_below (uW yL_below cL_below 2 (some .int)) ({ frames := 0, cells := 0, slots := 0, locals := 0 }) (va_Pc [.int a1, .int a2] (aS ra ga D (tyL cI cZ cJ) (mW o u cI cZ cJ T ga σ) sz)) (yQi Φ D (mW o u cI cZ cJ T ga) (va_A (mW o u cI cZ cJ T ga σ) sz)) 0 0 (va_A (mW o u cI cZ cJ T ga σ) sz) := by
  refine aStart (lv := [(0, .int a1), (1, .int a2)]) (Qc := fun A => yQi Φ D (mW o u cI cZ cJ T ga) A) (by decide) (Nat.le_of_ble_eq_true rfl) rfl ?_
  intro p e s m args below meth c ls A H S hr hlocks hnm hl hK hP hD hS hA hB
  have hx := S.1
  have hb := S.2.1
  refine lv_iload_n hx hb dL_below_0 rfl (lv_at hl 0 rfl) ?_
  refine lv_ldc hx hb S.2.2.2.1 (S.2.2.2.2 _ kw_6_40) dL_below_1 ?_
  refine xiand (v := a1 &&& 2147483647) S dL_below_3 rfl ?_
  refine lv_iload_n hx hb dL_below_4 rfl (lv_at hl 1 rfl) ?_
  have h_5 := hok.1
  have hok := hok.2
  refine xirem (v := (a1 &&& 2147483647) - (a1 &&& 2147483647) / a2 * a2) S dL_below_5 h_5 rfl ?_
  refine lv_topi (fun x1 ex1 => ?_)
  have hok := hok x1 ex1
  exact yEnd S hr hlocks hP hD hS (Nat.le_of_ble_eq_true rfl) (Nat.le_of_ble_eq_true rfl) dL_below_6 hok

set_option maxHeartbeats 8000000 in
set_option maxRecDepth 100000 in
theorem v_X9_draw (l : Launch) (D : va_G) (cI cZ cJ : ClassId) (o : Nat) (u : Nat → Nat) (T : Nat) (ra : Nat → Nat) (ga : SG) (σ : FS) (a1 : Int32) (Φ : Int32 → FS → Prop) (sz : Nat) (hok : (wp_X9_draw ga σ a1 Φ)) : Met l yX9_draw (uW yX9_draw cX9_draw 3 (some .int)) ({ frames := 1, cells := 0, slots := 0, locals := 21 }) (va_Pc [.ref (u 87), .int a1] (aS ra ga D (tyL cI cZ cJ) (mW o u cI cZ cJ T ga σ) sz)) (yQi Φ D (mW o u cI cZ cJ T ga) (va_A (mW o u cI cZ cJ T ga σ) sz)) 0 0 (va_A (mW o u cI cZ cJ T ga σ) sz) := by
  refine aStart (lv := [(0, .ref (u 87)), (1, .int a1)]) (Qc := fun A => yQi Φ D (mW o u cI cZ cJ T ga) A) (by decide) (Nat.le_of_ble_eq_true rfl) rfl ?_
  intro p e s m args below meth c ls A H S hr hlocks hnm hl hK hP hD hS hA hB
  have hx := S.1
  have hb := S.2.1
  refine lv_aload_n hx hb dX9_draw_0 rfl (lv_at hl 0 rfl) ?_
  refine xg (ci := 9) S inX9 rfl hK hP mW_0 1 (by decide) rfl kw_5_230 rfl dX9_draw_1 ?_
  refine lv_aload_n hx hb dX9_draw_4 rfl (lv_at hl 0 rfl) ?_
  refine xg (ci := 9) S inX9 rfl hK hP mW_0 2 (by decide) rfl kw_5_231 rfl dX9_draw_5 ?_
  refine lv_bipush (v := 24) hx hb dX9_draw_8 (by decide) ?_
  refine xirem (v := (σ.1 88 2) - (σ.1 88 2) / 24 * 24) S dX9_draw_10 (by decide) rfl ?_
  refine yNi (As := [.ref ga.1, .int ((σ.1 88 2) - (σ.1 88 2) / 24 * 24)]) (cw := (mW o u cI cZ cJ T ga)) S (v_L_cell l D cI cZ cJ o u T ra ga σ ((σ.1 88 2) - (σ.1 88 2) / 24 * 24) _ H.size hok) ms_L_cell hB.n3 rfl rfl ⟨Nat.le_of_ble_eq_true rfl, Nat.le_of_ble_eq_true rfl⟩ hP hD hK hS hA hB hl.1 (Nat.le_of_ble_eq_true rfl) ⟨Nat.le_of_ble_eq_true rfl, Nat.le_of_ble_eq_true rfl⟩ dX9_draw_11 (fun x2 σ1 H locs hok hz hP hD hS => ?_)
  refine lv_aload_n hx hb dX9_draw_14 rfl (lv_at hl 0 rfl) ?_
  refine xg (ci := 9) S inX9 rfl hK hP mW_0 2 (by decide) rfl kw_5_231 rfl dX9_draw_15 ?_
  refine lv_bipush (v := 24) hx hb dX9_draw_18 (by decide) ?_
  refine xidiv (v := (σ1.1 88 2) / 24) S dX9_draw_20 (by decide) rfl ?_
  refine lv_bipush (v := 8) hx hb dX9_draw_21 (by decide) ?_
  refine xirem (v := ((σ1.1 88 2) / 24) - ((σ1.1 88 2) / 24) / 8 * 8) S dX9_draw_23 (by decide) rfl ?_
  refine lv_topi (fun x3 ex3 => ?_)
  have hok := hok x3 ex3
  refine xishr (v := x2 >>> (x3 &&& 31)) S dX9_draw_24 rfl ?_
  refine lv_sipush (v := 211) hx hb dX9_draw_25 (by decide) ?_
  refine lv_aload_n hx hb dX9_draw_28 rfl (lv_at hl 0 rfl) ?_
  refine xg (ci := 9) S inX9 rfl hK hP mW_0 2 (by decide) rfl kw_5_231 rfl dX9_draw_29 ?_
  refine ximul (v := 211 * (σ1.1 88 2)) S dX9_draw_32 rfl ?_
  refine xiadd (v := (x2 >>> (x3 &&& 31)) + (211 * (σ1.1 88 2))) S dX9_draw_33 rfl ?_
  refine lv_topi (fun x4 ex4 => ?_)
  have hok := hok x4 ex4
  refine lv_iload_n hx hb dX9_draw_34 rfl (lv_at hl 1 rfl) ?_
  refine yNi (As := [.int x4, .int a1]) (cw := (mW o u cI cZ cJ T ga)) S (v_L_below l D cI cZ cJ o u T ra ga σ1 x4 a1 _ H.size hok) ms_L_below hB.n4 rfl rfl ⟨Nat.le_of_ble_eq_true rfl, Nat.le_of_ble_eq_true rfl⟩ hP hD hK hS hA hB hl.1 (Nat.le_of_ble_eq_true rfl) ⟨Nat.le_of_ble_eq_true rfl, Nat.le_of_ble_eq_true rfl⟩ dX9_draw_35 (fun x6 σ5 H locs hok hz hP hD hS => ?_)
  refine lv_istore_n (lv' := [(2, .int x6), (0, .ref (u 87)), (1, .int a1)]) hx hb dX9_draw_38 rfl hl (by decide) rfl (fun ls hl => ?_)
  refine lv_aload_n hx hb dX9_draw_39 rfl (lv_at hl 1 rfl) ?_
  refine lv_dup hx hb dX9_draw_40 rfl ?_
  refine xg (ci := 9) S inX9 rfl hK hP mW_0 2 (by decide) rfl kw_5_231 rfl dX9_draw_41 ?_
  refine lv_iconst (v := 1) hx hb dX9_draw_44 (by decide) ?_
  refine xiadd (v := (σ5.1 88 2) + 1) S dX9_draw_45 rfl ?_
  refine yp (ci := 9) (v := .int ((σ5.1 88 2) + 1)) (cw := (mW o u cI cZ cJ T ga)) S inX9 tyX9 tyX9_ok nmX9 rfl hK hP hD hS mW_0 2 (by decide) kw_5_231 rfl rfl rfl rfl (Nat.le_of_ble_eq_true rfl) dX9_draw_46 mWp_2 (fun σ7 H locs eσ7 hP hD hS => ?_)
  have hok := hok σ7 eσ7
  refine lv_iload_n hx hb dX9_draw_49 rfl (lv_at hl 0 rfl) ?_
  exact yEnd S hr hlocks hP hD hS (Nat.le_of_ble_eq_true rfl) (Nat.le_of_ble_eq_true rfl) dX9_draw_50 hok

set_option maxHeartbeats 8000000 in
set_option maxRecDepth 100000 in
theorem v_X9_declare (l : Launch) (D : va_G) (cI cZ cJ : ClassId) (o : Nat) (u : Nat → Nat) (T : Nat) (ra : Nat → Nat) (ga : SG) (σ : FS) (Φ : Int32 → FS → Prop) (sz : Nat) (hok : (wp_X9_declare ga σ Φ)) : Met l yX9_declare (uW yX9_declare cX9_declare 1 (some .boolean)) ({ frames := 4, cells := 0, slots := 0, locals := 98 }) (va_Pc [.ref (u 87)] (aS ra ga D (tyL cI cZ cJ) (mW o u cI cZ cJ T ga σ) sz)) (yQi Φ D (mW o u cI cZ cJ T ga) (va_A (mW o u cI cZ cJ T ga σ) sz)) 0 0 (va_A (mW o u cI cZ cJ T ga σ) sz) := by
  refine aStart (lv := [(0, .ref (u 87))]) (Qc := fun A => yQi Φ D (mW o u cI cZ cJ T ga) A) (by decide) (Nat.le_of_ble_eq_true rfl) rfl ?_
  intro p e s m args below meth c ls A H S hr hlocks hnm hl hK hP hD hS hA hB
  have hx := S.1
  have hb := S.2.1
  refine lv_aload_n hx hb dX9_declare_0 rfl (lv_at hl 0 rfl) ?_
  refine lv_aload_n hx hb dX9_declare_1 rfl (lv_at hl 0 rfl) ?_
  refine lv_bipush (v := 60) hx hb dX9_declare_2 (by decide) ?_
  refine yVi (As := [.int 60]) (cw := (mW o u cI cZ cJ T ga)) (ci := 9) S (v_X9_draw l D cI cZ cJ o u T ra ga σ 60 _ H.size hok) mi_X9_draw kw_6_45 rfl rfl ⟨Nat.le_of_ble_eq_true rfl, Nat.le_of_ble_eq_true rfl⟩ hP hD hK hS hA hB mW_0 rfl rfl hl.1 (Nat.le_of_ble_eq_true rfl) ⟨Nat.le_of_ble_eq_true rfl, Nat.le_of_ble_eq_true rfl⟩ dX9_declare_4 (fun x2 σ1 H locs hok hz hP hD hS => ?_)
  refine lv_bipush (v := 30) hx hb dX9_declare_7 (by decide) ?_
  refine xisub (v := x2 - 30) S dX9_declare_9 rfl ?_
  refine yp (ci := 9) (v := .int (x2 - 30)) (cw := (mW o u cI cZ cJ T ga)) S inX9 tyX9 tyX9_ok nmX9 rfl hK hP hD hS mW_0 7 (by decide) kw_5_237 rfl rfl rfl rfl (Nat.le_of_ble_eq_true rfl) dX9_declare_10 mWp_7 (fun σ3 H locs eσ3 hP hD hS => ?_)
  have hok := hok σ3 eσ3
  refine lv_aload_n hx hb dX9_declare_13 rfl (lv_at hl 0 rfl) ?_
  refine xg (ci := 9) S inX9 rfl hK hP mW_0 0 (by decide) rfl kw_5_228 rfl dX9_declare_14 ?_
  refine lv_iconst (v := 0) hx hb dX9_declare_17 (by decide) ?_
  refine lv_iconst (v := 0) hx hb dX9_declare_18 (by decide) ?_
  refine lv_iconst (v := 0) hx hb dX9_declare_19 (by decide) ?_
  refine lv_iconst (v := 0) hx hb dX9_declare_20 (by decide) ?_
  refine zVi (mG o u ga σ3) (mN u cJ σ3) (As := [.int 0, .int 0, .int 0, .int 0]) (cw := cW o u cI cZ cJ T) (ci := 8) S (v_X8_variable l D cI cZ cJ o u T ra ga σ3 0 0 0 0 _ H.size hok) mi_X8_variable kw_6_46 rfl rfl ⟨Nat.le_of_ble_eq_true rfl, Nat.le_of_ble_eq_true rfl⟩ hP hD hK hS hA hB cW_0 rfl rfl hl.1 (Nat.le_of_ble_eq_true rfl) ⟨Nat.le_of_ble_eq_true rfl, Nat.le_of_ble_eq_true rfl⟩ dX9_declare_21 (fun x6 σ4 H locs hok hz hP hD hS => ?_)
  rw [mrgW] at hP hD
  obtain ⟨σ5, eσ5⟩ : ∃ z : FS, z = mrg σ4 σ3 := ⟨_, rfl⟩
  rw [← eσ5] at hP hD
  have hok := hok σ5 eσ5
  refine lv_if_ne (tgt := 94) hx hb dX9_declare_24 (by decide) (fun c_24 => ?_) (fun c_24 => ?_)
  · have hok := hok.2 c_24
    refine lv_iconst (v := 0) hx hb dX9_declare_94 (by decide) ?_
    exact yEndZ S hr hlocks hP hD hS (Nat.le_of_ble_eq_true rfl) (Nat.le_of_ble_eq_true rfl) dX9_declare_95 rfl hok
  · have hok := hok.1 c_24
    refine lv_aload_n hx hb dX9_declare_27 rfl (lv_at hl 0 rfl) ?_
    refine xg (ci := 9) S inX9 rfl hK hP mW_0 0 (by decide) rfl kw_5_228 rfl dX9_declare_28 ?_
    refine lv_iconst (v := 0) hx hb dX9_declare_31 (by decide) ?_
    refine lv_iconst (v := 1) hx hb dX9_declare_32 (by decide) ?_
    refine lv_iconst (v := 0) hx hb dX9_declare_33 (by decide) ?_
    refine lv_iconst (v := 0) hx hb dX9_declare_34 (by decide) ?_
    refine zVi (mG o u ga σ5) (mN u cJ σ5) (As := [.int 0, .int 1, .int 0, .int 0]) (cw := cW o u cI cZ cJ T) (ci := 8) S (v_X8_variable l D cI cZ cJ o u T ra ga σ5 0 1 0 0 _ H.size hok) mi_X8_variable kw_6_46 rfl rfl ⟨Nat.le_of_ble_eq_true rfl, Nat.le_of_ble_eq_true rfl⟩ hP hD hK hS hA hB cW_0 rfl rfl hl.1 (Nat.le_of_ble_eq_true rfl) ⟨Nat.le_of_ble_eq_true rfl, Nat.le_of_ble_eq_true rfl⟩ dX9_declare_35 (fun x9 σ7 H locs hok hz hP hD hS => ?_)
    rw [mrgW] at hP hD
    obtain ⟨σ8, eσ8⟩ : ∃ z : FS, z = mrg σ7 σ5 := ⟨_, rfl⟩
    rw [← eσ8] at hP hD
    have hok := hok σ8 eσ8
    refine lv_iconst (v := 1) hx hb dX9_declare_38 (by decide) ?_
    refine lv_icmp_ne (tgt := 94) hx hb dX9_declare_39 (by decide) (fun c_39 => ?_) (fun c_39 => ?_)
    · have hok := hok.2 c_39
      refine lv_iconst (v := 0) hx hb dX9_declare_94 (by decide) ?_
      exact yEndZ S hr hlocks hP hD hS (Nat.le_of_ble_eq_true rfl) (Nat.le_of_ble_eq_true rfl) dX9_declare_95 rfl hok
    · have hok := hok.1 c_39
      refine lv_aload_n hx hb dX9_declare_42 rfl (lv_at hl 0 rfl) ?_
      refine xg (ci := 9) S inX9 rfl hK hP mW_0 0 (by decide) rfl kw_5_228 rfl dX9_declare_43 ?_
      refine lv_iconst (v := 0) hx hb dX9_declare_46 (by decide) ?_
      refine lv_iconst (v := 2) hx hb dX9_declare_47 (by decide) ?_
      refine lv_iconst (v := 1) hx hb dX9_declare_48 (by decide) ?_
      refine lv_iconst (v := 4) hx hb dX9_declare_49 (by decide) ?_
      refine zVi (mG o u ga σ8) (mN u cJ σ8) (As := [.int 0, .int 2, .int 1, .int 4]) (cw := cW o u cI cZ cJ T) (ci := 8) S (v_X8_variable l D cI cZ cJ o u T ra ga σ8 0 2 1 4 _ H.size hok) mi_X8_variable kw_6_46 rfl rfl ⟨Nat.le_of_ble_eq_true rfl, Nat.le_of_ble_eq_true rfl⟩ hP hD hK hS hA hB cW_0 rfl rfl hl.1 (Nat.le_of_ble_eq_true rfl) ⟨Nat.le_of_ble_eq_true rfl, Nat.le_of_ble_eq_true rfl⟩ dX9_declare_50 (fun x12 σ10 H locs hok hz hP hD hS => ?_)
      rw [mrgW] at hP hD
      obtain ⟨σ11, eσ11⟩ : ∃ z : FS, z = mrg σ10 σ8 := ⟨_, rfl⟩
      rw [← eσ11] at hP hD
      have hok := hok σ11 eσ11
      refine lv_iconst (v := 2) hx hb dX9_declare_53 (by decide) ?_
      refine lv_icmp_ne (tgt := 94) hx hb dX9_declare_54 (by decide) (fun c_54 => ?_) (fun c_54 => ?_)
      · have hok := hok.2 c_54
        refine lv_iconst (v := 0) hx hb dX9_declare_94 (by decide) ?_
        exact yEndZ S hr hlocks hP hD hS (Nat.le_of_ble_eq_true rfl) (Nat.le_of_ble_eq_true rfl) dX9_declare_95 rfl hok
      · have hok := hok.1 c_54
        refine lv_aload_n hx hb dX9_declare_57 rfl (lv_at hl 0 rfl) ?_
        refine xg (ci := 9) S inX9 rfl hK hP mW_0 0 (by decide) rfl kw_5_228 rfl dX9_declare_58 ?_
        refine lv_iconst (v := 0) hx hb dX9_declare_61 (by decide) ?_
        refine lv_iconst (v := 3) hx hb dX9_declare_62 (by decide) ?_
        refine lv_iconst (v := 3) hx hb dX9_declare_63 (by decide) ?_
        refine lv_aload_n hx hb dX9_declare_64 rfl (lv_at hl 0 rfl) ?_
        refine xg (ci := 9) S inX9 rfl hK hP mW_0 7 (by decide) rfl kw_5_237 rfl dX9_declare_65 ?_
        refine zVi (mG o u ga σ11) (mN u cJ σ11) (As := [.int 0, .int 3, .int 3, .int (σ11.1 88 7)]) (cw := cW o u cI cZ cJ T) (ci := 8) S (v_X8_variable l D cI cZ cJ o u T ra ga σ11 0 3 3 (σ11.1 88 7) _ H.size hok) mi_X8_variable kw_6_46 rfl rfl ⟨Nat.le_of_ble_eq_true rfl, Nat.le_of_ble_eq_true rfl⟩ hP hD hK hS hA hB cW_0 rfl rfl hl.1 (Nat.le_of_ble_eq_true rfl) ⟨Nat.le_of_ble_eq_true rfl, Nat.le_of_ble_eq_true rfl⟩ dX9_declare_68 (fun x15 σ13 H locs hok hz hP hD hS => ?_)
        rw [mrgW] at hP hD
        obtain ⟨σ14, eσ14⟩ : ∃ z : FS, z = mrg σ13 σ11 := ⟨_, rfl⟩
        rw [← eσ14] at hP hD
        have hok := hok σ14 eσ14
        refine lv_iconst (v := (-1)) hx hb dX9_declare_71 (by decide) ?_
        refine lv_icmp_ne (tgt := 94) hx hb dX9_declare_72 (by decide) (fun c_72 => ?_) (fun c_72 => ?_)
        · have hok := hok.2 c_72
          refine lv_iconst (v := 0) hx hb dX9_declare_94 (by decide) ?_
          exact yEndZ S hr hlocks hP hD hS (Nat.le_of_ble_eq_true rfl) (Nat.le_of_ble_eq_true rfl) dX9_declare_95 rfl hok
        · have hok := hok.1 c_72
          refine lv_aload_n hx hb dX9_declare_75 rfl (lv_at hl 0 rfl) ?_
          refine xg (ci := 9) S inX9 rfl hK hP mW_0 0 (by decide) rfl kw_5_228 rfl dX9_declare_76 ?_
          refine lv_iconst (v := 0) hx hb dX9_declare_79 (by decide) ?_
          refine lv_iconst (v := 4) hx hb dX9_declare_80 (by decide) ?_
          refine lv_iconst (v := 0) hx hb dX9_declare_81 (by decide) ?_
          refine lv_iconst (v := 0) hx hb dX9_declare_82 (by decide) ?_
          refine zVi (mG o u ga σ14) (mN u cJ σ14) (As := [.int 0, .int 4, .int 0, .int 0]) (cw := cW o u cI cZ cJ T) (ci := 8) S (v_X8_variable l D cI cZ cJ o u T ra ga σ14 0 4 0 0 _ H.size hok) mi_X8_variable kw_6_46 rfl rfl ⟨Nat.le_of_ble_eq_true rfl, Nat.le_of_ble_eq_true rfl⟩ hP hD hK hS hA hB cW_0 rfl rfl hl.1 (Nat.le_of_ble_eq_true rfl) ⟨Nat.le_of_ble_eq_true rfl, Nat.le_of_ble_eq_true rfl⟩ dX9_declare_83 (fun x18 σ16 H locs hok hz hP hD hS => ?_)
          rw [mrgW] at hP hD
          obtain ⟨σ17, eσ17⟩ : ∃ z : FS, z = mrg σ16 σ14 := ⟨_, rfl⟩
          rw [← eσ17] at hP hD
          have hok := hok σ17 eσ17
          refine lv_iconst (v := 3) hx hb dX9_declare_86 (by decide) ?_
          refine lv_icmp_ne (tgt := 94) hx hb dX9_declare_87 (by decide) (fun c_87 => ?_) (fun c_87 => ?_)
          · have hok := hok.2 c_87
            refine lv_iconst (v := 0) hx hb dX9_declare_94 (by decide) ?_
            exact yEndZ S hr hlocks hP hD hS (Nat.le_of_ble_eq_true rfl) (Nat.le_of_ble_eq_true rfl) dX9_declare_95 rfl hok
          · have hok := hok.1 c_87
            refine lv_iconst (v := 1) hx hb dX9_declare_90 (by decide) ?_
            refine lv_goto (tgt := 95) hx hb dX9_declare_91 (by decide) ?_
            exact yEndZ S hr hlocks hP hD hS (Nat.le_of_ble_eq_true rfl) (Nat.le_of_ble_eq_true rfl) dX9_declare_95 rfl hok

set_option maxHeartbeats 8000000 in
set_option maxRecDepth 100000 in
theorem v_X9_add (l : Launch) (D : va_G) (cI cZ cJ : ClassId) (o : Nat) (u : Nat → Nat) (T : Nat) (ra : Nat → Nat) (ga : SG) (σ : FS) (a1 : Int32) (a2 : Int32) (a3 : Int32) (a4 : Int32) (Φ : Int32 → FS → Prop) (sz : Nat) (hok : (wp_X9_add ga σ a1 a2 a3 a4 Φ)) : Met l yX9_add (uW yX9_add cX9_add 6 (some .int)) ({ frames := 5, cells := 1, slots := 4, locals := 113 }) (va_Pc [.ref (u 87), .int a1, .int a2, .int a3, .int a4] (aS ra ga D (tyL cI cZ cJ) (mW o u cI cZ cJ T ga σ) sz)) (yQi Φ D (mW o u cI cZ cJ T ga) (va_A (mW o u cI cZ cJ T ga σ) sz)) 1 4 (va_A (mW o u cI cZ cJ T ga σ) sz) := by
  refine aStart (lv := [(0, .ref (u 87)), (1, .int a1), (2, .int a2), (3, .int a3), (4, .int a4)]) (Qc := fun A => yQi Φ D (mW o u cI cZ cJ T ga) A) (by decide) (Nat.le_of_ble_eq_true rfl) rfl ?_
  intro p e s m args below meth c ls A H S hr hlocks hnm hl hK hP hD hS hA hB
  have hx := S.1
  have hb := S.2.1
  refine lv_iconst (v := 4) hx hb dX9_add_0 (by decide) ?_
  refine xnewa (ty := .int) (t0 := 0) (N := 4) (a0 := (4, .inl (fun _ => 0))) S kw_3_130 rfl (Or.inl rfl) hK hP hD hS hA rfl (fun _ => rfl) (by decide) (by decide) (by decide) (Nat.le_of_ble_eq_true rfl) (Nat.le_of_ble_eq_true rfl) dX9_add_1 (fun q1 H hP hD hS => ?_)
  have hP : va_P D vwCl ((mW o u cI cZ cJ T ga σ) ++ [(q1, .inl (cI, 4, .inl (fun _ => 0)))]) H := hP
  have hD : va_D A ((mW o u cI cZ cJ T ga σ) ++ [(q1, .inl (cI, 4, .inl (fun _ => 0)))]) := hD
  refine lv_dup hx hb dX9_add_3 rfl ?_
  refine lv_iconst (v := 0) hx hb dX9_add_4 (by decide) ?_
  refine lv_iload_n hx hb dX9_add_5 rfl (lv_at hl 1 rfl) ?_
  refine xiast (t0 := 0) (q0 := 90) S hK hP hD hS rfl rfl (vin rfl) dX9_add_6 (fun H locs hP hD hS => ?_)
  have hP : va_P D vwCl ((mW o u cI cZ cJ T ga σ) ++ [(q1, .inl (cI, 4, .inl (upd (fun _ => 0) (0 : Int32).toNatClampNeg a1)))]) H := hP
  have hD : va_D A ((mW o u cI cZ cJ T ga σ) ++ [(q1, .inl (cI, 4, .inl (upd (fun _ => 0) (0 : Int32).toNatClampNeg a1)))]) := hD
  refine lv_dup hx hb dX9_add_7 rfl ?_
  refine lv_iconst (v := 1) hx hb dX9_add_8 (by decide) ?_
  refine lv_iload_n hx hb dX9_add_9 rfl (lv_at hl 2 rfl) ?_
  refine xiast (t0 := 0) (q0 := 90) S hK hP hD hS rfl rfl (vin rfl) dX9_add_10 (fun H locs hP hD hS => ?_)
  have hP : va_P D vwCl ((mW o u cI cZ cJ T ga σ) ++ [(q1, .inl (cI, 4, .inl (upd (upd (fun _ => 0) (0 : Int32).toNatClampNeg a1) (1 : Int32).toNatClampNeg a2)))]) H := hP
  have hD : va_D A ((mW o u cI cZ cJ T ga σ) ++ [(q1, .inl (cI, 4, .inl (upd (upd (fun _ => 0) (0 : Int32).toNatClampNeg a1) (1 : Int32).toNatClampNeg a2)))]) := hD
  refine lv_dup hx hb dX9_add_11 rfl ?_
  refine lv_iconst (v := 2) hx hb dX9_add_12 (by decide) ?_
  refine lv_iload_n hx hb dX9_add_13 rfl (lv_at hl 3 rfl) ?_
  refine xiast (t0 := 0) (q0 := 90) S hK hP hD hS rfl rfl (vin rfl) dX9_add_14 (fun H locs hP hD hS => ?_)
  have hP : va_P D vwCl ((mW o u cI cZ cJ T ga σ) ++ [(q1, .inl (cI, 4, .inl (upd (upd (upd (fun _ => 0) (0 : Int32).toNatClampNeg a1) (1 : Int32).toNatClampNeg a2) (2 : Int32).toNatClampNeg a3)))]) H := hP
  have hD : va_D A ((mW o u cI cZ cJ T ga σ) ++ [(q1, .inl (cI, 4, .inl (upd (upd (upd (fun _ => 0) (0 : Int32).toNatClampNeg a1) (1 : Int32).toNatClampNeg a2) (2 : Int32).toNatClampNeg a3)))]) := hD
  refine lv_dup hx hb dX9_add_15 rfl ?_
  refine lv_iconst (v := 3) hx hb dX9_add_16 (by decide) ?_
  refine lv_iload hx hb dX9_add_17 (lv_at hl 4 rfl) ?_
  refine xiast (t0 := 0) (q0 := 90) S hK hP hD hS rfl rfl (vin rfl) dX9_add_19 (fun H locs hP hD hS => ?_)
  have hP : va_P D vwCl ((mW o u cI cZ cJ T ga σ) ++ [(q1, .inl (cI, 4, .inl (upd (upd (upd (upd (fun _ => 0) (0 : Int32).toNatClampNeg a1) (1 : Int32).toNatClampNeg a2) (2 : Int32).toNatClampNeg a3) (3 : Int32).toNatClampNeg a4)))]) H := hP
  have hD : va_D A ((mW o u cI cZ cJ T ga σ) ++ [(q1, .inl (cI, 4, .inl (upd (upd (upd (upd (fun _ => 0) (0 : Int32).toNatClampNeg a1) (1 : Int32).toNatClampNeg a2) (2 : Int32).toNatClampNeg a3) (3 : Int32).toNatClampNeg a4)))]) := hD
  refine lv_astore (lv' := [(5, .ref q1), (0, .ref (u 87)), (1, .int a1), (2, .int a2), (3, .int a3), (4, .int a4)]) hx hb dX9_add_20 hl (by decide) rfl (fun ls hl => ?_)
  refine lv_aload_n hx hb dX9_add_22 rfl (lv_at hl 1 rfl) ?_
  refine xg (ci := 9) S inX9 rfl hK hP (ap_l mW_0) 4 (by decide) rfl kw_5_234 rfl dX9_add_23 ?_
  refine lv_aload_n hx hb dX9_add_26 rfl (lv_at hl 1 rfl) ?_
  refine xg (ci := 9) S inX9 rfl hK hP (ap_l mW_0) 3 (by decide) rfl kw_5_233 rfl dX9_add_27 ?_
  refine lv_aload hx hb dX9_add_30 (lv_at hl 0 rfl) ?_
  have h_32 := hok.1
  have hok := hok.2
  refine yaasti (q0 := 89) (q1 := 90) S hB hK hP hD hS rfl rfl h_32 dX9_add_32 (fun H locs hP hD hS => ?_)
  have hP : va_P D vwCl ((mW o u cI cZ cJ T ga (sR σ (σ.1 88 3).toNatClampNeg (some q1))) ++ [(q1, .inl (cI, 4, .inl (upd (upd (upd (upd (fun _ => 0) (0 : Int32).toNatClampNeg a1) (1 : Int32).toNatClampNeg a2) (2 : Int32).toNatClampNeg a3) (3 : Int32).toNatClampNeg a4)))]) H := hP
  have hD : va_D A ((mW o u cI cZ cJ T ga (sR σ (σ.1 88 3).toNatClampNeg (some q1))) ++ [(q1, .inl (cI, 4, .inl (upd (upd (upd (upd (fun _ => 0) (0 : Int32).toNatClampNeg a1) (1 : Int32).toNatClampNeg a2) (2 : Int32).toNatClampNeg a3) (3 : Int32).toNatClampNeg a4)))]) := hD
  have hP := va_Pl hP
  have hD := va_Dl hD
  obtain ⟨σ1, eσ1⟩ : ∃ z : FS, z = sR σ (σ.1 88 3).toNatClampNeg (some q1) := ⟨_, rfl⟩
  rw [← eσ1] at hP hD
  have hok := hok q1 σ1 eσ1
  refine lv_aload_n hx hb dX9_add_33 rfl (lv_at hl 1 rfl) ?_
  refine xg (ci := 9) S inX9 rfl hK hP mW_0 0 (by decide) rfl kw_5_228 rfl dX9_add_34 ?_
  refine lv_iload_n hx hb dX9_add_37 rfl (lv_at hl 2 rfl) ?_
  refine lv_iload_n hx hb dX9_add_38 rfl (lv_at hl 3 rfl) ?_
  refine lv_iload_n hx hb dX9_add_39 rfl (lv_at hl 4 rfl) ?_
  refine lv_iload hx hb dX9_add_40 (lv_at hl 5 rfl) ?_
  refine zVi (mG o u ga σ1) (mN u cJ σ1) (As := [.int a1, .int a2, .int a3, .int a4]) (cw := cW o u cI cZ cJ T) (ci := 8) S (v_X8_node l D cI cZ cJ o u T ra ga σ1 a1 a2 a3 a4 _ H.size hok) mi_X8_node kw_6_73 rfl rfl ⟨Nat.le_of_ble_eq_true rfl, Nat.le_of_ble_eq_true rfl⟩ hP hD hK hS hA hB cW_0 rfl rfl hl.1 (Nat.le_of_ble_eq_true rfl) ⟨Nat.le_of_ble_eq_true rfl, Nat.le_of_ble_eq_true rfl⟩ dX9_add_42 (fun x4 σ2 H locs hok hz hP hD hS => ?_)
  rw [mrgW] at hP hD
  obtain ⟨σ3, eσ3⟩ : ∃ z : FS, z = mrg σ2 σ1 := ⟨_, rfl⟩
  rw [← eσ3] at hP hD
  have hok := hok σ3 eσ3
  refine lv_aload_n hx hb dX9_add_45 rfl (lv_at hl 1 rfl) ?_
  refine xg (ci := 9) S inX9 rfl hK hP mW_0 3 (by decide) rfl kw_5_233 rfl dX9_add_46 ?_
  refine lv_icmp_ne (tgt := 66) hx hb dX9_add_49 (by decide) (fun c_49 => ?_) (fun c_49 => ?_)
  · have hok := hok.2 c_49
    refine lv_sipush (v := 1000) hx hb dX9_add_66 (by decide) ?_
    exact yEnd S hr hlocks hP hD hS (Nat.le_of_ble_eq_true rfl) (Nat.le_of_ble_eq_true rfl) dX9_add_69 hok
  · have hok := hok.1 c_49
    refine lv_aload_n hx hb dX9_add_52 rfl (lv_at hl 1 rfl) ?_
    refine lv_dup hx hb dX9_add_53 rfl ?_
    refine xg (ci := 9) S inX9 rfl hK hP mW_0 3 (by decide) rfl kw_5_233 rfl dX9_add_54 ?_
    refine lv_dup_x1 hx hb dX9_add_57 rfl rfl ?_
    refine lv_iconst (v := 1) hx hb dX9_add_58 (by decide) ?_
    refine xiadd (v := (σ3.1 88 3) + 1) S dX9_add_59 rfl ?_
    refine yp (ci := 9) (v := .int ((σ3.1 88 3) + 1)) (cw := (mW o u cI cZ cJ T ga)) S inX9 tyX9 tyX9_ok nmX9 rfl hK hP hD hS mW_0 3 (by decide) kw_5_233 rfl rfl rfl rfl (Nat.le_of_ble_eq_true rfl) dX9_add_60 mWp_3 (fun σ5 H locs eσ5 hP hD hS => ?_)
    have hok := hok σ5 eσ5
    refine lv_goto (tgt := 69) hx hb dX9_add_63 (by decide) ?_
    exact yEnd S hr hlocks hP hD hS (Nat.le_of_ble_eq_true rfl) (Nat.le_of_ble_eq_true rfl) dX9_add_69 hok

set_option maxHeartbeats 8000000 in
set_option maxRecDepth 100000 in
theorem v_X9_expression_0 (l : Launch) (D : va_G) (cI cZ cJ : ClassId) (o : Nat) (u : Nat → Nat) (T : Nat) (ra : Nat → Nat) (ga : SG) (σ : FS) (Φ : Int32 → FS → Prop) (sz : Nat) (hok : (wp_X9_expression_0 ga σ Φ)) : Met l yX9_expression (uW yX9_expression cX9_expression 5 (some .int)) ({ frames := 6, cells := 2, slots := 8, locals := 138 }) (va_Pc [.ref (u 87), .int 0] (aS ra ga D (tyL cI cZ cJ) (mW o u cI cZ cJ T ga σ) sz)) (yQi Φ D (mW o u cI cZ cJ T ga) (va_A (mW o u cI cZ cJ T ga σ) sz)) 2 8 (va_A (mW o u cI cZ cJ T ga σ) sz) := by
  refine aStart (lv := [(0, .ref (u 87)), (1, .int 0)]) (Qc := fun A => yQi Φ D (mW o u cI cZ cJ T ga) A) (by decide) (Nat.le_of_ble_eq_true rfl) rfl ?_
  intro p e s m args below meth c ls A H S hr hlocks hnm hl hK hP hD hS hA hB
  have hx := S.1
  have hb := S.2.1
  refine lv_iload_n hx hb dX9_expression_0 rfl (lv_at hl 1 rfl) ?_
  refine lv_if_eq (tgt := 13) hx hb dX9_expression_1 (by decide) (fun _ => ?_) (fun c => absurd c (by decide))
  refine lv_aload_n hx hb dX9_expression_13 rfl (lv_at hl 0 rfl) ?_
  refine lv_iconst (v := 2) hx hb dX9_expression_14 (by decide) ?_
  refine yVi (As := [.int 2]) (cw := (mW o u cI cZ cJ T ga)) (ci := 9) S (v_X9_draw l D cI cZ cJ o u T ra ga σ 2 _ H.size hok) mi_X9_draw kw_6_45 rfl rfl ⟨Nat.le_of_ble_eq_true rfl, Nat.le_of_ble_eq_true rfl⟩ hP hD hK hS hA hB mW_0 rfl rfl hl.1 (Nat.le_of_ble_eq_true rfl) ⟨Nat.le_of_ble_eq_true rfl, Nat.le_of_ble_eq_true rfl⟩ dX9_expression_15 (fun x2 σ1 H locs hok hz hP hD hS => ?_)
  refine lv_goto (tgt := 27) hx hb dX9_expression_18 (by decide) ?_
  by_cases k_27_0 : x2 = 0
  · have hok := hok.1 k_27_0
    rw [k_27_0]
    refine lv_tableIn (off := 25) (tgt := 52) hx hb dX9_expression_27 (by decide) (by decide) (by decide) (by decide) ?_
    refine lv_aload_n hx hb dX9_expression_52 rfl (lv_at hl 0 rfl) ?_
    refine lv_iconst (v := 0) hx hb dX9_expression_53 (by decide) ?_
    refine lv_aload_n hx hb dX9_expression_54 rfl (lv_at hl 0 rfl) ?_
    refine lv_bipush (v := 41) hx hb dX9_expression_55 (by decide) ?_
    refine yVi (As := [.int 41]) (cw := (mW o u cI cZ cJ T ga)) (ci := 9) S (v_X9_draw l D cI cZ cJ o u T ra ga σ1 41 _ H.size hok) mi_X9_draw kw_6_45 rfl rfl ⟨Nat.le_of_ble_eq_true rfl, Nat.le_of_ble_eq_true rfl⟩ hP hD hK hS hA hB mW_0 rfl rfl hl.1 (Nat.le_of_ble_eq_true rfl) ⟨Nat.le_of_ble_eq_true rfl, Nat.le_of_ble_eq_true rfl⟩ dX9_expression_57 (fun x4 σ3 H locs hok hz hP hD hS => ?_)
    refine lv_bipush (v := 20) hx hb dX9_expression_60 (by decide) ?_
    refine xisub (v := x4 - 20) S dX9_expression_62 rfl ?_
    refine lv_iconst (v := 0) hx hb dX9_expression_63 (by decide) ?_
    refine lv_iconst (v := 0) hx hb dX9_expression_64 (by decide) ?_
    refine yVi (As := [.int 0, .int (x4 - 20), .int 0, .int 0]) (cw := (mW o u cI cZ cJ T ga)) (ci := 9) S (v_X9_add l D cI cZ cJ o u T ra ga σ3 0 (x4 - 20) 0 0 _ H.size hok) mi_X9_add kw_6_116 rfl rfl ⟨Nat.le_of_ble_eq_true rfl, Nat.le_of_ble_eq_true rfl⟩ hP hD hK hS hA hB mW_0 rfl rfl hl.1 (Nat.le_of_ble_eq_true rfl) ⟨Nat.le_of_ble_eq_true rfl, Nat.le_of_ble_eq_true rfl⟩ dX9_expression_65 (fun x6 σ5 H locs hok hz hP hD hS => ?_)
    exact yEnd S hr hlocks hP hD hS (Nat.le_of_ble_eq_true rfl) (Nat.le_of_ble_eq_true rfl) dX9_expression_68 hok
  · have hok := hok.2 k_27_0
    by_cases k_27_1 : x2 = 1
    · have hok := hok.1 k_27_1
      rw [k_27_1]
      refine lv_tableIn (off := 42) (tgt := 69) hx hb dX9_expression_27 (by decide) (by decide) (by decide) (by decide) ?_
      refine lv_aload_n hx hb dX9_expression_69 rfl (lv_at hl 0 rfl) ?_
      refine lv_iconst (v := 4) hx hb dX9_expression_70 (by decide) ?_
      refine yVi (As := [.int 4]) (cw := (mW o u cI cZ cJ T ga)) (ci := 9) S (v_X9_draw l D cI cZ cJ o u T ra ga σ1 4 _ H.size hok) mi_X9_draw kw_6_45 rfl rfl ⟨Nat.le_of_ble_eq_true rfl, Nat.le_of_ble_eq_true rfl⟩ hP hD hK hS hA hB mW_0 rfl rfl hl.1 (Nat.le_of_ble_eq_true rfl) ⟨Nat.le_of_ble_eq_true rfl, Nat.le_of_ble_eq_true rfl⟩ dX9_expression_71 (fun x8 σ7 H locs hok hz hP hD hS => ?_)
      refine lv_istore_n (lv' := [(2, .int x8), (0, .ref (u 87)), (1, .int 0)]) hx hb dX9_expression_74 rfl hl (by decide) rfl (fun ls hl => ?_)
      refine lv_aload_n hx hb dX9_expression_75 rfl (lv_at hl 1 rfl) ?_
      refine lv_iconst (v := 1) hx hb dX9_expression_76 (by decide) ?_
      refine lv_iload_n hx hb dX9_expression_77 rfl (lv_at hl 0 rfl) ?_
      refine lv_iconst (v := 2) hx hb dX9_expression_78 (by decide) ?_
      refine lv_icmp_ne (tgt := 86) hx hb dX9_expression_79 (by decide) (fun c_79 => ?_) (fun c_79 => ?_)
      · have hok := hok.2 c_79
        refine lv_iload_n hx hb dX9_expression_86 rfl (lv_at hl 0 rfl) ?_
        refine lv_iconst (v := 0) hx hb dX9_expression_87 (by decide) ?_
        refine lv_iconst (v := 0) hx hb dX9_expression_88 (by decide) ?_
        refine yVi (As := [.int 1, .int x8, .int 0, .int 0]) (cw := (mW o u cI cZ cJ T ga)) (ci := 9) S (v_X9_add l D cI cZ cJ o u T ra ga σ7 1 x8 0 0 _ H.size hok) mi_X9_add kw_6_116 rfl rfl ⟨Nat.le_of_ble_eq_true rfl, Nat.le_of_ble_eq_true rfl⟩ hP hD hK hS hA hB mW_0 rfl rfl hl.1 (Nat.le_of_ble_eq_true rfl) ⟨Nat.le_of_ble_eq_true rfl, Nat.le_of_ble_eq_true rfl⟩ dX9_expression_89 (fun x10 σ9 H locs hok hz hP hD hS => ?_)
        exact yEnd S hr hlocks hP hD hS (Nat.le_of_ble_eq_true rfl) (Nat.le_of_ble_eq_true rfl) dX9_expression_92 hok
      · have hok := hok.1 c_79
        refine lv_iconst (v := 4) hx hb dX9_expression_82 (by decide) ?_
        refine lv_goto (tgt := 87) hx hb dX9_expression_83 (by decide) ?_
        refine lv_iconst (v := 0) hx hb dX9_expression_87 (by decide) ?_
        refine lv_iconst (v := 0) hx hb dX9_expression_88 (by decide) ?_
        refine yVi (As := [.int 1, .int 4, .int 0, .int 0]) (cw := (mW o u cI cZ cJ T ga)) (ci := 9) S (v_X9_add l D cI cZ cJ o u T ra ga σ7 1 4 0 0 _ H.size hok) mi_X9_add kw_6_116 rfl rfl ⟨Nat.le_of_ble_eq_true rfl, Nat.le_of_ble_eq_true rfl⟩ hP hD hK hS hA hB mW_0 rfl rfl hl.1 (Nat.le_of_ble_eq_true rfl) ⟨Nat.le_of_ble_eq_true rfl, Nat.le_of_ble_eq_true rfl⟩ dX9_expression_89 (fun x12 σ11 H locs hok hz hP hD hS => ?_)
        exact yEnd S hr hlocks hP hD hS (Nat.le_of_ble_eq_true rfl) (Nat.le_of_ble_eq_true rfl) dX9_expression_92 hok
    · have hok := hok.2 k_27_1
      by_cases k_27_2 : x2 = 2
      · have hok := hok.1 k_27_2
        rw [k_27_2]
        refine lv_tableIn (off := 66) (tgt := 93) hx hb dX9_expression_27 (by decide) (by decide) (by decide) (by decide) ?_
        refine lv_aload_n hx hb dX9_expression_93 rfl (lv_at hl 0 rfl) ?_
        refine lv_iconst (v := 2) hx hb dX9_expression_94 (by decide) ?_
        refine lv_iconst (v := 2) hx hb dX9_expression_95 (by decide) ?_
        refine lv_aload_n hx hb dX9_expression_96 rfl (lv_at hl 0 rfl) ?_
        refine lv_iconst (v := 3) hx hb dX9_expression_97 (by decide) ?_
        refine yVi (As := [.int 3]) (cw := (mW o u cI cZ cJ T ga)) (ci := 9) S (v_X9_draw l D cI cZ cJ o u T ra ga σ1 3 _ H.size hok) mi_X9_draw kw_6_45 rfl rfl ⟨Nat.le_of_ble_eq_true rfl, Nat.le_of_ble_eq_true rfl⟩ hP hD hK hS hA hB mW_0 rfl rfl hl.1 (Nat.le_of_ble_eq_true rfl) ⟨Nat.le_of_ble_eq_true rfl, Nat.le_of_ble_eq_true rfl⟩ dX9_expression_98 (fun x14 σ13 H locs hok hz hP hD hS => ?_)
        refine lv_if_ne (tgt := 114) hx hb dX9_expression_101 (by decide) (fun c_101 => ?_) (fun c_101 => ?_)
        · have hok := hok.2 c_101
          refine lv_aload_n hx hb dX9_expression_114 rfl (lv_at hl 0 rfl) ?_
          refine lv_iconst (v := 0) hx hb dX9_expression_115 (by decide) ?_
          refine lv_aload_n hx hb dX9_expression_116 rfl (lv_at hl 0 rfl) ?_
          refine lv_iconst (v := 4) hx hb dX9_expression_117 (by decide) ?_
          refine yVi (As := [.int 4]) (cw := (mW o u cI cZ cJ T ga)) (ci := 9) S (v_X9_draw l D cI cZ cJ o u T ra ga σ13 4 _ H.size hok) mi_X9_draw kw_6_45 rfl rfl ⟨Nat.le_of_ble_eq_true rfl, Nat.le_of_ble_eq_true rfl⟩ hP hD hK hS hA hB mW_0 rfl rfl hl.1 (Nat.le_of_ble_eq_true rfl) ⟨Nat.le_of_ble_eq_true rfl, Nat.le_of_ble_eq_true rfl⟩ dX9_expression_118 (fun x16 σ15 H locs hok hz hP hD hS => ?_)
          refine lv_iconst (v := 0) hx hb dX9_expression_121 (by decide) ?_
          refine lv_iconst (v := 0) hx hb dX9_expression_122 (by decide) ?_
          refine yVi (As := [.int 0, .int x16, .int 0, .int 0]) (cw := (mW o u cI cZ cJ T ga)) (ci := 9) S (v_X9_add l D cI cZ cJ o u T ra ga σ15 0 x16 0 0 _ H.size hok) mi_X9_add kw_6_116 rfl rfl ⟨Nat.le_of_ble_eq_true rfl, Nat.le_of_ble_eq_true rfl⟩ hP hD hK hS hA hB mW_0 rfl rfl hl.1 (Nat.le_of_ble_eq_true rfl) ⟨Nat.le_of_ble_eq_true rfl, Nat.le_of_ble_eq_true rfl⟩ dX9_expression_123 (fun x18 σ17 H locs hok hz hP hD hS => ?_)
          refine lv_iconst (v := 0) hx hb dX9_expression_126 (by decide) ?_
          refine yVi (As := [.int 2, .int 2, .int x18, .int 0]) (cw := (mW o u cI cZ cJ T ga)) (ci := 9) S (v_X9_add l D cI cZ cJ o u T ra ga σ17 2 2 x18 0 _ H.size hok) mi_X9_add kw_6_116 rfl rfl ⟨Nat.le_of_ble_eq_true rfl, Nat.le_of_ble_eq_true rfl⟩ hP hD hK hS hA hB mW_0 rfl rfl hl.1 (Nat.le_of_ble_eq_true rfl) ⟨Nat.le_of_ble_eq_true rfl, Nat.le_of_ble_eq_true rfl⟩ dX9_expression_127 (fun x20 σ19 H locs hok hz hP hD hS => ?_)
          exact yEnd S hr hlocks hP hD hS (Nat.le_of_ble_eq_true rfl) (Nat.le_of_ble_eq_true rfl) dX9_expression_130 hok
        · have hok := hok.1 c_101
          refine lv_aload_n hx hb dX9_expression_104 rfl (lv_at hl 0 rfl) ?_
          refine lv_iload_n hx hb dX9_expression_105 rfl (lv_at hl 1 rfl) ?_
          refine lv_iconst (v := 1) hx hb dX9_expression_106 (by decide) ?_
          refine xisub (v := (-1)) S dX9_expression_107 (by decide) ?_
          exact False.elim hok
      · have hok := hok.2 k_27_2
        have q_27_0 := sw_ni k_27_0 (z := 0) (by decide)
        have q_27_1 := sw_ni k_27_1 (z := 1) (by decide)
        have q_27_2 := sw_ni k_27_2 (z := 2) (by decide)
        refine lv_tableOut (tgt := 131) hx hb dX9_expression_27 (by omega) (by decide) ?_
        refine lv_aload_n hx hb dX9_expression_131 rfl (lv_at hl 0 rfl) ?_
        refine lv_iload_n hx hb dX9_expression_132 rfl (lv_at hl 1 rfl) ?_
        refine lv_iconst (v := 1) hx hb dX9_expression_133 (by decide) ?_
        refine xisub (v := (-1)) S dX9_expression_134 (by decide) ?_
        exact False.elim hok

set_option maxHeartbeats 8000000 in
set_option maxRecDepth 100000 in
theorem v_X9_expression_1 (l : Launch) (D : va_G) (cI cZ cJ : ClassId) (o : Nat) (u : Nat → Nat) (T : Nat) (ra : Nat → Nat) (ga : SG) (σ : FS) (Φ : Int32 → FS → Prop) (sz : Nat) (hok : (wp_X9_expression_1 ga σ Φ)) : Met l yX9_expression (uW yX9_expression cX9_expression 5 (some .int)) ({ frames := 7, cells := 5, slots := 20, locals := 162 }) (va_Pc [.ref (u 87), .int 1] (aS ra ga D (tyL cI cZ cJ) (mW o u cI cZ cJ T ga σ) sz)) (yQi Φ D (mW o u cI cZ cJ T ga) (va_A (mW o u cI cZ cJ T ga σ) sz)) 5 20 (va_A (mW o u cI cZ cJ T ga σ) sz) := by
  refine aStart (lv := [(0, .ref (u 87)), (1, .int 1)]) (Qc := fun A => yQi Φ D (mW o u cI cZ cJ T ga) A) (by decide) (Nat.le_of_ble_eq_true rfl) rfl ?_
  intro p e s m args below meth c ls A H S hr hlocks hnm hl hK hP hD hS hA hB
  have hx := S.1
  have hb := S.2.1
  refine lv_iload_n hx hb dX9_expression_0 rfl (lv_at hl 1 rfl) ?_
  refine lv_if_eq (tgt := 13) hx hb dX9_expression_1 (by decide) (fun c => absurd c (by decide)) (fun _ => ?_)
  refine lv_aload_n hx hb dX9_expression_4 rfl (lv_at hl 0 rfl) ?_
  refine xg (ci := 9) S inX9 rfl hK hP mW_0 3 (by decide) rfl kw_5_233 rfl dX9_expression_5 ?_
  refine lv_bipush (v := 75) hx hb dX9_expression_8 (by decide) ?_
  refine lv_icmp_le (tgt := 21) hx hb dX9_expression_10 (by decide) (fun c_10 => ?_) (fun c_10 => ?_)
  · have hok := hok.1 c_10
    refine lv_aload_n hx hb dX9_expression_21 rfl (lv_at hl 0 rfl) ?_
    refine lv_bipush (v := 7) hx hb dX9_expression_22 (by decide) ?_
    refine yVi (As := [.int 7]) (cw := (mW o u cI cZ cJ T ga)) (ci := 9) S (v_X9_draw l D cI cZ cJ o u T ra ga σ 7 _ H.size hok) mi_X9_draw kw_6_45 rfl rfl ⟨Nat.le_of_ble_eq_true rfl, Nat.le_of_ble_eq_true rfl⟩ hP hD hK hS hA hB mW_0 rfl rfl hl.1 (Nat.le_of_ble_eq_true rfl) ⟨Nat.le_of_ble_eq_true rfl, Nat.le_of_ble_eq_true rfl⟩ dX9_expression_24 (fun x2 σ1 H locs hok hz hP hD hS => ?_)
    by_cases k_27_0 : x2 = 0
    · have hok := hok.1 k_27_0
      rw [k_27_0]
      refine lv_tableIn (off := 25) (tgt := 52) hx hb dX9_expression_27 (by decide) (by decide) (by decide) (by decide) ?_
      refine lv_aload_n hx hb dX9_expression_52 rfl (lv_at hl 0 rfl) ?_
      refine lv_iconst (v := 0) hx hb dX9_expression_53 (by decide) ?_
      refine lv_aload_n hx hb dX9_expression_54 rfl (lv_at hl 0 rfl) ?_
      refine lv_bipush (v := 41) hx hb dX9_expression_55 (by decide) ?_
      refine yVi (As := [.int 41]) (cw := (mW o u cI cZ cJ T ga)) (ci := 9) S (v_X9_draw l D cI cZ cJ o u T ra ga σ1 41 _ H.size hok) mi_X9_draw kw_6_45 rfl rfl ⟨Nat.le_of_ble_eq_true rfl, Nat.le_of_ble_eq_true rfl⟩ hP hD hK hS hA hB mW_0 rfl rfl hl.1 (Nat.le_of_ble_eq_true rfl) ⟨Nat.le_of_ble_eq_true rfl, Nat.le_of_ble_eq_true rfl⟩ dX9_expression_57 (fun x4 σ3 H locs hok hz hP hD hS => ?_)
      refine lv_bipush (v := 20) hx hb dX9_expression_60 (by decide) ?_
      refine xisub (v := x4 - 20) S dX9_expression_62 rfl ?_
      refine lv_iconst (v := 0) hx hb dX9_expression_63 (by decide) ?_
      refine lv_iconst (v := 0) hx hb dX9_expression_64 (by decide) ?_
      refine yVi (As := [.int 0, .int (x4 - 20), .int 0, .int 0]) (cw := (mW o u cI cZ cJ T ga)) (ci := 9) S (v_X9_add l D cI cZ cJ o u T ra ga σ3 0 (x4 - 20) 0 0 _ H.size hok) mi_X9_add kw_6_116 rfl rfl ⟨Nat.le_of_ble_eq_true rfl, Nat.le_of_ble_eq_true rfl⟩ hP hD hK hS hA hB mW_0 rfl rfl hl.1 (Nat.le_of_ble_eq_true rfl) ⟨Nat.le_of_ble_eq_true rfl, Nat.le_of_ble_eq_true rfl⟩ dX9_expression_65 (fun x6 σ5 H locs hok hz hP hD hS => ?_)
      exact yEnd S hr hlocks hP hD hS (Nat.le_of_ble_eq_true rfl) (Nat.le_of_ble_eq_true rfl) dX9_expression_68 hok
    · have hok := hok.2 k_27_0
      by_cases k_27_1 : x2 = 1
      · have hok := hok.1 k_27_1
        rw [k_27_1]
        refine lv_tableIn (off := 42) (tgt := 69) hx hb dX9_expression_27 (by decide) (by decide) (by decide) (by decide) ?_
        refine lv_aload_n hx hb dX9_expression_69 rfl (lv_at hl 0 rfl) ?_
        refine lv_iconst (v := 4) hx hb dX9_expression_70 (by decide) ?_
        refine yVi (As := [.int 4]) (cw := (mW o u cI cZ cJ T ga)) (ci := 9) S (v_X9_draw l D cI cZ cJ o u T ra ga σ1 4 _ H.size hok) mi_X9_draw kw_6_45 rfl rfl ⟨Nat.le_of_ble_eq_true rfl, Nat.le_of_ble_eq_true rfl⟩ hP hD hK hS hA hB mW_0 rfl rfl hl.1 (Nat.le_of_ble_eq_true rfl) ⟨Nat.le_of_ble_eq_true rfl, Nat.le_of_ble_eq_true rfl⟩ dX9_expression_71 (fun x8 σ7 H locs hok hz hP hD hS => ?_)
        refine lv_istore_n (lv' := [(2, .int x8), (0, .ref (u 87)), (1, .int 1)]) hx hb dX9_expression_74 rfl hl (by decide) rfl (fun ls hl => ?_)
        refine lv_aload_n hx hb dX9_expression_75 rfl (lv_at hl 1 rfl) ?_
        refine lv_iconst (v := 1) hx hb dX9_expression_76 (by decide) ?_
        refine lv_iload_n hx hb dX9_expression_77 rfl (lv_at hl 0 rfl) ?_
        refine lv_iconst (v := 2) hx hb dX9_expression_78 (by decide) ?_
        refine lv_icmp_ne (tgt := 86) hx hb dX9_expression_79 (by decide) (fun c_79 => ?_) (fun c_79 => ?_)
        · have hok := hok.2 c_79
          refine lv_iload_n hx hb dX9_expression_86 rfl (lv_at hl 0 rfl) ?_
          refine lv_iconst (v := 0) hx hb dX9_expression_87 (by decide) ?_
          refine lv_iconst (v := 0) hx hb dX9_expression_88 (by decide) ?_
          refine yVi (As := [.int 1, .int x8, .int 0, .int 0]) (cw := (mW o u cI cZ cJ T ga)) (ci := 9) S (v_X9_add l D cI cZ cJ o u T ra ga σ7 1 x8 0 0 _ H.size hok) mi_X9_add kw_6_116 rfl rfl ⟨Nat.le_of_ble_eq_true rfl, Nat.le_of_ble_eq_true rfl⟩ hP hD hK hS hA hB mW_0 rfl rfl hl.1 (Nat.le_of_ble_eq_true rfl) ⟨Nat.le_of_ble_eq_true rfl, Nat.le_of_ble_eq_true rfl⟩ dX9_expression_89 (fun x10 σ9 H locs hok hz hP hD hS => ?_)
          exact yEnd S hr hlocks hP hD hS (Nat.le_of_ble_eq_true rfl) (Nat.le_of_ble_eq_true rfl) dX9_expression_92 hok
        · have hok := hok.1 c_79
          refine lv_iconst (v := 4) hx hb dX9_expression_82 (by decide) ?_
          refine lv_goto (tgt := 87) hx hb dX9_expression_83 (by decide) ?_
          refine lv_iconst (v := 0) hx hb dX9_expression_87 (by decide) ?_
          refine lv_iconst (v := 0) hx hb dX9_expression_88 (by decide) ?_
          refine yVi (As := [.int 1, .int 4, .int 0, .int 0]) (cw := (mW o u cI cZ cJ T ga)) (ci := 9) S (v_X9_add l D cI cZ cJ o u T ra ga σ7 1 4 0 0 _ H.size hok) mi_X9_add kw_6_116 rfl rfl ⟨Nat.le_of_ble_eq_true rfl, Nat.le_of_ble_eq_true rfl⟩ hP hD hK hS hA hB mW_0 rfl rfl hl.1 (Nat.le_of_ble_eq_true rfl) ⟨Nat.le_of_ble_eq_true rfl, Nat.le_of_ble_eq_true rfl⟩ dX9_expression_89 (fun x12 σ11 H locs hok hz hP hD hS => ?_)
          exact yEnd S hr hlocks hP hD hS (Nat.le_of_ble_eq_true rfl) (Nat.le_of_ble_eq_true rfl) dX9_expression_92 hok
      · have hok := hok.2 k_27_1
        by_cases k_27_2 : x2 = 2
        · have hok := hok.1 k_27_2
          rw [k_27_2]
          refine lv_tableIn (off := 66) (tgt := 93) hx hb dX9_expression_27 (by decide) (by decide) (by decide) (by decide) ?_
          refine lv_aload_n hx hb dX9_expression_93 rfl (lv_at hl 0 rfl) ?_
          refine lv_iconst (v := 2) hx hb dX9_expression_94 (by decide) ?_
          refine lv_iconst (v := 2) hx hb dX9_expression_95 (by decide) ?_
          refine lv_aload_n hx hb dX9_expression_96 rfl (lv_at hl 0 rfl) ?_
          refine lv_iconst (v := 3) hx hb dX9_expression_97 (by decide) ?_
          refine yVi (As := [.int 3]) (cw := (mW o u cI cZ cJ T ga)) (ci := 9) S (v_X9_draw l D cI cZ cJ o u T ra ga σ1 3 _ H.size hok) mi_X9_draw kw_6_45 rfl rfl ⟨Nat.le_of_ble_eq_true rfl, Nat.le_of_ble_eq_true rfl⟩ hP hD hK hS hA hB mW_0 rfl rfl hl.1 (Nat.le_of_ble_eq_true rfl) ⟨Nat.le_of_ble_eq_true rfl, Nat.le_of_ble_eq_true rfl⟩ dX9_expression_98 (fun x14 σ13 H locs hok hz hP hD hS => ?_)
          refine lv_if_ne (tgt := 114) hx hb dX9_expression_101 (by decide) (fun c_101 => ?_) (fun c_101 => ?_)
          · have hok := hok.2 c_101
            refine lv_aload_n hx hb dX9_expression_114 rfl (lv_at hl 0 rfl) ?_
            refine lv_iconst (v := 0) hx hb dX9_expression_115 (by decide) ?_
            refine lv_aload_n hx hb dX9_expression_116 rfl (lv_at hl 0 rfl) ?_
            refine lv_iconst (v := 4) hx hb dX9_expression_117 (by decide) ?_
            refine yVi (As := [.int 4]) (cw := (mW o u cI cZ cJ T ga)) (ci := 9) S (v_X9_draw l D cI cZ cJ o u T ra ga σ13 4 _ H.size hok) mi_X9_draw kw_6_45 rfl rfl ⟨Nat.le_of_ble_eq_true rfl, Nat.le_of_ble_eq_true rfl⟩ hP hD hK hS hA hB mW_0 rfl rfl hl.1 (Nat.le_of_ble_eq_true rfl) ⟨Nat.le_of_ble_eq_true rfl, Nat.le_of_ble_eq_true rfl⟩ dX9_expression_118 (fun x16 σ15 H locs hok hz hP hD hS => ?_)
            refine lv_iconst (v := 0) hx hb dX9_expression_121 (by decide) ?_
            refine lv_iconst (v := 0) hx hb dX9_expression_122 (by decide) ?_
            refine yVi (As := [.int 0, .int x16, .int 0, .int 0]) (cw := (mW o u cI cZ cJ T ga)) (ci := 9) S (v_X9_add l D cI cZ cJ o u T ra ga σ15 0 x16 0 0 _ H.size hok) mi_X9_add kw_6_116 rfl rfl ⟨Nat.le_of_ble_eq_true rfl, Nat.le_of_ble_eq_true rfl⟩ hP hD hK hS hA hB mW_0 rfl rfl hl.1 (Nat.le_of_ble_eq_true rfl) ⟨Nat.le_of_ble_eq_true rfl, Nat.le_of_ble_eq_true rfl⟩ dX9_expression_123 (fun x18 σ17 H locs hok hz hP hD hS => ?_)
            refine lv_iconst (v := 0) hx hb dX9_expression_126 (by decide) ?_
            refine yVi (As := [.int 2, .int 2, .int x18, .int 0]) (cw := (mW o u cI cZ cJ T ga)) (ci := 9) S (v_X9_add l D cI cZ cJ o u T ra ga σ17 2 2 x18 0 _ H.size hok) mi_X9_add kw_6_116 rfl rfl ⟨Nat.le_of_ble_eq_true rfl, Nat.le_of_ble_eq_true rfl⟩ hP hD hK hS hA hB mW_0 rfl rfl hl.1 (Nat.le_of_ble_eq_true rfl) ⟨Nat.le_of_ble_eq_true rfl, Nat.le_of_ble_eq_true rfl⟩ dX9_expression_127 (fun x20 σ19 H locs hok hz hP hD hS => ?_)
            exact yEnd S hr hlocks hP hD hS (Nat.le_of_ble_eq_true rfl) (Nat.le_of_ble_eq_true rfl) dX9_expression_130 hok
          · have hok := hok.1 c_101
            refine lv_aload_n hx hb dX9_expression_104 rfl (lv_at hl 0 rfl) ?_
            refine lv_iload_n hx hb dX9_expression_105 rfl (lv_at hl 1 rfl) ?_
            refine lv_iconst (v := 1) hx hb dX9_expression_106 (by decide) ?_
            refine xisub (v := 0) S dX9_expression_107 (by decide) ?_
            refine yVi (As := [.int 0]) (cw := (mW o u cI cZ cJ T ga)) (ci := 9) S (v_X9_expression_0 l D cI cZ cJ o u T ra ga σ13 _ H.size hok) mi_X9_expression kw_6_112 rfl rfl ⟨Nat.le_of_ble_eq_true rfl, Nat.le_of_ble_eq_true rfl⟩ hP hD hK hS hA hB mW_0 rfl rfl hl.1 (Nat.le_of_ble_eq_true rfl) ⟨Nat.le_of_ble_eq_true rfl, Nat.le_of_ble_eq_true rfl⟩ dX9_expression_108 (fun x22 σ21 H locs hok hz hP hD hS => ?_)
            refine lv_goto (tgt := 126) hx hb dX9_expression_111 (by decide) ?_
            refine lv_iconst (v := 0) hx hb dX9_expression_126 (by decide) ?_
            refine yVi (As := [.int 2, .int 2, .int x22, .int 0]) (cw := (mW o u cI cZ cJ T ga)) (ci := 9) S (v_X9_add l D cI cZ cJ o u T ra ga σ21 2 2 x22 0 _ H.size hok) mi_X9_add kw_6_116 rfl rfl ⟨Nat.le_of_ble_eq_true rfl, Nat.le_of_ble_eq_true rfl⟩ hP hD hK hS hA hB mW_0 rfl rfl hl.1 (Nat.le_of_ble_eq_true rfl) ⟨Nat.le_of_ble_eq_true rfl, Nat.le_of_ble_eq_true rfl⟩ dX9_expression_127 (fun x24 σ23 H locs hok hz hP hD hS => ?_)
            exact yEnd S hr hlocks hP hD hS (Nat.le_of_ble_eq_true rfl) (Nat.le_of_ble_eq_true rfl) dX9_expression_130 hok
        · have hok := hok.2 k_27_2
          have q_27_0 := sw_ni k_27_0 (z := 0) (by decide)
          have q_27_1 := sw_ni k_27_1 (z := 1) (by decide)
          have q_27_2 := sw_ni k_27_2 (z := 2) (by decide)
          refine lv_tableOut (tgt := 131) hx hb dX9_expression_27 (by omega) (by decide) ?_
          refine lv_aload_n hx hb dX9_expression_131 rfl (lv_at hl 0 rfl) ?_
          refine lv_iload_n hx hb dX9_expression_132 rfl (lv_at hl 1 rfl) ?_
          refine lv_iconst (v := 1) hx hb dX9_expression_133 (by decide) ?_
          refine xisub (v := 0) S dX9_expression_134 (by decide) ?_
          refine yVi (As := [.int 0]) (cw := (mW o u cI cZ cJ T ga)) (ci := 9) S (v_X9_expression_0 l D cI cZ cJ o u T ra ga σ1 _ H.size hok) mi_X9_expression kw_6_112 rfl rfl ⟨Nat.le_of_ble_eq_true rfl, Nat.le_of_ble_eq_true rfl⟩ hP hD hK hS hA hB mW_0 rfl rfl hl.1 (Nat.le_of_ble_eq_true rfl) ⟨Nat.le_of_ble_eq_true rfl, Nat.le_of_ble_eq_true rfl⟩ dX9_expression_135 (fun x26 σ25 H locs hok hz hP hD hS => ?_)
          refine lv_istore_n (lv' := [(3, .int x26), (0, .ref (u 87)), (1, .int 1)]) hx hb dX9_expression_138 rfl hl (by decide) rfl (fun ls hl => ?_)
          refine lv_aload_n hx hb dX9_expression_139 rfl (lv_at hl 1 rfl) ?_
          refine lv_iload_n hx hb dX9_expression_140 rfl (lv_at hl 2 rfl) ?_
          refine lv_iconst (v := 1) hx hb dX9_expression_141 (by decide) ?_
          refine xisub (v := 0) S dX9_expression_142 (by decide) ?_
          refine yVi (As := [.int 0]) (cw := (mW o u cI cZ cJ T ga)) (ci := 9) S (v_X9_expression_0 l D cI cZ cJ o u T ra ga σ25 _ H.size hok) mi_X9_expression kw_6_112 rfl rfl ⟨Nat.le_of_ble_eq_true rfl, Nat.le_of_ble_eq_true rfl⟩ hP hD hK hS hA hB mW_0 rfl rfl hl.1 (Nat.le_of_ble_eq_true rfl) ⟨Nat.le_of_ble_eq_true rfl, Nat.le_of_ble_eq_true rfl⟩ dX9_expression_143 (fun x28 σ27 H locs hok hz hP hD hS => ?_)
          refine lv_istore (lv' := [(4, .int x28), (3, .int x26), (0, .ref (u 87)), (1, .int 1)]) hx hb dX9_expression_146 hl (by decide) rfl (fun ls hl => ?_)
          refine lv_aload_n hx hb dX9_expression_148 rfl (lv_at hl 2 rfl) ?_
          refine lv_iconst (v := 3) hx hb dX9_expression_149 (by decide) ?_
          refine lv_aload_n hx hb dX9_expression_150 rfl (lv_at hl 2 rfl) ?_
          refine lv_iconst (v := 5) hx hb dX9_expression_151 (by decide) ?_
          refine yVi (As := [.int 5]) (cw := (mW o u cI cZ cJ T ga)) (ci := 9) S (v_X9_draw l D cI cZ cJ o u T ra ga σ27 5 _ H.size hok) mi_X9_draw kw_6_45 rfl rfl ⟨Nat.le_of_ble_eq_true rfl, Nat.le_of_ble_eq_true rfl⟩ hP hD hK hS hA hB mW_0 rfl rfl hl.1 (Nat.le_of_ble_eq_true rfl) ⟨Nat.le_of_ble_eq_true rfl, Nat.le_of_ble_eq_true rfl⟩ dX9_expression_152 (fun x30 σ29 H locs hok hz hP hD hS => ?_)
          refine xiadd (v := 3 + x30) S dX9_expression_155 rfl ?_
          refine lv_iconst (v := 0) hx hb dX9_expression_156 (by decide) ?_
          refine lv_iload_n hx hb dX9_expression_157 rfl (lv_at hl 1 rfl) ?_
          refine lv_iload hx hb dX9_expression_158 (lv_at hl 0 rfl) ?_
          refine yVi (As := [.int (3 + x30), .int 0, .int x26, .int x28]) (cw := (mW o u cI cZ cJ T ga)) (ci := 9) S (v_X9_add l D cI cZ cJ o u T ra ga σ29 (3 + x30) 0 x26 x28 _ H.size hok) mi_X9_add kw_6_116 rfl rfl ⟨Nat.le_of_ble_eq_true rfl, Nat.le_of_ble_eq_true rfl⟩ hP hD hK hS hA hB mW_0 rfl rfl hl.1 (Nat.le_of_ble_eq_true rfl) ⟨Nat.le_of_ble_eq_true rfl, Nat.le_of_ble_eq_true rfl⟩ dX9_expression_160 (fun x32 σ31 H locs hok hz hP hD hS => ?_)
          exact yEnd S hr hlocks hP hD hS (Nat.le_of_ble_eq_true rfl) (Nat.le_of_ble_eq_true rfl) dX9_expression_163 hok
  · have hok := hok.2 c_10
    refine lv_aload_n hx hb dX9_expression_13 rfl (lv_at hl 0 rfl) ?_
    refine lv_iconst (v := 2) hx hb dX9_expression_14 (by decide) ?_
    refine yVi (As := [.int 2]) (cw := (mW o u cI cZ cJ T ga)) (ci := 9) S (v_X9_draw l D cI cZ cJ o u T ra ga σ 2 _ H.size hok) mi_X9_draw kw_6_45 rfl rfl ⟨Nat.le_of_ble_eq_true rfl, Nat.le_of_ble_eq_true rfl⟩ hP hD hK hS hA hB mW_0 rfl rfl hl.1 (Nat.le_of_ble_eq_true rfl) ⟨Nat.le_of_ble_eq_true rfl, Nat.le_of_ble_eq_true rfl⟩ dX9_expression_15 (fun x34 σ33 H locs hok hz hP hD hS => ?_)
    refine lv_goto (tgt := 27) hx hb dX9_expression_18 (by decide) ?_
    by_cases k_27_0 : x34 = 0
    · have hok := hok.1 k_27_0
      rw [k_27_0]
      refine lv_tableIn (off := 25) (tgt := 52) hx hb dX9_expression_27 (by decide) (by decide) (by decide) (by decide) ?_
      refine lv_aload_n hx hb dX9_expression_52 rfl (lv_at hl 0 rfl) ?_
      refine lv_iconst (v := 0) hx hb dX9_expression_53 (by decide) ?_
      refine lv_aload_n hx hb dX9_expression_54 rfl (lv_at hl 0 rfl) ?_
      refine lv_bipush (v := 41) hx hb dX9_expression_55 (by decide) ?_
      refine yVi (As := [.int 41]) (cw := (mW o u cI cZ cJ T ga)) (ci := 9) S (v_X9_draw l D cI cZ cJ o u T ra ga σ33 41 _ H.size hok) mi_X9_draw kw_6_45 rfl rfl ⟨Nat.le_of_ble_eq_true rfl, Nat.le_of_ble_eq_true rfl⟩ hP hD hK hS hA hB mW_0 rfl rfl hl.1 (Nat.le_of_ble_eq_true rfl) ⟨Nat.le_of_ble_eq_true rfl, Nat.le_of_ble_eq_true rfl⟩ dX9_expression_57 (fun x36 σ35 H locs hok hz hP hD hS => ?_)
      refine lv_bipush (v := 20) hx hb dX9_expression_60 (by decide) ?_
      refine xisub (v := x36 - 20) S dX9_expression_62 rfl ?_
      refine lv_iconst (v := 0) hx hb dX9_expression_63 (by decide) ?_
      refine lv_iconst (v := 0) hx hb dX9_expression_64 (by decide) ?_
      refine yVi (As := [.int 0, .int (x36 - 20), .int 0, .int 0]) (cw := (mW o u cI cZ cJ T ga)) (ci := 9) S (v_X9_add l D cI cZ cJ o u T ra ga σ35 0 (x36 - 20) 0 0 _ H.size hok) mi_X9_add kw_6_116 rfl rfl ⟨Nat.le_of_ble_eq_true rfl, Nat.le_of_ble_eq_true rfl⟩ hP hD hK hS hA hB mW_0 rfl rfl hl.1 (Nat.le_of_ble_eq_true rfl) ⟨Nat.le_of_ble_eq_true rfl, Nat.le_of_ble_eq_true rfl⟩ dX9_expression_65 (fun x38 σ37 H locs hok hz hP hD hS => ?_)
      exact yEnd S hr hlocks hP hD hS (Nat.le_of_ble_eq_true rfl) (Nat.le_of_ble_eq_true rfl) dX9_expression_68 hok
    · have hok := hok.2 k_27_0
      by_cases k_27_1 : x34 = 1
      · have hok := hok.1 k_27_1
        rw [k_27_1]
        refine lv_tableIn (off := 42) (tgt := 69) hx hb dX9_expression_27 (by decide) (by decide) (by decide) (by decide) ?_
        refine lv_aload_n hx hb dX9_expression_69 rfl (lv_at hl 0 rfl) ?_
        refine lv_iconst (v := 4) hx hb dX9_expression_70 (by decide) ?_
        refine yVi (As := [.int 4]) (cw := (mW o u cI cZ cJ T ga)) (ci := 9) S (v_X9_draw l D cI cZ cJ o u T ra ga σ33 4 _ H.size hok) mi_X9_draw kw_6_45 rfl rfl ⟨Nat.le_of_ble_eq_true rfl, Nat.le_of_ble_eq_true rfl⟩ hP hD hK hS hA hB mW_0 rfl rfl hl.1 (Nat.le_of_ble_eq_true rfl) ⟨Nat.le_of_ble_eq_true rfl, Nat.le_of_ble_eq_true rfl⟩ dX9_expression_71 (fun x40 σ39 H locs hok hz hP hD hS => ?_)
        refine lv_istore_n (lv' := [(2, .int x40), (0, .ref (u 87)), (1, .int 1)]) hx hb dX9_expression_74 rfl hl (by decide) rfl (fun ls hl => ?_)
        refine lv_aload_n hx hb dX9_expression_75 rfl (lv_at hl 1 rfl) ?_
        refine lv_iconst (v := 1) hx hb dX9_expression_76 (by decide) ?_
        refine lv_iload_n hx hb dX9_expression_77 rfl (lv_at hl 0 rfl) ?_
        refine lv_iconst (v := 2) hx hb dX9_expression_78 (by decide) ?_
        refine lv_icmp_ne (tgt := 86) hx hb dX9_expression_79 (by decide) (fun c_79 => ?_) (fun c_79 => ?_)
        · have hok := hok.2 c_79
          refine lv_iload_n hx hb dX9_expression_86 rfl (lv_at hl 0 rfl) ?_
          refine lv_iconst (v := 0) hx hb dX9_expression_87 (by decide) ?_
          refine lv_iconst (v := 0) hx hb dX9_expression_88 (by decide) ?_
          refine yVi (As := [.int 1, .int x40, .int 0, .int 0]) (cw := (mW o u cI cZ cJ T ga)) (ci := 9) S (v_X9_add l D cI cZ cJ o u T ra ga σ39 1 x40 0 0 _ H.size hok) mi_X9_add kw_6_116 rfl rfl ⟨Nat.le_of_ble_eq_true rfl, Nat.le_of_ble_eq_true rfl⟩ hP hD hK hS hA hB mW_0 rfl rfl hl.1 (Nat.le_of_ble_eq_true rfl) ⟨Nat.le_of_ble_eq_true rfl, Nat.le_of_ble_eq_true rfl⟩ dX9_expression_89 (fun x42 σ41 H locs hok hz hP hD hS => ?_)
          exact yEnd S hr hlocks hP hD hS (Nat.le_of_ble_eq_true rfl) (Nat.le_of_ble_eq_true rfl) dX9_expression_92 hok
        · have hok := hok.1 c_79
          refine lv_iconst (v := 4) hx hb dX9_expression_82 (by decide) ?_
          refine lv_goto (tgt := 87) hx hb dX9_expression_83 (by decide) ?_
          refine lv_iconst (v := 0) hx hb dX9_expression_87 (by decide) ?_
          refine lv_iconst (v := 0) hx hb dX9_expression_88 (by decide) ?_
          refine yVi (As := [.int 1, .int 4, .int 0, .int 0]) (cw := (mW o u cI cZ cJ T ga)) (ci := 9) S (v_X9_add l D cI cZ cJ o u T ra ga σ39 1 4 0 0 _ H.size hok) mi_X9_add kw_6_116 rfl rfl ⟨Nat.le_of_ble_eq_true rfl, Nat.le_of_ble_eq_true rfl⟩ hP hD hK hS hA hB mW_0 rfl rfl hl.1 (Nat.le_of_ble_eq_true rfl) ⟨Nat.le_of_ble_eq_true rfl, Nat.le_of_ble_eq_true rfl⟩ dX9_expression_89 (fun x44 σ43 H locs hok hz hP hD hS => ?_)
          exact yEnd S hr hlocks hP hD hS (Nat.le_of_ble_eq_true rfl) (Nat.le_of_ble_eq_true rfl) dX9_expression_92 hok
      · have hok := hok.2 k_27_1
        by_cases k_27_2 : x34 = 2
        · have hok := hok.1 k_27_2
          rw [k_27_2]
          refine lv_tableIn (off := 66) (tgt := 93) hx hb dX9_expression_27 (by decide) (by decide) (by decide) (by decide) ?_
          refine lv_aload_n hx hb dX9_expression_93 rfl (lv_at hl 0 rfl) ?_
          refine lv_iconst (v := 2) hx hb dX9_expression_94 (by decide) ?_
          refine lv_iconst (v := 2) hx hb dX9_expression_95 (by decide) ?_
          refine lv_aload_n hx hb dX9_expression_96 rfl (lv_at hl 0 rfl) ?_
          refine lv_iconst (v := 3) hx hb dX9_expression_97 (by decide) ?_
          refine yVi (As := [.int 3]) (cw := (mW o u cI cZ cJ T ga)) (ci := 9) S (v_X9_draw l D cI cZ cJ o u T ra ga σ33 3 _ H.size hok) mi_X9_draw kw_6_45 rfl rfl ⟨Nat.le_of_ble_eq_true rfl, Nat.le_of_ble_eq_true rfl⟩ hP hD hK hS hA hB mW_0 rfl rfl hl.1 (Nat.le_of_ble_eq_true rfl) ⟨Nat.le_of_ble_eq_true rfl, Nat.le_of_ble_eq_true rfl⟩ dX9_expression_98 (fun x46 σ45 H locs hok hz hP hD hS => ?_)
          refine lv_if_ne (tgt := 114) hx hb dX9_expression_101 (by decide) (fun c_101 => ?_) (fun c_101 => ?_)
          · have hok := hok.2 c_101
            refine lv_aload_n hx hb dX9_expression_114 rfl (lv_at hl 0 rfl) ?_
            refine lv_iconst (v := 0) hx hb dX9_expression_115 (by decide) ?_
            refine lv_aload_n hx hb dX9_expression_116 rfl (lv_at hl 0 rfl) ?_
            refine lv_iconst (v := 4) hx hb dX9_expression_117 (by decide) ?_
            refine yVi (As := [.int 4]) (cw := (mW o u cI cZ cJ T ga)) (ci := 9) S (v_X9_draw l D cI cZ cJ o u T ra ga σ45 4 _ H.size hok) mi_X9_draw kw_6_45 rfl rfl ⟨Nat.le_of_ble_eq_true rfl, Nat.le_of_ble_eq_true rfl⟩ hP hD hK hS hA hB mW_0 rfl rfl hl.1 (Nat.le_of_ble_eq_true rfl) ⟨Nat.le_of_ble_eq_true rfl, Nat.le_of_ble_eq_true rfl⟩ dX9_expression_118 (fun x48 σ47 H locs hok hz hP hD hS => ?_)
            refine lv_iconst (v := 0) hx hb dX9_expression_121 (by decide) ?_
            refine lv_iconst (v := 0) hx hb dX9_expression_122 (by decide) ?_
            refine yVi (As := [.int 0, .int x48, .int 0, .int 0]) (cw := (mW o u cI cZ cJ T ga)) (ci := 9) S (v_X9_add l D cI cZ cJ o u T ra ga σ47 0 x48 0 0 _ H.size hok) mi_X9_add kw_6_116 rfl rfl ⟨Nat.le_of_ble_eq_true rfl, Nat.le_of_ble_eq_true rfl⟩ hP hD hK hS hA hB mW_0 rfl rfl hl.1 (Nat.le_of_ble_eq_true rfl) ⟨Nat.le_of_ble_eq_true rfl, Nat.le_of_ble_eq_true rfl⟩ dX9_expression_123 (fun x50 σ49 H locs hok hz hP hD hS => ?_)
            refine lv_iconst (v := 0) hx hb dX9_expression_126 (by decide) ?_
            refine yVi (As := [.int 2, .int 2, .int x50, .int 0]) (cw := (mW o u cI cZ cJ T ga)) (ci := 9) S (v_X9_add l D cI cZ cJ o u T ra ga σ49 2 2 x50 0 _ H.size hok) mi_X9_add kw_6_116 rfl rfl ⟨Nat.le_of_ble_eq_true rfl, Nat.le_of_ble_eq_true rfl⟩ hP hD hK hS hA hB mW_0 rfl rfl hl.1 (Nat.le_of_ble_eq_true rfl) ⟨Nat.le_of_ble_eq_true rfl, Nat.le_of_ble_eq_true rfl⟩ dX9_expression_127 (fun x52 σ51 H locs hok hz hP hD hS => ?_)
            exact yEnd S hr hlocks hP hD hS (Nat.le_of_ble_eq_true rfl) (Nat.le_of_ble_eq_true rfl) dX9_expression_130 hok
          · have hok := hok.1 c_101
            refine lv_aload_n hx hb dX9_expression_104 rfl (lv_at hl 0 rfl) ?_
            refine lv_iload_n hx hb dX9_expression_105 rfl (lv_at hl 1 rfl) ?_
            refine lv_iconst (v := 1) hx hb dX9_expression_106 (by decide) ?_
            refine xisub (v := 0) S dX9_expression_107 (by decide) ?_
            refine yVi (As := [.int 0]) (cw := (mW o u cI cZ cJ T ga)) (ci := 9) S (v_X9_expression_0 l D cI cZ cJ o u T ra ga σ45 _ H.size hok) mi_X9_expression kw_6_112 rfl rfl ⟨Nat.le_of_ble_eq_true rfl, Nat.le_of_ble_eq_true rfl⟩ hP hD hK hS hA hB mW_0 rfl rfl hl.1 (Nat.le_of_ble_eq_true rfl) ⟨Nat.le_of_ble_eq_true rfl, Nat.le_of_ble_eq_true rfl⟩ dX9_expression_108 (fun x54 σ53 H locs hok hz hP hD hS => ?_)
            refine lv_goto (tgt := 126) hx hb dX9_expression_111 (by decide) ?_
            refine lv_iconst (v := 0) hx hb dX9_expression_126 (by decide) ?_
            refine yVi (As := [.int 2, .int 2, .int x54, .int 0]) (cw := (mW o u cI cZ cJ T ga)) (ci := 9) S (v_X9_add l D cI cZ cJ o u T ra ga σ53 2 2 x54 0 _ H.size hok) mi_X9_add kw_6_116 rfl rfl ⟨Nat.le_of_ble_eq_true rfl, Nat.le_of_ble_eq_true rfl⟩ hP hD hK hS hA hB mW_0 rfl rfl hl.1 (Nat.le_of_ble_eq_true rfl) ⟨Nat.le_of_ble_eq_true rfl, Nat.le_of_ble_eq_true rfl⟩ dX9_expression_127 (fun x56 σ55 H locs hok hz hP hD hS => ?_)
            exact yEnd S hr hlocks hP hD hS (Nat.le_of_ble_eq_true rfl) (Nat.le_of_ble_eq_true rfl) dX9_expression_130 hok
        · have hok := hok.2 k_27_2
          have q_27_0 := sw_ni k_27_0 (z := 0) (by decide)
          have q_27_1 := sw_ni k_27_1 (z := 1) (by decide)
          have q_27_2 := sw_ni k_27_2 (z := 2) (by decide)
          refine lv_tableOut (tgt := 131) hx hb dX9_expression_27 (by omega) (by decide) ?_
          refine lv_aload_n hx hb dX9_expression_131 rfl (lv_at hl 0 rfl) ?_
          refine lv_iload_n hx hb dX9_expression_132 rfl (lv_at hl 1 rfl) ?_
          refine lv_iconst (v := 1) hx hb dX9_expression_133 (by decide) ?_
          refine xisub (v := 0) S dX9_expression_134 (by decide) ?_
          refine yVi (As := [.int 0]) (cw := (mW o u cI cZ cJ T ga)) (ci := 9) S (v_X9_expression_0 l D cI cZ cJ o u T ra ga σ33 _ H.size hok) mi_X9_expression kw_6_112 rfl rfl ⟨Nat.le_of_ble_eq_true rfl, Nat.le_of_ble_eq_true rfl⟩ hP hD hK hS hA hB mW_0 rfl rfl hl.1 (Nat.le_of_ble_eq_true rfl) ⟨Nat.le_of_ble_eq_true rfl, Nat.le_of_ble_eq_true rfl⟩ dX9_expression_135 (fun x58 σ57 H locs hok hz hP hD hS => ?_)
          refine lv_istore_n (lv' := [(3, .int x58), (0, .ref (u 87)), (1, .int 1)]) hx hb dX9_expression_138 rfl hl (by decide) rfl (fun ls hl => ?_)
          refine lv_aload_n hx hb dX9_expression_139 rfl (lv_at hl 1 rfl) ?_
          refine lv_iload_n hx hb dX9_expression_140 rfl (lv_at hl 2 rfl) ?_
          refine lv_iconst (v := 1) hx hb dX9_expression_141 (by decide) ?_
          refine xisub (v := 0) S dX9_expression_142 (by decide) ?_
          refine yVi (As := [.int 0]) (cw := (mW o u cI cZ cJ T ga)) (ci := 9) S (v_X9_expression_0 l D cI cZ cJ o u T ra ga σ57 _ H.size hok) mi_X9_expression kw_6_112 rfl rfl ⟨Nat.le_of_ble_eq_true rfl, Nat.le_of_ble_eq_true rfl⟩ hP hD hK hS hA hB mW_0 rfl rfl hl.1 (Nat.le_of_ble_eq_true rfl) ⟨Nat.le_of_ble_eq_true rfl, Nat.le_of_ble_eq_true rfl⟩ dX9_expression_143 (fun x60 σ59 H locs hok hz hP hD hS => ?_)
          refine lv_istore (lv' := [(4, .int x60), (3, .int x58), (0, .ref (u 87)), (1, .int 1)]) hx hb dX9_expression_146 hl (by decide) rfl (fun ls hl => ?_)
          refine lv_aload_n hx hb dX9_expression_148 rfl (lv_at hl 2 rfl) ?_
          refine lv_iconst (v := 3) hx hb dX9_expression_149 (by decide) ?_
          refine lv_aload_n hx hb dX9_expression_150 rfl (lv_at hl 2 rfl) ?_
          refine lv_iconst (v := 5) hx hb dX9_expression_151 (by decide) ?_
          refine yVi (As := [.int 5]) (cw := (mW o u cI cZ cJ T ga)) (ci := 9) S (v_X9_draw l D cI cZ cJ o u T ra ga σ59 5 _ H.size hok) mi_X9_draw kw_6_45 rfl rfl ⟨Nat.le_of_ble_eq_true rfl, Nat.le_of_ble_eq_true rfl⟩ hP hD hK hS hA hB mW_0 rfl rfl hl.1 (Nat.le_of_ble_eq_true rfl) ⟨Nat.le_of_ble_eq_true rfl, Nat.le_of_ble_eq_true rfl⟩ dX9_expression_152 (fun x62 σ61 H locs hok hz hP hD hS => ?_)
          refine xiadd (v := 3 + x62) S dX9_expression_155 rfl ?_
          refine lv_iconst (v := 0) hx hb dX9_expression_156 (by decide) ?_
          refine lv_iload_n hx hb dX9_expression_157 rfl (lv_at hl 1 rfl) ?_
          refine lv_iload hx hb dX9_expression_158 (lv_at hl 0 rfl) ?_
          refine yVi (As := [.int (3 + x62), .int 0, .int x58, .int x60]) (cw := (mW o u cI cZ cJ T ga)) (ci := 9) S (v_X9_add l D cI cZ cJ o u T ra ga σ61 (3 + x62) 0 x58 x60 _ H.size hok) mi_X9_add kw_6_116 rfl rfl ⟨Nat.le_of_ble_eq_true rfl, Nat.le_of_ble_eq_true rfl⟩ hP hD hK hS hA hB mW_0 rfl rfl hl.1 (Nat.le_of_ble_eq_true rfl) ⟨Nat.le_of_ble_eq_true rfl, Nat.le_of_ble_eq_true rfl⟩ dX9_expression_160 (fun x64 σ63 H locs hok hz hP hD hS => ?_)
          exact yEnd S hr hlocks hP hD hS (Nat.le_of_ble_eq_true rfl) (Nat.le_of_ble_eq_true rfl) dX9_expression_163 hok

set_option maxHeartbeats 8000000 in
set_option maxRecDepth 100000 in
theorem v_X9_expression_2 (l : Launch) (D : va_G) (cI cZ cJ : ClassId) (o : Nat) (u : Nat → Nat) (T : Nat) (ra : Nat → Nat) (ga : SG) (σ : FS) (Φ : Int32 → FS → Prop) (sz : Nat) (hok : (wp_X9_expression_2 ga σ Φ)) : Met l yX9_expression (uW yX9_expression cX9_expression 5 (some .int)) ({ frames := 8, cells := 11, slots := 44, locals := 186 }) (va_Pc [.ref (u 87), .int 2] (aS ra ga D (tyL cI cZ cJ) (mW o u cI cZ cJ T ga σ) sz)) (yQi Φ D (mW o u cI cZ cJ T ga) (va_A (mW o u cI cZ cJ T ga σ) sz)) 11 44 (va_A (mW o u cI cZ cJ T ga σ) sz) := by
  refine aStart (lv := [(0, .ref (u 87)), (1, .int 2)]) (Qc := fun A => yQi Φ D (mW o u cI cZ cJ T ga) A) (by decide) (Nat.le_of_ble_eq_true rfl) rfl ?_
  intro p e s m args below meth c ls A H S hr hlocks hnm hl hK hP hD hS hA hB
  have hx := S.1
  have hb := S.2.1
  refine lv_iload_n hx hb dX9_expression_0 rfl (lv_at hl 1 rfl) ?_
  refine lv_if_eq (tgt := 13) hx hb dX9_expression_1 (by decide) (fun c => absurd c (by decide)) (fun _ => ?_)
  refine lv_aload_n hx hb dX9_expression_4 rfl (lv_at hl 0 rfl) ?_
  refine xg (ci := 9) S inX9 rfl hK hP mW_0 3 (by decide) rfl kw_5_233 rfl dX9_expression_5 ?_
  refine lv_bipush (v := 75) hx hb dX9_expression_8 (by decide) ?_
  refine lv_icmp_le (tgt := 21) hx hb dX9_expression_10 (by decide) (fun c_10 => ?_) (fun c_10 => ?_)
  · have hok := hok.1 c_10
    refine lv_aload_n hx hb dX9_expression_21 rfl (lv_at hl 0 rfl) ?_
    refine lv_bipush (v := 7) hx hb dX9_expression_22 (by decide) ?_
    refine yVi (As := [.int 7]) (cw := (mW o u cI cZ cJ T ga)) (ci := 9) S (v_X9_draw l D cI cZ cJ o u T ra ga σ 7 _ H.size hok) mi_X9_draw kw_6_45 rfl rfl ⟨Nat.le_of_ble_eq_true rfl, Nat.le_of_ble_eq_true rfl⟩ hP hD hK hS hA hB mW_0 rfl rfl hl.1 (Nat.le_of_ble_eq_true rfl) ⟨Nat.le_of_ble_eq_true rfl, Nat.le_of_ble_eq_true rfl⟩ dX9_expression_24 (fun x2 σ1 H locs hok hz hP hD hS => ?_)
    by_cases k_27_0 : x2 = 0
    · have hok := hok.1 k_27_0
      rw [k_27_0]
      refine lv_tableIn (off := 25) (tgt := 52) hx hb dX9_expression_27 (by decide) (by decide) (by decide) (by decide) ?_
      refine lv_aload_n hx hb dX9_expression_52 rfl (lv_at hl 0 rfl) ?_
      refine lv_iconst (v := 0) hx hb dX9_expression_53 (by decide) ?_
      refine lv_aload_n hx hb dX9_expression_54 rfl (lv_at hl 0 rfl) ?_
      refine lv_bipush (v := 41) hx hb dX9_expression_55 (by decide) ?_
      refine yVi (As := [.int 41]) (cw := (mW o u cI cZ cJ T ga)) (ci := 9) S (v_X9_draw l D cI cZ cJ o u T ra ga σ1 41 _ H.size hok) mi_X9_draw kw_6_45 rfl rfl ⟨Nat.le_of_ble_eq_true rfl, Nat.le_of_ble_eq_true rfl⟩ hP hD hK hS hA hB mW_0 rfl rfl hl.1 (Nat.le_of_ble_eq_true rfl) ⟨Nat.le_of_ble_eq_true rfl, Nat.le_of_ble_eq_true rfl⟩ dX9_expression_57 (fun x4 σ3 H locs hok hz hP hD hS => ?_)
      refine lv_bipush (v := 20) hx hb dX9_expression_60 (by decide) ?_
      refine xisub (v := x4 - 20) S dX9_expression_62 rfl ?_
      refine lv_iconst (v := 0) hx hb dX9_expression_63 (by decide) ?_
      refine lv_iconst (v := 0) hx hb dX9_expression_64 (by decide) ?_
      refine yVi (As := [.int 0, .int (x4 - 20), .int 0, .int 0]) (cw := (mW o u cI cZ cJ T ga)) (ci := 9) S (v_X9_add l D cI cZ cJ o u T ra ga σ3 0 (x4 - 20) 0 0 _ H.size hok) mi_X9_add kw_6_116 rfl rfl ⟨Nat.le_of_ble_eq_true rfl, Nat.le_of_ble_eq_true rfl⟩ hP hD hK hS hA hB mW_0 rfl rfl hl.1 (Nat.le_of_ble_eq_true rfl) ⟨Nat.le_of_ble_eq_true rfl, Nat.le_of_ble_eq_true rfl⟩ dX9_expression_65 (fun x6 σ5 H locs hok hz hP hD hS => ?_)
      exact yEnd S hr hlocks hP hD hS (Nat.le_of_ble_eq_true rfl) (Nat.le_of_ble_eq_true rfl) dX9_expression_68 hok
    · have hok := hok.2 k_27_0
      by_cases k_27_1 : x2 = 1
      · have hok := hok.1 k_27_1
        rw [k_27_1]
        refine lv_tableIn (off := 42) (tgt := 69) hx hb dX9_expression_27 (by decide) (by decide) (by decide) (by decide) ?_
        refine lv_aload_n hx hb dX9_expression_69 rfl (lv_at hl 0 rfl) ?_
        refine lv_iconst (v := 4) hx hb dX9_expression_70 (by decide) ?_
        refine yVi (As := [.int 4]) (cw := (mW o u cI cZ cJ T ga)) (ci := 9) S (v_X9_draw l D cI cZ cJ o u T ra ga σ1 4 _ H.size hok) mi_X9_draw kw_6_45 rfl rfl ⟨Nat.le_of_ble_eq_true rfl, Nat.le_of_ble_eq_true rfl⟩ hP hD hK hS hA hB mW_0 rfl rfl hl.1 (Nat.le_of_ble_eq_true rfl) ⟨Nat.le_of_ble_eq_true rfl, Nat.le_of_ble_eq_true rfl⟩ dX9_expression_71 (fun x8 σ7 H locs hok hz hP hD hS => ?_)
        refine lv_istore_n (lv' := [(2, .int x8), (0, .ref (u 87)), (1, .int 2)]) hx hb dX9_expression_74 rfl hl (by decide) rfl (fun ls hl => ?_)
        refine lv_aload_n hx hb dX9_expression_75 rfl (lv_at hl 1 rfl) ?_
        refine lv_iconst (v := 1) hx hb dX9_expression_76 (by decide) ?_
        refine lv_iload_n hx hb dX9_expression_77 rfl (lv_at hl 0 rfl) ?_
        refine lv_iconst (v := 2) hx hb dX9_expression_78 (by decide) ?_
        refine lv_icmp_ne (tgt := 86) hx hb dX9_expression_79 (by decide) (fun c_79 => ?_) (fun c_79 => ?_)
        · have hok := hok.2 c_79
          refine lv_iload_n hx hb dX9_expression_86 rfl (lv_at hl 0 rfl) ?_
          refine lv_iconst (v := 0) hx hb dX9_expression_87 (by decide) ?_
          refine lv_iconst (v := 0) hx hb dX9_expression_88 (by decide) ?_
          refine yVi (As := [.int 1, .int x8, .int 0, .int 0]) (cw := (mW o u cI cZ cJ T ga)) (ci := 9) S (v_X9_add l D cI cZ cJ o u T ra ga σ7 1 x8 0 0 _ H.size hok) mi_X9_add kw_6_116 rfl rfl ⟨Nat.le_of_ble_eq_true rfl, Nat.le_of_ble_eq_true rfl⟩ hP hD hK hS hA hB mW_0 rfl rfl hl.1 (Nat.le_of_ble_eq_true rfl) ⟨Nat.le_of_ble_eq_true rfl, Nat.le_of_ble_eq_true rfl⟩ dX9_expression_89 (fun x10 σ9 H locs hok hz hP hD hS => ?_)
          exact yEnd S hr hlocks hP hD hS (Nat.le_of_ble_eq_true rfl) (Nat.le_of_ble_eq_true rfl) dX9_expression_92 hok
        · have hok := hok.1 c_79
          refine lv_iconst (v := 4) hx hb dX9_expression_82 (by decide) ?_
          refine lv_goto (tgt := 87) hx hb dX9_expression_83 (by decide) ?_
          refine lv_iconst (v := 0) hx hb dX9_expression_87 (by decide) ?_
          refine lv_iconst (v := 0) hx hb dX9_expression_88 (by decide) ?_
          refine yVi (As := [.int 1, .int 4, .int 0, .int 0]) (cw := (mW o u cI cZ cJ T ga)) (ci := 9) S (v_X9_add l D cI cZ cJ o u T ra ga σ7 1 4 0 0 _ H.size hok) mi_X9_add kw_6_116 rfl rfl ⟨Nat.le_of_ble_eq_true rfl, Nat.le_of_ble_eq_true rfl⟩ hP hD hK hS hA hB mW_0 rfl rfl hl.1 (Nat.le_of_ble_eq_true rfl) ⟨Nat.le_of_ble_eq_true rfl, Nat.le_of_ble_eq_true rfl⟩ dX9_expression_89 (fun x12 σ11 H locs hok hz hP hD hS => ?_)
          exact yEnd S hr hlocks hP hD hS (Nat.le_of_ble_eq_true rfl) (Nat.le_of_ble_eq_true rfl) dX9_expression_92 hok
      · have hok := hok.2 k_27_1
        by_cases k_27_2 : x2 = 2
        · have hok := hok.1 k_27_2
          rw [k_27_2]
          refine lv_tableIn (off := 66) (tgt := 93) hx hb dX9_expression_27 (by decide) (by decide) (by decide) (by decide) ?_
          refine lv_aload_n hx hb dX9_expression_93 rfl (lv_at hl 0 rfl) ?_
          refine lv_iconst (v := 2) hx hb dX9_expression_94 (by decide) ?_
          refine lv_iconst (v := 2) hx hb dX9_expression_95 (by decide) ?_
          refine lv_aload_n hx hb dX9_expression_96 rfl (lv_at hl 0 rfl) ?_
          refine lv_iconst (v := 3) hx hb dX9_expression_97 (by decide) ?_
          refine yVi (As := [.int 3]) (cw := (mW o u cI cZ cJ T ga)) (ci := 9) S (v_X9_draw l D cI cZ cJ o u T ra ga σ1 3 _ H.size hok) mi_X9_draw kw_6_45 rfl rfl ⟨Nat.le_of_ble_eq_true rfl, Nat.le_of_ble_eq_true rfl⟩ hP hD hK hS hA hB mW_0 rfl rfl hl.1 (Nat.le_of_ble_eq_true rfl) ⟨Nat.le_of_ble_eq_true rfl, Nat.le_of_ble_eq_true rfl⟩ dX9_expression_98 (fun x14 σ13 H locs hok hz hP hD hS => ?_)
          refine lv_if_ne (tgt := 114) hx hb dX9_expression_101 (by decide) (fun c_101 => ?_) (fun c_101 => ?_)
          · have hok := hok.2 c_101
            refine lv_aload_n hx hb dX9_expression_114 rfl (lv_at hl 0 rfl) ?_
            refine lv_iconst (v := 0) hx hb dX9_expression_115 (by decide) ?_
            refine lv_aload_n hx hb dX9_expression_116 rfl (lv_at hl 0 rfl) ?_
            refine lv_iconst (v := 4) hx hb dX9_expression_117 (by decide) ?_
            refine yVi (As := [.int 4]) (cw := (mW o u cI cZ cJ T ga)) (ci := 9) S (v_X9_draw l D cI cZ cJ o u T ra ga σ13 4 _ H.size hok) mi_X9_draw kw_6_45 rfl rfl ⟨Nat.le_of_ble_eq_true rfl, Nat.le_of_ble_eq_true rfl⟩ hP hD hK hS hA hB mW_0 rfl rfl hl.1 (Nat.le_of_ble_eq_true rfl) ⟨Nat.le_of_ble_eq_true rfl, Nat.le_of_ble_eq_true rfl⟩ dX9_expression_118 (fun x16 σ15 H locs hok hz hP hD hS => ?_)
            refine lv_iconst (v := 0) hx hb dX9_expression_121 (by decide) ?_
            refine lv_iconst (v := 0) hx hb dX9_expression_122 (by decide) ?_
            refine yVi (As := [.int 0, .int x16, .int 0, .int 0]) (cw := (mW o u cI cZ cJ T ga)) (ci := 9) S (v_X9_add l D cI cZ cJ o u T ra ga σ15 0 x16 0 0 _ H.size hok) mi_X9_add kw_6_116 rfl rfl ⟨Nat.le_of_ble_eq_true rfl, Nat.le_of_ble_eq_true rfl⟩ hP hD hK hS hA hB mW_0 rfl rfl hl.1 (Nat.le_of_ble_eq_true rfl) ⟨Nat.le_of_ble_eq_true rfl, Nat.le_of_ble_eq_true rfl⟩ dX9_expression_123 (fun x18 σ17 H locs hok hz hP hD hS => ?_)
            refine lv_iconst (v := 0) hx hb dX9_expression_126 (by decide) ?_
            refine yVi (As := [.int 2, .int 2, .int x18, .int 0]) (cw := (mW o u cI cZ cJ T ga)) (ci := 9) S (v_X9_add l D cI cZ cJ o u T ra ga σ17 2 2 x18 0 _ H.size hok) mi_X9_add kw_6_116 rfl rfl ⟨Nat.le_of_ble_eq_true rfl, Nat.le_of_ble_eq_true rfl⟩ hP hD hK hS hA hB mW_0 rfl rfl hl.1 (Nat.le_of_ble_eq_true rfl) ⟨Nat.le_of_ble_eq_true rfl, Nat.le_of_ble_eq_true rfl⟩ dX9_expression_127 (fun x20 σ19 H locs hok hz hP hD hS => ?_)
            exact yEnd S hr hlocks hP hD hS (Nat.le_of_ble_eq_true rfl) (Nat.le_of_ble_eq_true rfl) dX9_expression_130 hok
          · have hok := hok.1 c_101
            refine lv_aload_n hx hb dX9_expression_104 rfl (lv_at hl 0 rfl) ?_
            refine lv_iload_n hx hb dX9_expression_105 rfl (lv_at hl 1 rfl) ?_
            refine lv_iconst (v := 1) hx hb dX9_expression_106 (by decide) ?_
            refine xisub (v := 1) S dX9_expression_107 (by decide) ?_
            refine yVi (As := [.int 1]) (cw := (mW o u cI cZ cJ T ga)) (ci := 9) S (v_X9_expression_1 l D cI cZ cJ o u T ra ga σ13 _ H.size hok) mi_X9_expression kw_6_112 rfl rfl ⟨Nat.le_of_ble_eq_true rfl, Nat.le_of_ble_eq_true rfl⟩ hP hD hK hS hA hB mW_0 rfl rfl hl.1 (Nat.le_of_ble_eq_true rfl) ⟨Nat.le_of_ble_eq_true rfl, Nat.le_of_ble_eq_true rfl⟩ dX9_expression_108 (fun x22 σ21 H locs hok hz hP hD hS => ?_)
            refine lv_goto (tgt := 126) hx hb dX9_expression_111 (by decide) ?_
            refine lv_iconst (v := 0) hx hb dX9_expression_126 (by decide) ?_
            refine yVi (As := [.int 2, .int 2, .int x22, .int 0]) (cw := (mW o u cI cZ cJ T ga)) (ci := 9) S (v_X9_add l D cI cZ cJ o u T ra ga σ21 2 2 x22 0 _ H.size hok) mi_X9_add kw_6_116 rfl rfl ⟨Nat.le_of_ble_eq_true rfl, Nat.le_of_ble_eq_true rfl⟩ hP hD hK hS hA hB mW_0 rfl rfl hl.1 (Nat.le_of_ble_eq_true rfl) ⟨Nat.le_of_ble_eq_true rfl, Nat.le_of_ble_eq_true rfl⟩ dX9_expression_127 (fun x24 σ23 H locs hok hz hP hD hS => ?_)
            exact yEnd S hr hlocks hP hD hS (Nat.le_of_ble_eq_true rfl) (Nat.le_of_ble_eq_true rfl) dX9_expression_130 hok
        · have hok := hok.2 k_27_2
          have q_27_0 := sw_ni k_27_0 (z := 0) (by decide)
          have q_27_1 := sw_ni k_27_1 (z := 1) (by decide)
          have q_27_2 := sw_ni k_27_2 (z := 2) (by decide)
          refine lv_tableOut (tgt := 131) hx hb dX9_expression_27 (by omega) (by decide) ?_
          refine lv_aload_n hx hb dX9_expression_131 rfl (lv_at hl 0 rfl) ?_
          refine lv_iload_n hx hb dX9_expression_132 rfl (lv_at hl 1 rfl) ?_
          refine lv_iconst (v := 1) hx hb dX9_expression_133 (by decide) ?_
          refine xisub (v := 1) S dX9_expression_134 (by decide) ?_
          refine yVi (As := [.int 1]) (cw := (mW o u cI cZ cJ T ga)) (ci := 9) S (v_X9_expression_1 l D cI cZ cJ o u T ra ga σ1 _ H.size hok) mi_X9_expression kw_6_112 rfl rfl ⟨Nat.le_of_ble_eq_true rfl, Nat.le_of_ble_eq_true rfl⟩ hP hD hK hS hA hB mW_0 rfl rfl hl.1 (Nat.le_of_ble_eq_true rfl) ⟨Nat.le_of_ble_eq_true rfl, Nat.le_of_ble_eq_true rfl⟩ dX9_expression_135 (fun x26 σ25 H locs hok hz hP hD hS => ?_)
          refine lv_istore_n (lv' := [(3, .int x26), (0, .ref (u 87)), (1, .int 2)]) hx hb dX9_expression_138 rfl hl (by decide) rfl (fun ls hl => ?_)
          refine lv_aload_n hx hb dX9_expression_139 rfl (lv_at hl 1 rfl) ?_
          refine lv_iload_n hx hb dX9_expression_140 rfl (lv_at hl 2 rfl) ?_
          refine lv_iconst (v := 1) hx hb dX9_expression_141 (by decide) ?_
          refine xisub (v := 1) S dX9_expression_142 (by decide) ?_
          refine yVi (As := [.int 1]) (cw := (mW o u cI cZ cJ T ga)) (ci := 9) S (v_X9_expression_1 l D cI cZ cJ o u T ra ga σ25 _ H.size hok) mi_X9_expression kw_6_112 rfl rfl ⟨Nat.le_of_ble_eq_true rfl, Nat.le_of_ble_eq_true rfl⟩ hP hD hK hS hA hB mW_0 rfl rfl hl.1 (Nat.le_of_ble_eq_true rfl) ⟨Nat.le_of_ble_eq_true rfl, Nat.le_of_ble_eq_true rfl⟩ dX9_expression_143 (fun x28 σ27 H locs hok hz hP hD hS => ?_)
          refine lv_istore (lv' := [(4, .int x28), (3, .int x26), (0, .ref (u 87)), (1, .int 2)]) hx hb dX9_expression_146 hl (by decide) rfl (fun ls hl => ?_)
          refine lv_aload_n hx hb dX9_expression_148 rfl (lv_at hl 2 rfl) ?_
          refine lv_iconst (v := 3) hx hb dX9_expression_149 (by decide) ?_
          refine lv_aload_n hx hb dX9_expression_150 rfl (lv_at hl 2 rfl) ?_
          refine lv_iconst (v := 5) hx hb dX9_expression_151 (by decide) ?_
          refine yVi (As := [.int 5]) (cw := (mW o u cI cZ cJ T ga)) (ci := 9) S (v_X9_draw l D cI cZ cJ o u T ra ga σ27 5 _ H.size hok) mi_X9_draw kw_6_45 rfl rfl ⟨Nat.le_of_ble_eq_true rfl, Nat.le_of_ble_eq_true rfl⟩ hP hD hK hS hA hB mW_0 rfl rfl hl.1 (Nat.le_of_ble_eq_true rfl) ⟨Nat.le_of_ble_eq_true rfl, Nat.le_of_ble_eq_true rfl⟩ dX9_expression_152 (fun x30 σ29 H locs hok hz hP hD hS => ?_)
          refine xiadd (v := 3 + x30) S dX9_expression_155 rfl ?_
          refine lv_iconst (v := 0) hx hb dX9_expression_156 (by decide) ?_
          refine lv_iload_n hx hb dX9_expression_157 rfl (lv_at hl 1 rfl) ?_
          refine lv_iload hx hb dX9_expression_158 (lv_at hl 0 rfl) ?_
          refine yVi (As := [.int (3 + x30), .int 0, .int x26, .int x28]) (cw := (mW o u cI cZ cJ T ga)) (ci := 9) S (v_X9_add l D cI cZ cJ o u T ra ga σ29 (3 + x30) 0 x26 x28 _ H.size hok) mi_X9_add kw_6_116 rfl rfl ⟨Nat.le_of_ble_eq_true rfl, Nat.le_of_ble_eq_true rfl⟩ hP hD hK hS hA hB mW_0 rfl rfl hl.1 (Nat.le_of_ble_eq_true rfl) ⟨Nat.le_of_ble_eq_true rfl, Nat.le_of_ble_eq_true rfl⟩ dX9_expression_160 (fun x32 σ31 H locs hok hz hP hD hS => ?_)
          exact yEnd S hr hlocks hP hD hS (Nat.le_of_ble_eq_true rfl) (Nat.le_of_ble_eq_true rfl) dX9_expression_163 hok
  · have hok := hok.2 c_10
    refine lv_aload_n hx hb dX9_expression_13 rfl (lv_at hl 0 rfl) ?_
    refine lv_iconst (v := 2) hx hb dX9_expression_14 (by decide) ?_
    refine yVi (As := [.int 2]) (cw := (mW o u cI cZ cJ T ga)) (ci := 9) S (v_X9_draw l D cI cZ cJ o u T ra ga σ 2 _ H.size hok) mi_X9_draw kw_6_45 rfl rfl ⟨Nat.le_of_ble_eq_true rfl, Nat.le_of_ble_eq_true rfl⟩ hP hD hK hS hA hB mW_0 rfl rfl hl.1 (Nat.le_of_ble_eq_true rfl) ⟨Nat.le_of_ble_eq_true rfl, Nat.le_of_ble_eq_true rfl⟩ dX9_expression_15 (fun x34 σ33 H locs hok hz hP hD hS => ?_)
    refine lv_goto (tgt := 27) hx hb dX9_expression_18 (by decide) ?_
    by_cases k_27_0 : x34 = 0
    · have hok := hok.1 k_27_0
      rw [k_27_0]
      refine lv_tableIn (off := 25) (tgt := 52) hx hb dX9_expression_27 (by decide) (by decide) (by decide) (by decide) ?_
      refine lv_aload_n hx hb dX9_expression_52 rfl (lv_at hl 0 rfl) ?_
      refine lv_iconst (v := 0) hx hb dX9_expression_53 (by decide) ?_
      refine lv_aload_n hx hb dX9_expression_54 rfl (lv_at hl 0 rfl) ?_
      refine lv_bipush (v := 41) hx hb dX9_expression_55 (by decide) ?_
      refine yVi (As := [.int 41]) (cw := (mW o u cI cZ cJ T ga)) (ci := 9) S (v_X9_draw l D cI cZ cJ o u T ra ga σ33 41 _ H.size hok) mi_X9_draw kw_6_45 rfl rfl ⟨Nat.le_of_ble_eq_true rfl, Nat.le_of_ble_eq_true rfl⟩ hP hD hK hS hA hB mW_0 rfl rfl hl.1 (Nat.le_of_ble_eq_true rfl) ⟨Nat.le_of_ble_eq_true rfl, Nat.le_of_ble_eq_true rfl⟩ dX9_expression_57 (fun x36 σ35 H locs hok hz hP hD hS => ?_)
      refine lv_bipush (v := 20) hx hb dX9_expression_60 (by decide) ?_
      refine xisub (v := x36 - 20) S dX9_expression_62 rfl ?_
      refine lv_iconst (v := 0) hx hb dX9_expression_63 (by decide) ?_
      refine lv_iconst (v := 0) hx hb dX9_expression_64 (by decide) ?_
      refine yVi (As := [.int 0, .int (x36 - 20), .int 0, .int 0]) (cw := (mW o u cI cZ cJ T ga)) (ci := 9) S (v_X9_add l D cI cZ cJ o u T ra ga σ35 0 (x36 - 20) 0 0 _ H.size hok) mi_X9_add kw_6_116 rfl rfl ⟨Nat.le_of_ble_eq_true rfl, Nat.le_of_ble_eq_true rfl⟩ hP hD hK hS hA hB mW_0 rfl rfl hl.1 (Nat.le_of_ble_eq_true rfl) ⟨Nat.le_of_ble_eq_true rfl, Nat.le_of_ble_eq_true rfl⟩ dX9_expression_65 (fun x38 σ37 H locs hok hz hP hD hS => ?_)
      exact yEnd S hr hlocks hP hD hS (Nat.le_of_ble_eq_true rfl) (Nat.le_of_ble_eq_true rfl) dX9_expression_68 hok
    · have hok := hok.2 k_27_0
      by_cases k_27_1 : x34 = 1
      · have hok := hok.1 k_27_1
        rw [k_27_1]
        refine lv_tableIn (off := 42) (tgt := 69) hx hb dX9_expression_27 (by decide) (by decide) (by decide) (by decide) ?_
        refine lv_aload_n hx hb dX9_expression_69 rfl (lv_at hl 0 rfl) ?_
        refine lv_iconst (v := 4) hx hb dX9_expression_70 (by decide) ?_
        refine yVi (As := [.int 4]) (cw := (mW o u cI cZ cJ T ga)) (ci := 9) S (v_X9_draw l D cI cZ cJ o u T ra ga σ33 4 _ H.size hok) mi_X9_draw kw_6_45 rfl rfl ⟨Nat.le_of_ble_eq_true rfl, Nat.le_of_ble_eq_true rfl⟩ hP hD hK hS hA hB mW_0 rfl rfl hl.1 (Nat.le_of_ble_eq_true rfl) ⟨Nat.le_of_ble_eq_true rfl, Nat.le_of_ble_eq_true rfl⟩ dX9_expression_71 (fun x40 σ39 H locs hok hz hP hD hS => ?_)
        refine lv_istore_n (lv' := [(2, .int x40), (0, .ref (u 87)), (1, .int 2)]) hx hb dX9_expression_74 rfl hl (by decide) rfl (fun ls hl => ?_)
        refine lv_aload_n hx hb dX9_expression_75 rfl (lv_at hl 1 rfl) ?_
        refine lv_iconst (v := 1) hx hb dX9_expression_76 (by decide) ?_
        refine lv_iload_n hx hb dX9_expression_77 rfl (lv_at hl 0 rfl) ?_
        refine lv_iconst (v := 2) hx hb dX9_expression_78 (by decide) ?_
        refine lv_icmp_ne (tgt := 86) hx hb dX9_expression_79 (by decide) (fun c_79 => ?_) (fun c_79 => ?_)
        · have hok := hok.2 c_79
          refine lv_iload_n hx hb dX9_expression_86 rfl (lv_at hl 0 rfl) ?_
          refine lv_iconst (v := 0) hx hb dX9_expression_87 (by decide) ?_
          refine lv_iconst (v := 0) hx hb dX9_expression_88 (by decide) ?_
          refine yVi (As := [.int 1, .int x40, .int 0, .int 0]) (cw := (mW o u cI cZ cJ T ga)) (ci := 9) S (v_X9_add l D cI cZ cJ o u T ra ga σ39 1 x40 0 0 _ H.size hok) mi_X9_add kw_6_116 rfl rfl ⟨Nat.le_of_ble_eq_true rfl, Nat.le_of_ble_eq_true rfl⟩ hP hD hK hS hA hB mW_0 rfl rfl hl.1 (Nat.le_of_ble_eq_true rfl) ⟨Nat.le_of_ble_eq_true rfl, Nat.le_of_ble_eq_true rfl⟩ dX9_expression_89 (fun x42 σ41 H locs hok hz hP hD hS => ?_)
          exact yEnd S hr hlocks hP hD hS (Nat.le_of_ble_eq_true rfl) (Nat.le_of_ble_eq_true rfl) dX9_expression_92 hok
        · have hok := hok.1 c_79
          refine lv_iconst (v := 4) hx hb dX9_expression_82 (by decide) ?_
          refine lv_goto (tgt := 87) hx hb dX9_expression_83 (by decide) ?_
          refine lv_iconst (v := 0) hx hb dX9_expression_87 (by decide) ?_
          refine lv_iconst (v := 0) hx hb dX9_expression_88 (by decide) ?_
          refine yVi (As := [.int 1, .int 4, .int 0, .int 0]) (cw := (mW o u cI cZ cJ T ga)) (ci := 9) S (v_X9_add l D cI cZ cJ o u T ra ga σ39 1 4 0 0 _ H.size hok) mi_X9_add kw_6_116 rfl rfl ⟨Nat.le_of_ble_eq_true rfl, Nat.le_of_ble_eq_true rfl⟩ hP hD hK hS hA hB mW_0 rfl rfl hl.1 (Nat.le_of_ble_eq_true rfl) ⟨Nat.le_of_ble_eq_true rfl, Nat.le_of_ble_eq_true rfl⟩ dX9_expression_89 (fun x44 σ43 H locs hok hz hP hD hS => ?_)
          exact yEnd S hr hlocks hP hD hS (Nat.le_of_ble_eq_true rfl) (Nat.le_of_ble_eq_true rfl) dX9_expression_92 hok
      · have hok := hok.2 k_27_1
        by_cases k_27_2 : x34 = 2
        · have hok := hok.1 k_27_2
          rw [k_27_2]
          refine lv_tableIn (off := 66) (tgt := 93) hx hb dX9_expression_27 (by decide) (by decide) (by decide) (by decide) ?_
          refine lv_aload_n hx hb dX9_expression_93 rfl (lv_at hl 0 rfl) ?_
          refine lv_iconst (v := 2) hx hb dX9_expression_94 (by decide) ?_
          refine lv_iconst (v := 2) hx hb dX9_expression_95 (by decide) ?_
          refine lv_aload_n hx hb dX9_expression_96 rfl (lv_at hl 0 rfl) ?_
          refine lv_iconst (v := 3) hx hb dX9_expression_97 (by decide) ?_
          refine yVi (As := [.int 3]) (cw := (mW o u cI cZ cJ T ga)) (ci := 9) S (v_X9_draw l D cI cZ cJ o u T ra ga σ33 3 _ H.size hok) mi_X9_draw kw_6_45 rfl rfl ⟨Nat.le_of_ble_eq_true rfl, Nat.le_of_ble_eq_true rfl⟩ hP hD hK hS hA hB mW_0 rfl rfl hl.1 (Nat.le_of_ble_eq_true rfl) ⟨Nat.le_of_ble_eq_true rfl, Nat.le_of_ble_eq_true rfl⟩ dX9_expression_98 (fun x46 σ45 H locs hok hz hP hD hS => ?_)
          refine lv_if_ne (tgt := 114) hx hb dX9_expression_101 (by decide) (fun c_101 => ?_) (fun c_101 => ?_)
          · have hok := hok.2 c_101
            refine lv_aload_n hx hb dX9_expression_114 rfl (lv_at hl 0 rfl) ?_
            refine lv_iconst (v := 0) hx hb dX9_expression_115 (by decide) ?_
            refine lv_aload_n hx hb dX9_expression_116 rfl (lv_at hl 0 rfl) ?_
            refine lv_iconst (v := 4) hx hb dX9_expression_117 (by decide) ?_
            refine yVi (As := [.int 4]) (cw := (mW o u cI cZ cJ T ga)) (ci := 9) S (v_X9_draw l D cI cZ cJ o u T ra ga σ45 4 _ H.size hok) mi_X9_draw kw_6_45 rfl rfl ⟨Nat.le_of_ble_eq_true rfl, Nat.le_of_ble_eq_true rfl⟩ hP hD hK hS hA hB mW_0 rfl rfl hl.1 (Nat.le_of_ble_eq_true rfl) ⟨Nat.le_of_ble_eq_true rfl, Nat.le_of_ble_eq_true rfl⟩ dX9_expression_118 (fun x48 σ47 H locs hok hz hP hD hS => ?_)
            refine lv_iconst (v := 0) hx hb dX9_expression_121 (by decide) ?_
            refine lv_iconst (v := 0) hx hb dX9_expression_122 (by decide) ?_
            refine yVi (As := [.int 0, .int x48, .int 0, .int 0]) (cw := (mW o u cI cZ cJ T ga)) (ci := 9) S (v_X9_add l D cI cZ cJ o u T ra ga σ47 0 x48 0 0 _ H.size hok) mi_X9_add kw_6_116 rfl rfl ⟨Nat.le_of_ble_eq_true rfl, Nat.le_of_ble_eq_true rfl⟩ hP hD hK hS hA hB mW_0 rfl rfl hl.1 (Nat.le_of_ble_eq_true rfl) ⟨Nat.le_of_ble_eq_true rfl, Nat.le_of_ble_eq_true rfl⟩ dX9_expression_123 (fun x50 σ49 H locs hok hz hP hD hS => ?_)
            refine lv_iconst (v := 0) hx hb dX9_expression_126 (by decide) ?_
            refine yVi (As := [.int 2, .int 2, .int x50, .int 0]) (cw := (mW o u cI cZ cJ T ga)) (ci := 9) S (v_X9_add l D cI cZ cJ o u T ra ga σ49 2 2 x50 0 _ H.size hok) mi_X9_add kw_6_116 rfl rfl ⟨Nat.le_of_ble_eq_true rfl, Nat.le_of_ble_eq_true rfl⟩ hP hD hK hS hA hB mW_0 rfl rfl hl.1 (Nat.le_of_ble_eq_true rfl) ⟨Nat.le_of_ble_eq_true rfl, Nat.le_of_ble_eq_true rfl⟩ dX9_expression_127 (fun x52 σ51 H locs hok hz hP hD hS => ?_)
            exact yEnd S hr hlocks hP hD hS (Nat.le_of_ble_eq_true rfl) (Nat.le_of_ble_eq_true rfl) dX9_expression_130 hok
          · have hok := hok.1 c_101
            refine lv_aload_n hx hb dX9_expression_104 rfl (lv_at hl 0 rfl) ?_
            refine lv_iload_n hx hb dX9_expression_105 rfl (lv_at hl 1 rfl) ?_
            refine lv_iconst (v := 1) hx hb dX9_expression_106 (by decide) ?_
            refine xisub (v := 1) S dX9_expression_107 (by decide) ?_
            refine yVi (As := [.int 1]) (cw := (mW o u cI cZ cJ T ga)) (ci := 9) S (v_X9_expression_1 l D cI cZ cJ o u T ra ga σ45 _ H.size hok) mi_X9_expression kw_6_112 rfl rfl ⟨Nat.le_of_ble_eq_true rfl, Nat.le_of_ble_eq_true rfl⟩ hP hD hK hS hA hB mW_0 rfl rfl hl.1 (Nat.le_of_ble_eq_true rfl) ⟨Nat.le_of_ble_eq_true rfl, Nat.le_of_ble_eq_true rfl⟩ dX9_expression_108 (fun x54 σ53 H locs hok hz hP hD hS => ?_)
            refine lv_goto (tgt := 126) hx hb dX9_expression_111 (by decide) ?_
            refine lv_iconst (v := 0) hx hb dX9_expression_126 (by decide) ?_
            refine yVi (As := [.int 2, .int 2, .int x54, .int 0]) (cw := (mW o u cI cZ cJ T ga)) (ci := 9) S (v_X9_add l D cI cZ cJ o u T ra ga σ53 2 2 x54 0 _ H.size hok) mi_X9_add kw_6_116 rfl rfl ⟨Nat.le_of_ble_eq_true rfl, Nat.le_of_ble_eq_true rfl⟩ hP hD hK hS hA hB mW_0 rfl rfl hl.1 (Nat.le_of_ble_eq_true rfl) ⟨Nat.le_of_ble_eq_true rfl, Nat.le_of_ble_eq_true rfl⟩ dX9_expression_127 (fun x56 σ55 H locs hok hz hP hD hS => ?_)
            exact yEnd S hr hlocks hP hD hS (Nat.le_of_ble_eq_true rfl) (Nat.le_of_ble_eq_true rfl) dX9_expression_130 hok
        · have hok := hok.2 k_27_2
          have q_27_0 := sw_ni k_27_0 (z := 0) (by decide)
          have q_27_1 := sw_ni k_27_1 (z := 1) (by decide)
          have q_27_2 := sw_ni k_27_2 (z := 2) (by decide)
          refine lv_tableOut (tgt := 131) hx hb dX9_expression_27 (by omega) (by decide) ?_
          refine lv_aload_n hx hb dX9_expression_131 rfl (lv_at hl 0 rfl) ?_
          refine lv_iload_n hx hb dX9_expression_132 rfl (lv_at hl 1 rfl) ?_
          refine lv_iconst (v := 1) hx hb dX9_expression_133 (by decide) ?_
          refine xisub (v := 1) S dX9_expression_134 (by decide) ?_
          refine yVi (As := [.int 1]) (cw := (mW o u cI cZ cJ T ga)) (ci := 9) S (v_X9_expression_1 l D cI cZ cJ o u T ra ga σ33 _ H.size hok) mi_X9_expression kw_6_112 rfl rfl ⟨Nat.le_of_ble_eq_true rfl, Nat.le_of_ble_eq_true rfl⟩ hP hD hK hS hA hB mW_0 rfl rfl hl.1 (Nat.le_of_ble_eq_true rfl) ⟨Nat.le_of_ble_eq_true rfl, Nat.le_of_ble_eq_true rfl⟩ dX9_expression_135 (fun x58 σ57 H locs hok hz hP hD hS => ?_)
          refine lv_istore_n (lv' := [(3, .int x58), (0, .ref (u 87)), (1, .int 2)]) hx hb dX9_expression_138 rfl hl (by decide) rfl (fun ls hl => ?_)
          refine lv_aload_n hx hb dX9_expression_139 rfl (lv_at hl 1 rfl) ?_
          refine lv_iload_n hx hb dX9_expression_140 rfl (lv_at hl 2 rfl) ?_
          refine lv_iconst (v := 1) hx hb dX9_expression_141 (by decide) ?_
          refine xisub (v := 1) S dX9_expression_142 (by decide) ?_
          refine yVi (As := [.int 1]) (cw := (mW o u cI cZ cJ T ga)) (ci := 9) S (v_X9_expression_1 l D cI cZ cJ o u T ra ga σ57 _ H.size hok) mi_X9_expression kw_6_112 rfl rfl ⟨Nat.le_of_ble_eq_true rfl, Nat.le_of_ble_eq_true rfl⟩ hP hD hK hS hA hB mW_0 rfl rfl hl.1 (Nat.le_of_ble_eq_true rfl) ⟨Nat.le_of_ble_eq_true rfl, Nat.le_of_ble_eq_true rfl⟩ dX9_expression_143 (fun x60 σ59 H locs hok hz hP hD hS => ?_)
          refine lv_istore (lv' := [(4, .int x60), (3, .int x58), (0, .ref (u 87)), (1, .int 2)]) hx hb dX9_expression_146 hl (by decide) rfl (fun ls hl => ?_)
          refine lv_aload_n hx hb dX9_expression_148 rfl (lv_at hl 2 rfl) ?_
          refine lv_iconst (v := 3) hx hb dX9_expression_149 (by decide) ?_
          refine lv_aload_n hx hb dX9_expression_150 rfl (lv_at hl 2 rfl) ?_
          refine lv_iconst (v := 5) hx hb dX9_expression_151 (by decide) ?_
          refine yVi (As := [.int 5]) (cw := (mW o u cI cZ cJ T ga)) (ci := 9) S (v_X9_draw l D cI cZ cJ o u T ra ga σ59 5 _ H.size hok) mi_X9_draw kw_6_45 rfl rfl ⟨Nat.le_of_ble_eq_true rfl, Nat.le_of_ble_eq_true rfl⟩ hP hD hK hS hA hB mW_0 rfl rfl hl.1 (Nat.le_of_ble_eq_true rfl) ⟨Nat.le_of_ble_eq_true rfl, Nat.le_of_ble_eq_true rfl⟩ dX9_expression_152 (fun x62 σ61 H locs hok hz hP hD hS => ?_)
          refine xiadd (v := 3 + x62) S dX9_expression_155 rfl ?_
          refine lv_iconst (v := 0) hx hb dX9_expression_156 (by decide) ?_
          refine lv_iload_n hx hb dX9_expression_157 rfl (lv_at hl 1 rfl) ?_
          refine lv_iload hx hb dX9_expression_158 (lv_at hl 0 rfl) ?_
          refine yVi (As := [.int (3 + x62), .int 0, .int x58, .int x60]) (cw := (mW o u cI cZ cJ T ga)) (ci := 9) S (v_X9_add l D cI cZ cJ o u T ra ga σ61 (3 + x62) 0 x58 x60 _ H.size hok) mi_X9_add kw_6_116 rfl rfl ⟨Nat.le_of_ble_eq_true rfl, Nat.le_of_ble_eq_true rfl⟩ hP hD hK hS hA hB mW_0 rfl rfl hl.1 (Nat.le_of_ble_eq_true rfl) ⟨Nat.le_of_ble_eq_true rfl, Nat.le_of_ble_eq_true rfl⟩ dX9_expression_160 (fun x64 σ63 H locs hok hz hP hD hS => ?_)
          exact yEnd S hr hlocks hP hD hS (Nat.le_of_ble_eq_true rfl) (Nat.le_of_ble_eq_true rfl) dX9_expression_163 hok

set_option maxHeartbeats 8000000 in
set_option maxRecDepth 100000 in
theorem v_X9_statement_0 (l : Launch) (D : va_G) (cI cZ cJ : ClassId) (o : Nat) (u : Nat → Nat) (T : Nat) (ra : Nat → Nat) (ga : SG) (σ : FS) (Φ : Int32 → FS → Prop) (sz : Nat) (hok : (wp_X9_statement_0 ga σ Φ)) : Met l yX9_statement (uW yX9_statement cX9_statement 6 (some .int)) ({ frames := 9, cells := 12, slots := 48, locals := 210 }) (va_Pc [.ref (u 87), .int 0] (aS ra ga D (tyL cI cZ cJ) (mW o u cI cZ cJ T ga σ) sz)) (yQi Φ D (mW o u cI cZ cJ T ga) (va_A (mW o u cI cZ cJ T ga σ) sz)) 12 48 (va_A (mW o u cI cZ cJ T ga σ) sz) := by
  refine aStart (lv := [(0, .ref (u 87)), (1, .int 0)]) (Qc := fun A => yQi Φ D (mW o u cI cZ cJ T ga) A) (by decide) (Nat.le_of_ble_eq_true rfl) rfl ?_
  intro p e s m args below meth c ls A H S hr hlocks hnm hl hK hP hD hS hA hB
  have hx := S.1
  have hb := S.2.1
  refine lv_iload_n hx hb dX9_statement_0 rfl (lv_at hl 1 rfl) ?_
  refine lv_if_eq (tgt := 13) hx hb dX9_statement_1 (by decide) (fun _ => ?_) (fun c => absurd c (by decide))
  refine lv_aload_n hx hb dX9_statement_13 rfl (lv_at hl 0 rfl) ?_
  refine lv_iconst (v := 3) hx hb dX9_statement_14 (by decide) ?_
  refine yVi (As := [.int 3]) (cw := (mW o u cI cZ cJ T ga)) (ci := 9) S (v_X9_draw l D cI cZ cJ o u T ra ga σ 3 _ H.size hok) mi_X9_draw kw_6_45 rfl rfl ⟨Nat.le_of_ble_eq_true rfl, Nat.le_of_ble_eq_true rfl⟩ hP hD hK hS hA hB mW_0 rfl rfl hl.1 (Nat.le_of_ble_eq_true rfl) ⟨Nat.le_of_ble_eq_true rfl, Nat.le_of_ble_eq_true rfl⟩ dX9_statement_15 (fun x2 σ1 H locs hok hz hP hD hS => ?_)
  refine lv_goto (tgt := 27) hx hb dX9_statement_18 (by decide) ?_
  by_cases k_27_0 : x2 = 0
  · have hok := hok.1 k_27_0
    rw [k_27_0]
    refine lv_tableIn (off := 33) (tgt := 60) hx hb dX9_statement_27 (by decide) (by decide) (by decide) (by decide) ?_
    refine lv_aload_n hx hb dX9_statement_60 rfl (lv_at hl 0 rfl) ?_
    refine lv_bipush (v := 13) hx hb dX9_statement_61 (by decide) ?_
    refine lv_aload_n hx hb dX9_statement_63 rfl (lv_at hl 0 rfl) ?_
    refine lv_iconst (v := 2) hx hb dX9_statement_64 (by decide) ?_
    refine yVi (As := [.int 2]) (cw := (mW o u cI cZ cJ T ga)) (ci := 9) S (v_X9_draw l D cI cZ cJ o u T ra ga σ1 2 _ H.size hok) mi_X9_draw kw_6_45 rfl rfl ⟨Nat.le_of_ble_eq_true rfl, Nat.le_of_ble_eq_true rfl⟩ hP hD hK hS hA hB mW_0 rfl rfl hl.1 (Nat.le_of_ble_eq_true rfl) ⟨Nat.le_of_ble_eq_true rfl, Nat.le_of_ble_eq_true rfl⟩ dX9_statement_65 (fun x4 σ3 H locs hok hz hP hD hS => ?_)
    refine lv_aload_n hx hb dX9_statement_68 rfl (lv_at hl 0 rfl) ?_
    refine lv_iconst (v := 2) hx hb dX9_statement_69 (by decide) ?_
    refine yVi (As := [.int 2]) (cw := (mW o u cI cZ cJ T ga)) (ci := 9) S (v_X9_expression_2 l D cI cZ cJ o u T ra ga σ3 _ H.size hok) mi_X9_expression kw_6_112 rfl rfl ⟨Nat.le_of_ble_eq_true rfl, Nat.le_of_ble_eq_true rfl⟩ hP hD hK hS hA hB mW_0 rfl rfl hl.1 (Nat.le_of_ble_eq_true rfl) ⟨Nat.le_of_ble_eq_true rfl, Nat.le_of_ble_eq_true rfl⟩ dX9_statement_70 (fun x6 σ5 H locs hok hz hP hD hS => ?_)
    refine lv_iconst (v := 0) hx hb dX9_statement_73 (by decide) ?_
    refine yVi (As := [.int 13, .int x4, .int x6, .int 0]) (cw := (mW o u cI cZ cJ T ga)) (ci := 9) S (v_X9_add l D cI cZ cJ o u T ra ga σ5 13 x4 x6 0 _ H.size hok) mi_X9_add kw_6_116 rfl rfl ⟨Nat.le_of_ble_eq_true rfl, Nat.le_of_ble_eq_true rfl⟩ hP hD hK hS hA hB mW_0 rfl rfl hl.1 (Nat.le_of_ble_eq_true rfl) ⟨Nat.le_of_ble_eq_true rfl, Nat.le_of_ble_eq_true rfl⟩ dX9_statement_74 (fun x8 σ7 H locs hok hz hP hD hS => ?_)
    exact yEnd S hr hlocks hP hD hS (Nat.le_of_ble_eq_true rfl) (Nat.le_of_ble_eq_true rfl) dX9_statement_77 hok
  · have hok := hok.2 k_27_0
    by_cases k_27_1 : x2 = 1
    · have hok := hok.1 k_27_1
      rw [k_27_1]
      refine lv_tableIn (off := 51) (tgt := 78) hx hb dX9_statement_27 (by decide) (by decide) (by decide) (by decide) ?_
      refine lv_aload_n hx hb dX9_statement_78 rfl (lv_at hl 0 rfl) ?_
      refine lv_bipush (v := 19) hx hb dX9_statement_79 (by decide) ?_
      refine lv_iconst (v := 0) hx hb dX9_statement_81 (by decide) ?_
      refine lv_aload_n hx hb dX9_statement_82 rfl (lv_at hl 0 rfl) ?_
      refine lv_iconst (v := 2) hx hb dX9_statement_83 (by decide) ?_
      refine yVi (As := [.int 2]) (cw := (mW o u cI cZ cJ T ga)) (ci := 9) S (v_X9_expression_2 l D cI cZ cJ o u T ra ga σ1 _ H.size hok) mi_X9_expression kw_6_112 rfl rfl ⟨Nat.le_of_ble_eq_true rfl, Nat.le_of_ble_eq_true rfl⟩ hP hD hK hS hA hB mW_0 rfl rfl hl.1 (Nat.le_of_ble_eq_true rfl) ⟨Nat.le_of_ble_eq_true rfl, Nat.le_of_ble_eq_true rfl⟩ dX9_statement_84 (fun x10 σ9 H locs hok hz hP hD hS => ?_)
      refine lv_iconst (v := 0) hx hb dX9_statement_87 (by decide) ?_
      refine yVi (As := [.int 19, .int 0, .int x10, .int 0]) (cw := (mW o u cI cZ cJ T ga)) (ci := 9) S (v_X9_add l D cI cZ cJ o u T ra ga σ9 19 0 x10 0 _ H.size hok) mi_X9_add kw_6_116 rfl rfl ⟨Nat.le_of_ble_eq_true rfl, Nat.le_of_ble_eq_true rfl⟩ hP hD hK hS hA hB mW_0 rfl rfl hl.1 (Nat.le_of_ble_eq_true rfl) ⟨Nat.le_of_ble_eq_true rfl, Nat.le_of_ble_eq_true rfl⟩ dX9_statement_88 (fun x12 σ11 H locs hok hz hP hD hS => ?_)
      exact yEnd S hr hlocks hP hD hS (Nat.le_of_ble_eq_true rfl) (Nat.le_of_ble_eq_true rfl) dX9_statement_91 hok
    · have hok := hok.2 k_27_1
      by_cases k_27_2 : x2 = 2
      · have hok := hok.1 k_27_2
        rw [k_27_2]
        refine lv_tableIn (off := 65) (tgt := 92) hx hb dX9_statement_27 (by decide) (by decide) (by decide) (by decide) ?_
        refine lv_aload_n hx hb dX9_statement_92 rfl (lv_at hl 0 rfl) ?_
        refine lv_iconst (v := 4) hx hb dX9_statement_93 (by decide) ?_
        refine yVi (As := [.int 4]) (cw := (mW o u cI cZ cJ T ga)) (ci := 9) S (v_X9_draw l D cI cZ cJ o u T ra ga σ1 4 _ H.size hok) mi_X9_draw kw_6_45 rfl rfl ⟨Nat.le_of_ble_eq_true rfl, Nat.le_of_ble_eq_true rfl⟩ hP hD hK hS hA hB mW_0 rfl rfl hl.1 (Nat.le_of_ble_eq_true rfl) ⟨Nat.le_of_ble_eq_true rfl, Nat.le_of_ble_eq_true rfl⟩ dX9_statement_94 (fun x14 σ13 H locs hok hz hP hD hS => ?_)
        refine lv_if_ne (tgt := 108) hx hb dX9_statement_97 (by decide) (fun c_97 => ?_) (fun c_97 => ?_)
        · have hok := hok.2 c_97
          refine lv_aload_n hx hb dX9_statement_108 rfl (lv_at hl 0 rfl) ?_
          refine lv_iconst (v := 0) hx hb dX9_statement_109 (by decide) ?_
          refine lv_aload_n hx hb dX9_statement_110 rfl (lv_at hl 0 rfl) ?_
          refine lv_iconst (v := 4) hx hb dX9_statement_111 (by decide) ?_
          refine yVi (As := [.int 4]) (cw := (mW o u cI cZ cJ T ga)) (ci := 9) S (v_X9_draw l D cI cZ cJ o u T ra ga σ13 4 _ H.size hok) mi_X9_draw kw_6_45 rfl rfl ⟨Nat.le_of_ble_eq_true rfl, Nat.le_of_ble_eq_true rfl⟩ hP hD hK hS hA hB mW_0 rfl rfl hl.1 (Nat.le_of_ble_eq_true rfl) ⟨Nat.le_of_ble_eq_true rfl, Nat.le_of_ble_eq_true rfl⟩ dX9_statement_112 (fun x16 σ15 H locs hok hz hP hD hS => ?_)
          refine lv_iconst (v := 0) hx hb dX9_statement_115 (by decide) ?_
          refine lv_iconst (v := 0) hx hb dX9_statement_116 (by decide) ?_
          refine yVi (As := [.int 0, .int x16, .int 0, .int 0]) (cw := (mW o u cI cZ cJ T ga)) (ci := 9) S (v_X9_add l D cI cZ cJ o u T ra ga σ15 0 x16 0 0 _ H.size hok) mi_X9_add kw_6_116 rfl rfl ⟨Nat.le_of_ble_eq_true rfl, Nat.le_of_ble_eq_true rfl⟩ hP hD hK hS hA hB mW_0 rfl rfl hl.1 (Nat.le_of_ble_eq_true rfl) ⟨Nat.le_of_ble_eq_true rfl, Nat.le_of_ble_eq_true rfl⟩ dX9_statement_117 (fun x18 σ17 H locs hok hz hP hD hS => ?_)
          refine lv_istore_n (lv' := [(2, .int x18), (0, .ref (u 87)), (1, .int 0)]) hx hb dX9_statement_120 rfl hl (by decide) rfl (fun ls hl => ?_)
          refine lv_aload_n hx hb dX9_statement_121 rfl (lv_at hl 1 rfl) ?_
          refine lv_bipush (v := 14) hx hb dX9_statement_122 (by decide) ?_
          refine lv_iconst (v := 2) hx hb dX9_statement_124 (by decide) ?_
          refine lv_iload_n hx hb dX9_statement_125 rfl (lv_at hl 0 rfl) ?_
          refine lv_aload_n hx hb dX9_statement_126 rfl (lv_at hl 1 rfl) ?_
          refine lv_iconst (v := 1) hx hb dX9_statement_127 (by decide) ?_
          refine yVi (As := [.int 1]) (cw := (mW o u cI cZ cJ T ga)) (ci := 9) S (v_X9_expression_1 l D cI cZ cJ o u T ra ga σ17 _ H.size hok) mi_X9_expression kw_6_112 rfl rfl ⟨Nat.le_of_ble_eq_true rfl, Nat.le_of_ble_eq_true rfl⟩ hP hD hK hS hA hB mW_0 rfl rfl hl.1 (Nat.le_of_ble_eq_true rfl) ⟨Nat.le_of_ble_eq_true rfl, Nat.le_of_ble_eq_true rfl⟩ dX9_statement_128 (fun x20 σ19 H locs hok hz hP hD hS => ?_)
          refine yVi (As := [.int 14, .int 2, .int x18, .int x20]) (cw := (mW o u cI cZ cJ T ga)) (ci := 9) S (v_X9_add l D cI cZ cJ o u T ra ga σ19 14 2 x18 x20 _ H.size hok) mi_X9_add kw_6_116 rfl rfl ⟨Nat.le_of_ble_eq_true rfl, Nat.le_of_ble_eq_true rfl⟩ hP hD hK hS hA hB mW_0 rfl rfl hl.1 (Nat.le_of_ble_eq_true rfl) ⟨Nat.le_of_ble_eq_true rfl, Nat.le_of_ble_eq_true rfl⟩ dX9_statement_131 (fun x22 σ21 H locs hok hz hP hD hS => ?_)
          exact yEnd S hr hlocks hP hD hS (Nat.le_of_ble_eq_true rfl) (Nat.le_of_ble_eq_true rfl) dX9_statement_134 hok
        · have hok := hok.1 c_97
          refine lv_aload_n hx hb dX9_statement_100 rfl (lv_at hl 0 rfl) ?_
          refine lv_iconst (v := 1) hx hb dX9_statement_101 (by decide) ?_
          refine yVi (As := [.int 1]) (cw := (mW o u cI cZ cJ T ga)) (ci := 9) S (v_X9_expression_1 l D cI cZ cJ o u T ra ga σ13 _ H.size hok) mi_X9_expression kw_6_112 rfl rfl ⟨Nat.le_of_ble_eq_true rfl, Nat.le_of_ble_eq_true rfl⟩ hP hD hK hS hA hB mW_0 rfl rfl hl.1 (Nat.le_of_ble_eq_true rfl) ⟨Nat.le_of_ble_eq_true rfl, Nat.le_of_ble_eq_true rfl⟩ dX9_statement_102 (fun x24 σ23 H locs hok hz hP hD hS => ?_)
          refine lv_goto (tgt := 120) hx hb dX9_statement_105 (by decide) ?_
          refine lv_istore_n (lv' := [(2, .int x24), (0, .ref (u 87)), (1, .int 0)]) hx hb dX9_statement_120 rfl hl (by decide) rfl (fun ls hl => ?_)
          refine lv_aload_n hx hb dX9_statement_121 rfl (lv_at hl 1 rfl) ?_
          refine lv_bipush (v := 14) hx hb dX9_statement_122 (by decide) ?_
          refine lv_iconst (v := 2) hx hb dX9_statement_124 (by decide) ?_
          refine lv_iload_n hx hb dX9_statement_125 rfl (lv_at hl 0 rfl) ?_
          refine lv_aload_n hx hb dX9_statement_126 rfl (lv_at hl 1 rfl) ?_
          refine lv_iconst (v := 1) hx hb dX9_statement_127 (by decide) ?_
          refine yVi (As := [.int 1]) (cw := (mW o u cI cZ cJ T ga)) (ci := 9) S (v_X9_expression_1 l D cI cZ cJ o u T ra ga σ23 _ H.size hok) mi_X9_expression kw_6_112 rfl rfl ⟨Nat.le_of_ble_eq_true rfl, Nat.le_of_ble_eq_true rfl⟩ hP hD hK hS hA hB mW_0 rfl rfl hl.1 (Nat.le_of_ble_eq_true rfl) ⟨Nat.le_of_ble_eq_true rfl, Nat.le_of_ble_eq_true rfl⟩ dX9_statement_128 (fun x26 σ25 H locs hok hz hP hD hS => ?_)
          refine yVi (As := [.int 14, .int 2, .int x24, .int x26]) (cw := (mW o u cI cZ cJ T ga)) (ci := 9) S (v_X9_add l D cI cZ cJ o u T ra ga σ25 14 2 x24 x26 _ H.size hok) mi_X9_add kw_6_116 rfl rfl ⟨Nat.le_of_ble_eq_true rfl, Nat.le_of_ble_eq_true rfl⟩ hP hD hK hS hA hB mW_0 rfl rfl hl.1 (Nat.le_of_ble_eq_true rfl) ⟨Nat.le_of_ble_eq_true rfl, Nat.le_of_ble_eq_true rfl⟩ dX9_statement_131 (fun x28 σ27 H locs hok hz hP hD hS => ?_)
          exact yEnd S hr hlocks hP hD hS (Nat.le_of_ble_eq_true rfl) (Nat.le_of_ble_eq_true rfl) dX9_statement_134 hok
      · have hok := hok.2 k_27_2
        by_cases k_27_3 : x2 = 3
        · have hok := hok.1 k_27_3
          rw [k_27_3]
          refine lv_tableIn (off := 108) (tgt := 135) hx hb dX9_statement_27 (by decide) (by decide) (by decide) (by decide) ?_
          refine lv_aload_n hx hb dX9_statement_135 rfl (lv_at hl 0 rfl) ?_
          refine lv_iconst (v := 1) hx hb dX9_statement_136 (by decide) ?_
          refine yVi (As := [.int 1]) (cw := (mW o u cI cZ cJ T ga)) (ci := 9) S (v_X9_expression_1 l D cI cZ cJ o u T ra ga σ1 _ H.size hok) mi_X9_expression kw_6_112 rfl rfl ⟨Nat.le_of_ble_eq_true rfl, Nat.le_of_ble_eq_true rfl⟩ hP hD hK hS hA hB mW_0 rfl rfl hl.1 (Nat.le_of_ble_eq_true rfl) ⟨Nat.le_of_ble_eq_true rfl, Nat.le_of_ble_eq_true rfl⟩ dX9_statement_137 (fun x30 σ29 H locs hok hz hP hD hS => ?_)
          refine lv_istore_n (lv' := [(3, .int x30), (0, .ref (u 87)), (1, .int 0)]) hx hb dX9_statement_140 rfl hl (by decide) rfl (fun ls hl => ?_)
          refine lv_aload_n hx hb dX9_statement_141 rfl (lv_at hl 1 rfl) ?_
          refine lv_iload_n hx hb dX9_statement_142 rfl (lv_at hl 2 rfl) ?_
          refine lv_iconst (v := 1) hx hb dX9_statement_143 (by decide) ?_
          refine xisub (v := (-1)) S dX9_statement_144 (by decide) ?_
          exact False.elim hok
        · have hok := hok.2 k_27_3
          by_cases k_27_4 : x2 = 4
          · have hok := hok.1 k_27_4
            rw [k_27_4]
            refine lv_tableIn (off := 152) (tgt := 179) hx hb dX9_statement_27 (by decide) (by decide) (by decide) (by decide) ?_
            refine lv_aload_n hx hb dX9_statement_179 rfl (lv_at hl 0 rfl) ?_
            refine lv_iload_n hx hb dX9_statement_180 rfl (lv_at hl 1 rfl) ?_
            exact False.elim hok
          · have hok := hok.2 k_27_4
            have q_27_0 := sw_ni k_27_0 (z := 0) (by decide)
            have q_27_1 := sw_ni k_27_1 (z := 1) (by decide)
            have q_27_2 := sw_ni k_27_2 (z := 2) (by decide)
            have q_27_3 := sw_ni k_27_3 (z := 3) (by decide)
            have q_27_4 := sw_ni k_27_4 (z := 4) (by decide)
            refine lv_tableOut (tgt := 185) hx hb dX9_statement_27 (by omega) (by decide) ?_
            refine lv_aload_n hx hb dX9_statement_185 rfl (lv_at hl 0 rfl) ?_
            refine lv_iload_n hx hb dX9_statement_186 rfl (lv_at hl 1 rfl) ?_
            refine lv_iconst (v := 1) hx hb dX9_statement_187 (by decide) ?_
            refine xisub (v := (-1)) S dX9_statement_188 (by decide) ?_
            exact False.elim hok

set_option maxHeartbeats 8000000 in
set_option maxRecDepth 100000 in
theorem v_X9_loop (l : Launch) (D : va_G) (cI cZ cJ : ClassId) (o : Nat) (u : Nat → Nat) (T : Nat) (ra : Nat → Nat) (ga : SG) (σ : FS) (a1 : Int32) (Φ : Int32 → FS → Prop) (sz : Nat) (hok : (wp_X9_loop ga σ a1 Φ)) : Met l yX9_loop (uW yX9_loop cX9_loop 10 (some .int)) ({ frames := 10, cells := 32, slots := 128, locals := 235 }) (va_Pc [.ref (u 87), .int a1] (aS ra ga D (tyL cI cZ cJ) (mW o u cI cZ cJ T ga σ) sz)) (yQi Φ D (mW o u cI cZ cJ T ga) (va_A (mW o u cI cZ cJ T ga σ) sz)) 32 128 (va_A (mW o u cI cZ cJ T ga σ) sz) := by
  refine aStart (lv := [(0, .ref (u 87)), (1, .int a1)]) (Qc := fun A => yQi Φ D (mW o u cI cZ cJ T ga) A) (by decide) (Nat.le_of_ble_eq_true rfl) rfl ?_
  intro p e s m args below meth c ls A H S hr hlocks hnm hl hK hP hD hS hA hB
  have hx := S.1
  have hb := S.2.1
  refine lv_aload_n hx hb dX9_loop_0 rfl (lv_at hl 0 rfl) ?_
  refine lv_iconst (v := 3) hx hb dX9_loop_1 (by decide) ?_
  refine yVi (As := [.int 3]) (cw := (mW o u cI cZ cJ T ga)) (ci := 9) S (v_X9_draw l D cI cZ cJ o u T ra ga σ 3 _ H.size hok) mi_X9_draw kw_6_45 rfl rfl ⟨Nat.le_of_ble_eq_true rfl, Nat.le_of_ble_eq_true rfl⟩ hP hD hK hS hA hB mW_0 rfl rfl hl.1 (Nat.le_of_ble_eq_true rfl) ⟨Nat.le_of_ble_eq_true rfl, Nat.le_of_ble_eq_true rfl⟩ dX9_loop_2 (fun x2 σ1 H locs hok hz hP hD hS => ?_)
  refine lv_istore_n (lv' := [(2, .int x2), (0, .ref (u 87)), (1, .int a1)]) hx hb dX9_loop_5 rfl hl (by decide) rfl (fun ls hl => ?_)
  refine lv_aload_n hx hb dX9_loop_6 rfl (lv_at hl 1 rfl) ?_
  refine lv_bipush (v := 13) hx hb dX9_loop_7 (by decide) ?_
  refine lv_iconst (v := 4) hx hb dX9_loop_9 (by decide) ?_
  refine lv_aload_n hx hb dX9_loop_10 rfl (lv_at hl 1 rfl) ?_
  refine lv_iconst (v := 0) hx hb dX9_loop_11 (by decide) ?_
  refine lv_iconst (v := 0) hx hb dX9_loop_12 (by decide) ?_
  refine lv_iconst (v := 0) hx hb dX9_loop_13 (by decide) ?_
  refine lv_iconst (v := 0) hx hb dX9_loop_14 (by decide) ?_
  refine yVi (As := [.int 0, .int 0, .int 0, .int 0]) (cw := (mW o u cI cZ cJ T ga)) (ci := 9) S (v_X9_add l D cI cZ cJ o u T ra ga σ1 0 0 0 0 _ H.size hok) mi_X9_add kw_6_116 rfl rfl ⟨Nat.le_of_ble_eq_true rfl, Nat.le_of_ble_eq_true rfl⟩ hP hD hK hS hA hB mW_0 rfl rfl hl.1 (Nat.le_of_ble_eq_true rfl) ⟨Nat.le_of_ble_eq_true rfl, Nat.le_of_ble_eq_true rfl⟩ dX9_loop_15 (fun x4 σ3 H locs hok hz hP hD hS => ?_)
  refine lv_iconst (v := 0) hx hb dX9_loop_18 (by decide) ?_
  refine yVi (As := [.int 13, .int 4, .int x4, .int 0]) (cw := (mW o u cI cZ cJ T ga)) (ci := 9) S (v_X9_add l D cI cZ cJ o u T ra ga σ3 13 4 x4 0 _ H.size hok) mi_X9_add kw_6_116 rfl rfl ⟨Nat.le_of_ble_eq_true rfl, Nat.le_of_ble_eq_true rfl⟩ hP hD hK hS hA hB mW_0 rfl rfl hl.1 (Nat.le_of_ble_eq_true rfl) ⟨Nat.le_of_ble_eq_true rfl, Nat.le_of_ble_eq_true rfl⟩ dX9_loop_19 (fun x6 σ5 H locs hok hz hP hD hS => ?_)
  refine lv_istore_n (lv' := [(3, .int x6), (2, .int x2), (0, .ref (u 87)), (1, .int a1)]) hx hb dX9_loop_22 rfl hl (by decide) rfl (fun ls hl => ?_)
  refine lv_aload_n hx hb dX9_loop_23 rfl (lv_at hl 2 rfl) ?_
  refine lv_iconst (v := 1) hx hb dX9_loop_24 (by decide) ?_
  refine lv_iconst (v := 4) hx hb dX9_loop_25 (by decide) ?_
  refine lv_iconst (v := 0) hx hb dX9_loop_26 (by decide) ?_
  refine lv_iconst (v := 0) hx hb dX9_loop_27 (by decide) ?_
  refine yVi (As := [.int 1, .int 4, .int 0, .int 0]) (cw := (mW o u cI cZ cJ T ga)) (ci := 9) S (v_X9_add l D cI cZ cJ o u T ra ga σ5 1 4 0 0 _ H.size hok) mi_X9_add kw_6_116 rfl rfl ⟨Nat.le_of_ble_eq_true rfl, Nat.le_of_ble_eq_true rfl⟩ hP hD hK hS hA hB mW_0 rfl rfl hl.1 (Nat.le_of_ble_eq_true rfl) ⟨Nat.le_of_ble_eq_true rfl, Nat.le_of_ble_eq_true rfl⟩ dX9_loop_28 (fun x8 σ7 H locs hok hz hP hD hS => ?_)
  refine lv_istore (lv' := [(4, .int x8), (3, .int x6), (2, .int x2), (0, .ref (u 87)), (1, .int a1)]) hx hb dX9_loop_31 hl (by decide) rfl (fun ls hl => ?_)
  refine lv_aload_n hx hb dX9_loop_33 rfl (lv_at hl 3 rfl) ?_
  refine lv_bipush (v := 7) hx hb dX9_loop_34 (by decide) ?_
  refine lv_iconst (v := 0) hx hb dX9_loop_36 (by decide) ?_
  refine lv_iload hx hb dX9_loop_37 (lv_at hl 0 rfl) ?_
  refine lv_aload_n hx hb dX9_loop_39 rfl (lv_at hl 3 rfl) ?_
  refine lv_iconst (v := 0) hx hb dX9_loop_40 (by decide) ?_
  refine lv_iconst (v := 1) hx hb dX9_loop_41 (by decide) ?_
  refine lv_aload_n hx hb dX9_loop_42 rfl (lv_at hl 3 rfl) ?_
  refine lv_iconst (v := 4) hx hb dX9_loop_43 (by decide) ?_
  refine yVi (As := [.int 4]) (cw := (mW o u cI cZ cJ T ga)) (ci := 9) S (v_X9_draw l D cI cZ cJ o u T ra ga σ7 4 _ H.size hok) mi_X9_draw kw_6_45 rfl rfl ⟨Nat.le_of_ble_eq_true rfl, Nat.le_of_ble_eq_true rfl⟩ hP hD hK hS hA hB mW_0 rfl rfl hl.1 (Nat.le_of_ble_eq_true rfl) ⟨Nat.le_of_ble_eq_true rfl, Nat.le_of_ble_eq_true rfl⟩ dX9_loop_44 (fun x10 σ9 H locs hok hz hP hD hS => ?_)
  refine xiadd (v := 1 + x10) S dX9_loop_47 rfl ?_
  refine lv_iconst (v := 0) hx hb dX9_loop_48 (by decide) ?_
  refine lv_iconst (v := 0) hx hb dX9_loop_49 (by decide) ?_
  refine yVi (As := [.int 0, .int (1 + x10), .int 0, .int 0]) (cw := (mW o u cI cZ cJ T ga)) (ci := 9) S (v_X9_add l D cI cZ cJ o u T ra ga σ9 0 (1 + x10) 0 0 _ H.size hok) mi_X9_add kw_6_116 rfl rfl ⟨Nat.le_of_ble_eq_true rfl, Nat.le_of_ble_eq_true rfl⟩ hP hD hK hS hA hB mW_0 rfl rfl hl.1 (Nat.le_of_ble_eq_true rfl) ⟨Nat.le_of_ble_eq_true rfl, Nat.le_of_ble_eq_true rfl⟩ dX9_loop_50 (fun x12 σ11 H locs hok hz hP hD hS => ?_)
  refine yVi (As := [.int 7, .int 0, .int x8, .int x12]) (cw := (mW o u cI cZ cJ T ga)) (ci := 9) S (v_X9_add l D cI cZ cJ o u T ra ga σ11 7 0 x8 x12 _ H.size hok) mi_X9_add kw_6_116 rfl rfl ⟨Nat.le_of_ble_eq_true rfl, Nat.le_of_ble_eq_true rfl⟩ hP hD hK hS hA hB mW_0 rfl rfl hl.1 (Nat.le_of_ble_eq_true rfl) ⟨Nat.le_of_ble_eq_true rfl, Nat.le_of_ble_eq_true rfl⟩ dX9_loop_53 (fun x14 σ13 H locs hok hz hP hD hS => ?_)
  refine lv_istore (lv' := [(5, .int x14), (4, .int x8), (3, .int x6), (2, .int x2), (0, .ref (u 87)), (1, .int a1)]) hx hb dX9_loop_56 hl (by decide) rfl (fun ls hl => ?_)
  refine lv_aload_n hx hb dX9_loop_58 rfl (lv_at hl 4 rfl) ?_
  refine lv_iconst (v := 0) hx hb dX9_loop_59 (by decide) ?_
  refine yVi (As := [.int 0]) (cw := (mW o u cI cZ cJ T ga)) (ci := 9) S (v_X9_statement_0 l D cI cZ cJ o u T ra ga σ13 _ H.size hok) mi_X9_statement kw_6_117 rfl rfl ⟨Nat.le_of_ble_eq_true rfl, Nat.le_of_ble_eq_true rfl⟩ hP hD hK hS hA hB mW_0 rfl rfl hl.1 (Nat.le_of_ble_eq_true rfl) ⟨Nat.le_of_ble_eq_true rfl, Nat.le_of_ble_eq_true rfl⟩ dX9_loop_60 (fun x16 σ15 H locs hok hz hP hD hS => ?_)
  refine lv_istore (lv' := [(6, .int x16), (5, .int x14), (4, .int x8), (3, .int x6), (2, .int x2), (0, .ref (u 87)), (1, .int a1)]) hx hb dX9_loop_63 hl (by decide) rfl (fun ls hl => ?_)
  refine lv_aload_n hx hb dX9_loop_65 rfl (lv_at hl 5 rfl) ?_
  refine lv_iconst (v := 3) hx hb dX9_loop_66 (by decide) ?_
  refine yVi (As := [.int 3]) (cw := (mW o u cI cZ cJ T ga)) (ci := 9) S (v_X9_draw l D cI cZ cJ o u T ra ga σ15 3 _ H.size hok) mi_X9_draw kw_6_45 rfl rfl ⟨Nat.le_of_ble_eq_true rfl, Nat.le_of_ble_eq_true rfl⟩ hP hD hK hS hA hB mW_0 rfl rfl hl.1 (Nat.le_of_ble_eq_true rfl) ⟨Nat.le_of_ble_eq_true rfl, Nat.le_of_ble_eq_true rfl⟩ dX9_loop_67 (fun x18 σ17 H locs hok hz hP hD hS => ?_)
  refine lv_if_ne (tgt := 113) hx hb dX9_loop_70 (by decide) (fun c_70 => ?_) (fun c_70 => ?_)
  · have hok := hok.2 c_70
    refine lv_aload_n hx hb dX9_loop_113 rfl (lv_at hl 5 rfl) ?_
    refine lv_iconst (v := 1) hx hb dX9_loop_114 (by decide) ?_
    refine lv_iconst (v := 4) hx hb dX9_loop_115 (by decide) ?_
    refine lv_iconst (v := 0) hx hb dX9_loop_116 (by decide) ?_
    refine lv_iconst (v := 0) hx hb dX9_loop_117 (by decide) ?_
    refine yVi (As := [.int 1, .int 4, .int 0, .int 0]) (cw := (mW o u cI cZ cJ T ga)) (ci := 9) S (v_X9_add l D cI cZ cJ o u T ra ga σ17 1 4 0 0 _ H.size hok) mi_X9_add kw_6_116 rfl rfl ⟨Nat.le_of_ble_eq_true rfl, Nat.le_of_ble_eq_true rfl⟩ hP hD hK hS hA hB mW_0 rfl rfl hl.1 (Nat.le_of_ble_eq_true rfl) ⟨Nat.le_of_ble_eq_true rfl, Nat.le_of_ble_eq_true rfl⟩ dX9_loop_118 (fun x20 σ19 H locs hok hz hP hD hS => ?_)
    refine lv_istore (lv' := [(7, .int x20), (6, .int x16), (5, .int x14), (4, .int x8), (3, .int x6), (2, .int x2), (0, .ref (u 87)), (1, .int a1)]) hx hb dX9_loop_121 hl (by decide) rfl (fun ls hl => ?_)
    refine lv_aload_n hx hb dX9_loop_123 rfl (lv_at hl 6 rfl) ?_
    refine lv_iconst (v := 3) hx hb dX9_loop_124 (by decide) ?_
    refine lv_iconst (v := 0) hx hb dX9_loop_125 (by decide) ?_
    refine lv_iload hx hb dX9_loop_126 (lv_at hl 0 rfl) ?_
    refine lv_aload_n hx hb dX9_loop_128 rfl (lv_at hl 6 rfl) ?_
    refine lv_iconst (v := 0) hx hb dX9_loop_129 (by decide) ?_
    refine lv_iconst (v := 1) hx hb dX9_loop_130 (by decide) ?_
    refine lv_iconst (v := 0) hx hb dX9_loop_131 (by decide) ?_
    refine lv_iconst (v := 0) hx hb dX9_loop_132 (by decide) ?_
    refine yVi (As := [.int 0, .int 1, .int 0, .int 0]) (cw := (mW o u cI cZ cJ T ga)) (ci := 9) S (v_X9_add l D cI cZ cJ o u T ra ga σ19 0 1 0 0 _ H.size hok) mi_X9_add kw_6_116 rfl rfl ⟨Nat.le_of_ble_eq_true rfl, Nat.le_of_ble_eq_true rfl⟩ hP hD hK hS hA hB mW_0 rfl rfl hl.1 (Nat.le_of_ble_eq_true rfl) ⟨Nat.le_of_ble_eq_true rfl, Nat.le_of_ble_eq_true rfl⟩ dX9_loop_133 (fun x22 σ21 H locs hok hz hP hD hS => ?_)
    refine yVi (As := [.int 3, .int 0, .int x20, .int x22]) (cw := (mW o u cI cZ cJ T ga)) (ci := 9) S (v_X9_add l D cI cZ cJ o u T ra ga σ21 3 0 x20 x22 _ H.size hok) mi_X9_add kw_6_116 rfl rfl ⟨Nat.le_of_ble_eq_true rfl, Nat.le_of_ble_eq_true rfl⟩ hP hD hK hS hA hB mW_0 rfl rfl hl.1 (Nat.le_of_ble_eq_true rfl) ⟨Nat.le_of_ble_eq_true rfl, Nat.le_of_ble_eq_true rfl⟩ dX9_loop_136 (fun x24 σ23 H locs hok hz hP hD hS => ?_)
    refine lv_istore (lv' := [(8, .int x24), (7, .int x20), (6, .int x16), (5, .int x14), (4, .int x8), (3, .int x6), (2, .int x2), (0, .ref (u 87)), (1, .int a1)]) hx hb dX9_loop_139 hl (by decide) rfl (fun ls hl => ?_)
    refine lv_aload_n hx hb dX9_loop_141 rfl (lv_at hl 7 rfl) ?_
    refine lv_bipush (v := 12) hx hb dX9_loop_142 (by decide) ?_
    refine lv_iconst (v := 0) hx hb dX9_loop_144 (by decide) ?_
    refine lv_iload hx hb dX9_loop_145 (lv_at hl 2 rfl) ?_
    refine lv_aload_n hx hb dX9_loop_147 rfl (lv_at hl 7 rfl) ?_
    refine lv_bipush (v := 13) hx hb dX9_loop_148 (by decide) ?_
    refine lv_iconst (v := 4) hx hb dX9_loop_150 (by decide) ?_
    refine lv_iload hx hb dX9_loop_151 (lv_at hl 0 rfl) ?_
    refine lv_iconst (v := 0) hx hb dX9_loop_153 (by decide) ?_
    refine yVi (As := [.int 13, .int 4, .int x24, .int 0]) (cw := (mW o u cI cZ cJ T ga)) (ci := 9) S (v_X9_add l D cI cZ cJ o u T ra ga σ23 13 4 x24 0 _ H.size hok) mi_X9_add kw_6_116 rfl rfl ⟨Nat.le_of_ble_eq_true rfl, Nat.le_of_ble_eq_true rfl⟩ hP hD hK hS hA hB mW_0 rfl rfl hl.1 (Nat.le_of_ble_eq_true rfl) ⟨Nat.le_of_ble_eq_true rfl, Nat.le_of_ble_eq_true rfl⟩ dX9_loop_154 (fun x26 σ25 H locs hok hz hP hD hS => ?_)
    refine yVi (As := [.int 12, .int 0, .int x16, .int x26]) (cw := (mW o u cI cZ cJ T ga)) (ci := 9) S (v_X9_add l D cI cZ cJ o u T ra ga σ25 12 0 x16 x26 _ H.size hok) mi_X9_add kw_6_116 rfl rfl ⟨Nat.le_of_ble_eq_true rfl, Nat.le_of_ble_eq_true rfl⟩ hP hD hK hS hA hB mW_0 rfl rfl hl.1 (Nat.le_of_ble_eq_true rfl) ⟨Nat.le_of_ble_eq_true rfl, Nat.le_of_ble_eq_true rfl⟩ dX9_loop_157 (fun x28 σ27 H locs hok hz hP hD hS => ?_)
    refine lv_istore (lv' := [(9, .int x28), (8, .int x24), (7, .int x20), (6, .int x16), (5, .int x14), (4, .int x8), (3, .int x6), (2, .int x2), (0, .ref (u 87)), (1, .int a1)]) hx hb dX9_loop_160 hl (by decide) rfl (fun ls hl => ?_)
    refine lv_aload_n hx hb dX9_loop_162 rfl (lv_at hl 8 rfl) ?_
    refine lv_bipush (v := 12) hx hb dX9_loop_163 (by decide) ?_
    refine lv_iconst (v := 0) hx hb dX9_loop_165 (by decide) ?_
    refine lv_iload_n hx hb dX9_loop_166 rfl (lv_at hl 6 rfl) ?_
    refine lv_aload_n hx hb dX9_loop_167 rfl (lv_at hl 8 rfl) ?_
    refine lv_bipush (v := 16) hx hb dX9_loop_168 (by decide) ?_
    refine lv_iload_n hx hb dX9_loop_170 rfl (lv_at hl 7 rfl) ?_
    refine lv_iload hx hb dX9_loop_171 (lv_at hl 4 rfl) ?_
    refine lv_iload hx hb dX9_loop_173 (lv_at hl 0 rfl) ?_
    refine yVi (As := [.int 16, .int x2, .int x14, .int x28]) (cw := (mW o u cI cZ cJ T ga)) (ci := 9) S (v_X9_add l D cI cZ cJ o u T ra ga σ27 16 x2 x14 x28 _ H.size hok) mi_X9_add kw_6_116 rfl rfl ⟨Nat.le_of_ble_eq_true rfl, Nat.le_of_ble_eq_true rfl⟩ hP hD hK hS hA hB mW_0 rfl rfl hl.1 (Nat.le_of_ble_eq_true rfl) ⟨Nat.le_of_ble_eq_true rfl, Nat.le_of_ble_eq_true rfl⟩ dX9_loop_175 (fun x30 σ29 H locs hok hz hP hD hS => ?_)
    refine yVi (As := [.int 12, .int 0, .int x6, .int x30]) (cw := (mW o u cI cZ cJ T ga)) (ci := 9) S (v_X9_add l D cI cZ cJ o u T ra ga σ29 12 0 x6 x30 _ H.size hok) mi_X9_add kw_6_116 rfl rfl ⟨Nat.le_of_ble_eq_true rfl, Nat.le_of_ble_eq_true rfl⟩ hP hD hK hS hA hB mW_0 rfl rfl hl.1 (Nat.le_of_ble_eq_true rfl) ⟨Nat.le_of_ble_eq_true rfl, Nat.le_of_ble_eq_true rfl⟩ dX9_loop_178 (fun x32 σ31 H locs hok hz hP hD hS => ?_)
    exact yEnd S hr hlocks hP hD hS (Nat.le_of_ble_eq_true rfl) (Nat.le_of_ble_eq_true rfl) dX9_loop_181 hok
  · have hok := hok.1 c_70
    refine lv_aload_n hx hb dX9_loop_73 rfl (lv_at hl 5 rfl) ?_
    refine lv_iconst (v := 1) hx hb dX9_loop_74 (by decide) ?_
    refine yVi (As := [.int 1]) (cw := (mW o u cI cZ cJ T ga)) (ci := 9) S (v_X9_expression_1 l D cI cZ cJ o u T ra ga σ17 _ H.size hok) mi_X9_expression kw_6_112 rfl rfl ⟨Nat.le_of_ble_eq_true rfl, Nat.le_of_ble_eq_true rfl⟩ hP hD hK hS hA hB mW_0 rfl rfl hl.1 (Nat.le_of_ble_eq_true rfl) ⟨Nat.le_of_ble_eq_true rfl, Nat.le_of_ble_eq_true rfl⟩ dX9_loop_75 (fun x34 σ33 H locs hok hz hP hD hS => ?_)
    refine lv_istore (lv' := [(7, .int x34), (6, .int x16), (5, .int x14), (4, .int x8), (3, .int x6), (2, .int x2), (0, .ref (u 87)), (1, .int a1)]) hx hb dX9_loop_78 hl (by decide) rfl (fun ls hl => ?_)
    refine lv_aload_n hx hb dX9_loop_80 rfl (lv_at hl 6 rfl) ?_
    refine lv_bipush (v := 17) hx hb dX9_loop_81 (by decide) ?_
    refine lv_iload_n hx hb dX9_loop_83 rfl (lv_at hl 5 rfl) ?_
    refine lv_iconst (v := 0) hx hb dX9_loop_84 (by decide) ?_
    refine lv_iconst (v := 0) hx hb dX9_loop_85 (by decide) ?_
    refine yVi (As := [.int 17, .int x2, .int 0, .int 0]) (cw := (mW o u cI cZ cJ T ga)) (ci := 9) S (v_X9_add l D cI cZ cJ o u T ra ga σ33 17 x2 0 0 _ H.size hok) mi_X9_add kw_6_116 rfl rfl ⟨Nat.le_of_ble_eq_true rfl, Nat.le_of_ble_eq_true rfl⟩ hP hD hK hS hA hB mW_0 rfl rfl hl.1 (Nat.le_of_ble_eq_true rfl) ⟨Nat.le_of_ble_eq_true rfl, Nat.le_of_ble_eq_true rfl⟩ dX9_loop_86 (fun x36 σ35 H locs hok hz hP hD hS => ?_)
    refine lv_istore (lv' := [(8, .int x36), (7, .int x34), (6, .int x16), (5, .int x14), (4, .int x8), (3, .int x6), (2, .int x2), (0, .ref (u 87)), (1, .int a1)]) hx hb dX9_loop_89 hl (by decide) rfl (fun ls hl => ?_)
    refine lv_aload_n hx hb dX9_loop_91 rfl (lv_at hl 7 rfl) ?_
    refine lv_bipush (v := 12) hx hb dX9_loop_92 (by decide) ?_
    refine lv_iconst (v := 0) hx hb dX9_loop_94 (by decide) ?_
    refine lv_iload hx hb dX9_loop_95 (lv_at hl 2 rfl) ?_
    refine lv_aload_n hx hb dX9_loop_97 rfl (lv_at hl 7 rfl) ?_
    refine lv_bipush (v := 15) hx hb dX9_loop_98 (by decide) ?_
    refine lv_iconst (v := (-1)) hx hb dX9_loop_100 (by decide) ?_
    refine lv_iload hx hb dX9_loop_101 (lv_at hl 1 rfl) ?_
    refine lv_iload hx hb dX9_loop_103 (lv_at hl 0 rfl) ?_
    refine yVi (As := [.int 15, .int (-1), .int x34, .int x36]) (cw := (mW o u cI cZ cJ T ga)) (ci := 9) S (v_X9_add l D cI cZ cJ o u T ra ga σ35 15 (-1) x34 x36 _ H.size hok) mi_X9_add kw_6_116 rfl rfl ⟨Nat.le_of_ble_eq_true rfl, Nat.le_of_ble_eq_true rfl⟩ hP hD hK hS hA hB mW_0 rfl rfl hl.1 (Nat.le_of_ble_eq_true rfl) ⟨Nat.le_of_ble_eq_true rfl, Nat.le_of_ble_eq_true rfl⟩ dX9_loop_105 (fun x38 σ37 H locs hok hz hP hD hS => ?_)
    refine yVi (As := [.int 12, .int 0, .int x16, .int x38]) (cw := (mW o u cI cZ cJ T ga)) (ci := 9) S (v_X9_add l D cI cZ cJ o u T ra ga σ37 12 0 x16 x38 _ H.size hok) mi_X9_add kw_6_116 rfl rfl ⟨Nat.le_of_ble_eq_true rfl, Nat.le_of_ble_eq_true rfl⟩ hP hD hK hS hA hB mW_0 rfl rfl hl.1 (Nat.le_of_ble_eq_true rfl) ⟨Nat.le_of_ble_eq_true rfl, Nat.le_of_ble_eq_true rfl⟩ dX9_loop_108 (fun x40 σ39 H locs hok hz hP hD hS => ?_)
    refine lv_istore (lv' := [(6, .int x40), (8, .int x36), (7, .int x34), (5, .int x14), (4, .int x8), (3, .int x6), (2, .int x2), (0, .ref (u 87)), (1, .int a1)]) hx hb dX9_loop_111 hl (by decide) rfl (fun ls hl => ?_)
    refine lv_aload_n hx hb dX9_loop_113 rfl (lv_at hl 7 rfl) ?_
    refine lv_iconst (v := 1) hx hb dX9_loop_114 (by decide) ?_
    refine lv_iconst (v := 4) hx hb dX9_loop_115 (by decide) ?_
    refine lv_iconst (v := 0) hx hb dX9_loop_116 (by decide) ?_
    refine lv_iconst (v := 0) hx hb dX9_loop_117 (by decide) ?_
    refine yVi (As := [.int 1, .int 4, .int 0, .int 0]) (cw := (mW o u cI cZ cJ T ga)) (ci := 9) S (v_X9_add l D cI cZ cJ o u T ra ga σ39 1 4 0 0 _ H.size hok) mi_X9_add kw_6_116 rfl rfl ⟨Nat.le_of_ble_eq_true rfl, Nat.le_of_ble_eq_true rfl⟩ hP hD hK hS hA hB mW_0 rfl rfl hl.1 (Nat.le_of_ble_eq_true rfl) ⟨Nat.le_of_ble_eq_true rfl, Nat.le_of_ble_eq_true rfl⟩ dX9_loop_118 (fun x42 σ41 H locs hok hz hP hD hS => ?_)
    refine lv_istore (lv' := [(7, .int x42), (6, .int x40), (8, .int x36), (5, .int x14), (4, .int x8), (3, .int x6), (2, .int x2), (0, .ref (u 87)), (1, .int a1)]) hx hb dX9_loop_121 hl (by decide) rfl (fun ls hl => ?_)
    refine lv_aload_n hx hb dX9_loop_123 rfl (lv_at hl 7 rfl) ?_
    refine lv_iconst (v := 3) hx hb dX9_loop_124 (by decide) ?_
    refine lv_iconst (v := 0) hx hb dX9_loop_125 (by decide) ?_
    refine lv_iload hx hb dX9_loop_126 (lv_at hl 0 rfl) ?_
    refine lv_aload_n hx hb dX9_loop_128 rfl (lv_at hl 7 rfl) ?_
    refine lv_iconst (v := 0) hx hb dX9_loop_129 (by decide) ?_
    refine lv_iconst (v := 1) hx hb dX9_loop_130 (by decide) ?_
    refine lv_iconst (v := 0) hx hb dX9_loop_131 (by decide) ?_
    refine lv_iconst (v := 0) hx hb dX9_loop_132 (by decide) ?_
    refine yVi (As := [.int 0, .int 1, .int 0, .int 0]) (cw := (mW o u cI cZ cJ T ga)) (ci := 9) S (v_X9_add l D cI cZ cJ o u T ra ga σ41 0 1 0 0 _ H.size hok) mi_X9_add kw_6_116 rfl rfl ⟨Nat.le_of_ble_eq_true rfl, Nat.le_of_ble_eq_true rfl⟩ hP hD hK hS hA hB mW_0 rfl rfl hl.1 (Nat.le_of_ble_eq_true rfl) ⟨Nat.le_of_ble_eq_true rfl, Nat.le_of_ble_eq_true rfl⟩ dX9_loop_133 (fun x44 σ43 H locs hok hz hP hD hS => ?_)
    refine yVi (As := [.int 3, .int 0, .int x42, .int x44]) (cw := (mW o u cI cZ cJ T ga)) (ci := 9) S (v_X9_add l D cI cZ cJ o u T ra ga σ43 3 0 x42 x44 _ H.size hok) mi_X9_add kw_6_116 rfl rfl ⟨Nat.le_of_ble_eq_true rfl, Nat.le_of_ble_eq_true rfl⟩ hP hD hK hS hA hB mW_0 rfl rfl hl.1 (Nat.le_of_ble_eq_true rfl) ⟨Nat.le_of_ble_eq_true rfl, Nat.le_of_ble_eq_true rfl⟩ dX9_loop_136 (fun x46 σ45 H locs hok hz hP hD hS => ?_)
    refine lv_istore (lv' := [(8, .int x46), (7, .int x42), (6, .int x40), (5, .int x14), (4, .int x8), (3, .int x6), (2, .int x2), (0, .ref (u 87)), (1, .int a1)]) hx hb dX9_loop_139 hl (by decide) rfl (fun ls hl => ?_)
    refine lv_aload_n hx hb dX9_loop_141 rfl (lv_at hl 7 rfl) ?_
    refine lv_bipush (v := 12) hx hb dX9_loop_142 (by decide) ?_
    refine lv_iconst (v := 0) hx hb dX9_loop_144 (by decide) ?_
    refine lv_iload hx hb dX9_loop_145 (lv_at hl 2 rfl) ?_
    refine lv_aload_n hx hb dX9_loop_147 rfl (lv_at hl 7 rfl) ?_
    refine lv_bipush (v := 13) hx hb dX9_loop_148 (by decide) ?_
    refine lv_iconst (v := 4) hx hb dX9_loop_150 (by decide) ?_
    refine lv_iload hx hb dX9_loop_151 (lv_at hl 0 rfl) ?_
    refine lv_iconst (v := 0) hx hb dX9_loop_153 (by decide) ?_
    refine yVi (As := [.int 13, .int 4, .int x46, .int 0]) (cw := (mW o u cI cZ cJ T ga)) (ci := 9) S (v_X9_add l D cI cZ cJ o u T ra ga σ45 13 4 x46 0 _ H.size hok) mi_X9_add kw_6_116 rfl rfl ⟨Nat.le_of_ble_eq_true rfl, Nat.le_of_ble_eq_true rfl⟩ hP hD hK hS hA hB mW_0 rfl rfl hl.1 (Nat.le_of_ble_eq_true rfl) ⟨Nat.le_of_ble_eq_true rfl, Nat.le_of_ble_eq_true rfl⟩ dX9_loop_154 (fun x48 σ47 H locs hok hz hP hD hS => ?_)
    refine yVi (As := [.int 12, .int 0, .int x40, .int x48]) (cw := (mW o u cI cZ cJ T ga)) (ci := 9) S (v_X9_add l D cI cZ cJ o u T ra ga σ47 12 0 x40 x48 _ H.size hok) mi_X9_add kw_6_116 rfl rfl ⟨Nat.le_of_ble_eq_true rfl, Nat.le_of_ble_eq_true rfl⟩ hP hD hK hS hA hB mW_0 rfl rfl hl.1 (Nat.le_of_ble_eq_true rfl) ⟨Nat.le_of_ble_eq_true rfl, Nat.le_of_ble_eq_true rfl⟩ dX9_loop_157 (fun x50 σ49 H locs hok hz hP hD hS => ?_)
    refine lv_istore (lv' := [(9, .int x50), (8, .int x46), (7, .int x42), (6, .int x40), (5, .int x14), (4, .int x8), (3, .int x6), (2, .int x2), (0, .ref (u 87)), (1, .int a1)]) hx hb dX9_loop_160 hl (by decide) rfl (fun ls hl => ?_)
    refine lv_aload_n hx hb dX9_loop_162 rfl (lv_at hl 8 rfl) ?_
    refine lv_bipush (v := 12) hx hb dX9_loop_163 (by decide) ?_
    refine lv_iconst (v := 0) hx hb dX9_loop_165 (by decide) ?_
    refine lv_iload_n hx hb dX9_loop_166 rfl (lv_at hl 6 rfl) ?_
    refine lv_aload_n hx hb dX9_loop_167 rfl (lv_at hl 8 rfl) ?_
    refine lv_bipush (v := 16) hx hb dX9_loop_168 (by decide) ?_
    refine lv_iload_n hx hb dX9_loop_170 rfl (lv_at hl 7 rfl) ?_
    refine lv_iload hx hb dX9_loop_171 (lv_at hl 4 rfl) ?_
    refine lv_iload hx hb dX9_loop_173 (lv_at hl 0 rfl) ?_
    refine yVi (As := [.int 16, .int x2, .int x14, .int x50]) (cw := (mW o u cI cZ cJ T ga)) (ci := 9) S (v_X9_add l D cI cZ cJ o u T ra ga σ49 16 x2 x14 x50 _ H.size hok) mi_X9_add kw_6_116 rfl rfl ⟨Nat.le_of_ble_eq_true rfl, Nat.le_of_ble_eq_true rfl⟩ hP hD hK hS hA hB mW_0 rfl rfl hl.1 (Nat.le_of_ble_eq_true rfl) ⟨Nat.le_of_ble_eq_true rfl, Nat.le_of_ble_eq_true rfl⟩ dX9_loop_175 (fun x52 σ51 H locs hok hz hP hD hS => ?_)
    refine yVi (As := [.int 12, .int 0, .int x6, .int x52]) (cw := (mW o u cI cZ cJ T ga)) (ci := 9) S (v_X9_add l D cI cZ cJ o u T ra ga σ51 12 0 x6 x52 _ H.size hok) mi_X9_add kw_6_116 rfl rfl ⟨Nat.le_of_ble_eq_true rfl, Nat.le_of_ble_eq_true rfl⟩ hP hD hK hS hA hB mW_0 rfl rfl hl.1 (Nat.le_of_ble_eq_true rfl) ⟨Nat.le_of_ble_eq_true rfl, Nat.le_of_ble_eq_true rfl⟩ dX9_loop_178 (fun x54 σ53 H locs hok hz hP hD hS => ?_)
    exact yEnd S hr hlocks hP hD hS (Nat.le_of_ble_eq_true rfl) (Nat.le_of_ble_eq_true rfl) dX9_loop_181 hok

set_option maxHeartbeats 8000000 in
set_option maxRecDepth 100000 in
theorem v_X9_statement_1 (l : Launch) (D : va_G) (cI cZ cJ : ClassId) (o : Nat) (u : Nat → Nat) (T : Nat) (ra : Nat → Nat) (ga : SG) (σ : FS) (Φ : Int32 → FS → Prop) (sz : Nat) (hok : (wp_X9_statement_1 ga σ Φ)) : Met l yX9_statement (uW yX9_statement cX9_statement 6 (some .int)) ({ frames := 11, cells := 32, slots := 128, locals := 264 }) (va_Pc [.ref (u 87), .int 1] (aS ra ga D (tyL cI cZ cJ) (mW o u cI cZ cJ T ga σ) sz)) (yQi Φ D (mW o u cI cZ cJ T ga) (va_A (mW o u cI cZ cJ T ga σ) sz)) 32 128 (va_A (mW o u cI cZ cJ T ga σ) sz) := by
  refine aStart (lv := [(0, .ref (u 87)), (1, .int 1)]) (Qc := fun A => yQi Φ D (mW o u cI cZ cJ T ga) A) (by decide) (Nat.le_of_ble_eq_true rfl) rfl ?_
  intro p e s m args below meth c ls A H S hr hlocks hnm hl hK hP hD hS hA hB
  have hx := S.1
  have hb := S.2.1
  refine lv_iload_n hx hb dX9_statement_0 rfl (lv_at hl 1 rfl) ?_
  refine lv_if_eq (tgt := 13) hx hb dX9_statement_1 (by decide) (fun c => absurd c (by decide)) (fun _ => ?_)
  refine lv_aload_n hx hb dX9_statement_4 rfl (lv_at hl 0 rfl) ?_
  refine xg (ci := 9) S inX9 rfl hK hP mW_0 3 (by decide) rfl kw_5_233 rfl dX9_statement_5 ?_
  refine lv_bipush (v := 55) hx hb dX9_statement_8 (by decide) ?_
  refine lv_icmp_le (tgt := 21) hx hb dX9_statement_10 (by decide) (fun c_10 => ?_) (fun c_10 => ?_)
  · have hok := hok.1 c_10
    refine lv_aload_n hx hb dX9_statement_21 rfl (lv_at hl 0 rfl) ?_
    refine lv_bipush (v := 7) hx hb dX9_statement_22 (by decide) ?_
    refine yVi (As := [.int 7]) (cw := (mW o u cI cZ cJ T ga)) (ci := 9) S (v_X9_draw l D cI cZ cJ o u T ra ga σ 7 _ H.size hok) mi_X9_draw kw_6_45 rfl rfl ⟨Nat.le_of_ble_eq_true rfl, Nat.le_of_ble_eq_true rfl⟩ hP hD hK hS hA hB mW_0 rfl rfl hl.1 (Nat.le_of_ble_eq_true rfl) ⟨Nat.le_of_ble_eq_true rfl, Nat.le_of_ble_eq_true rfl⟩ dX9_statement_24 (fun x2 σ1 H locs hok hz hP hD hS => ?_)
    by_cases k_27_0 : x2 = 0
    · have hok := hok.1 k_27_0
      rw [k_27_0]
      refine lv_tableIn (off := 33) (tgt := 60) hx hb dX9_statement_27 (by decide) (by decide) (by decide) (by decide) ?_
      refine lv_aload_n hx hb dX9_statement_60 rfl (lv_at hl 0 rfl) ?_
      refine lv_bipush (v := 13) hx hb dX9_statement_61 (by decide) ?_
      refine lv_aload_n hx hb dX9_statement_63 rfl (lv_at hl 0 rfl) ?_
      refine lv_iconst (v := 2) hx hb dX9_statement_64 (by decide) ?_
      refine yVi (As := [.int 2]) (cw := (mW o u cI cZ cJ T ga)) (ci := 9) S (v_X9_draw l D cI cZ cJ o u T ra ga σ1 2 _ H.size hok) mi_X9_draw kw_6_45 rfl rfl ⟨Nat.le_of_ble_eq_true rfl, Nat.le_of_ble_eq_true rfl⟩ hP hD hK hS hA hB mW_0 rfl rfl hl.1 (Nat.le_of_ble_eq_true rfl) ⟨Nat.le_of_ble_eq_true rfl, Nat.le_of_ble_eq_true rfl⟩ dX9_statement_65 (fun x4 σ3 H locs hok hz hP hD hS => ?_)
      refine lv_aload_n hx hb dX9_statement_68 rfl (lv_at hl 0 rfl) ?_
      refine lv_iconst (v := 2) hx hb dX9_statement_69 (by decide) ?_
      refine yVi (As := [.int 2]) (cw := (mW o u cI cZ cJ T ga)) (ci := 9) S (v_X9_expression_2 l D cI cZ cJ o u T ra ga σ3 _ H.size hok) mi_X9_expression kw_6_112 rfl rfl ⟨Nat.le_of_ble_eq_true rfl, Nat.le_of_ble_eq_true rfl⟩ hP hD hK hS hA hB mW_0 rfl rfl hl.1 (Nat.le_of_ble_eq_true rfl) ⟨Nat.le_of_ble_eq_true rfl, Nat.le_of_ble_eq_true rfl⟩ dX9_statement_70 (fun x6 σ5 H locs hok hz hP hD hS => ?_)
      refine lv_iconst (v := 0) hx hb dX9_statement_73 (by decide) ?_
      refine yVi (As := [.int 13, .int x4, .int x6, .int 0]) (cw := (mW o u cI cZ cJ T ga)) (ci := 9) S (v_X9_add l D cI cZ cJ o u T ra ga σ5 13 x4 x6 0 _ H.size hok) mi_X9_add kw_6_116 rfl rfl ⟨Nat.le_of_ble_eq_true rfl, Nat.le_of_ble_eq_true rfl⟩ hP hD hK hS hA hB mW_0 rfl rfl hl.1 (Nat.le_of_ble_eq_true rfl) ⟨Nat.le_of_ble_eq_true rfl, Nat.le_of_ble_eq_true rfl⟩ dX9_statement_74 (fun x8 σ7 H locs hok hz hP hD hS => ?_)
      exact yEnd S hr hlocks hP hD hS (Nat.le_of_ble_eq_true rfl) (Nat.le_of_ble_eq_true rfl) dX9_statement_77 hok
    · have hok := hok.2 k_27_0
      by_cases k_27_1 : x2 = 1
      · have hok := hok.1 k_27_1
        rw [k_27_1]
        refine lv_tableIn (off := 51) (tgt := 78) hx hb dX9_statement_27 (by decide) (by decide) (by decide) (by decide) ?_
        refine lv_aload_n hx hb dX9_statement_78 rfl (lv_at hl 0 rfl) ?_
        refine lv_bipush (v := 19) hx hb dX9_statement_79 (by decide) ?_
        refine lv_iconst (v := 0) hx hb dX9_statement_81 (by decide) ?_
        refine lv_aload_n hx hb dX9_statement_82 rfl (lv_at hl 0 rfl) ?_
        refine lv_iconst (v := 2) hx hb dX9_statement_83 (by decide) ?_
        refine yVi (As := [.int 2]) (cw := (mW o u cI cZ cJ T ga)) (ci := 9) S (v_X9_expression_2 l D cI cZ cJ o u T ra ga σ1 _ H.size hok) mi_X9_expression kw_6_112 rfl rfl ⟨Nat.le_of_ble_eq_true rfl, Nat.le_of_ble_eq_true rfl⟩ hP hD hK hS hA hB mW_0 rfl rfl hl.1 (Nat.le_of_ble_eq_true rfl) ⟨Nat.le_of_ble_eq_true rfl, Nat.le_of_ble_eq_true rfl⟩ dX9_statement_84 (fun x10 σ9 H locs hok hz hP hD hS => ?_)
        refine lv_iconst (v := 0) hx hb dX9_statement_87 (by decide) ?_
        refine yVi (As := [.int 19, .int 0, .int x10, .int 0]) (cw := (mW o u cI cZ cJ T ga)) (ci := 9) S (v_X9_add l D cI cZ cJ o u T ra ga σ9 19 0 x10 0 _ H.size hok) mi_X9_add kw_6_116 rfl rfl ⟨Nat.le_of_ble_eq_true rfl, Nat.le_of_ble_eq_true rfl⟩ hP hD hK hS hA hB mW_0 rfl rfl hl.1 (Nat.le_of_ble_eq_true rfl) ⟨Nat.le_of_ble_eq_true rfl, Nat.le_of_ble_eq_true rfl⟩ dX9_statement_88 (fun x12 σ11 H locs hok hz hP hD hS => ?_)
        exact yEnd S hr hlocks hP hD hS (Nat.le_of_ble_eq_true rfl) (Nat.le_of_ble_eq_true rfl) dX9_statement_91 hok
      · have hok := hok.2 k_27_1
        by_cases k_27_2 : x2 = 2
        · have hok := hok.1 k_27_2
          rw [k_27_2]
          refine lv_tableIn (off := 65) (tgt := 92) hx hb dX9_statement_27 (by decide) (by decide) (by decide) (by decide) ?_
          refine lv_aload_n hx hb dX9_statement_92 rfl (lv_at hl 0 rfl) ?_
          refine lv_iconst (v := 4) hx hb dX9_statement_93 (by decide) ?_
          refine yVi (As := [.int 4]) (cw := (mW o u cI cZ cJ T ga)) (ci := 9) S (v_X9_draw l D cI cZ cJ o u T ra ga σ1 4 _ H.size hok) mi_X9_draw kw_6_45 rfl rfl ⟨Nat.le_of_ble_eq_true rfl, Nat.le_of_ble_eq_true rfl⟩ hP hD hK hS hA hB mW_0 rfl rfl hl.1 (Nat.le_of_ble_eq_true rfl) ⟨Nat.le_of_ble_eq_true rfl, Nat.le_of_ble_eq_true rfl⟩ dX9_statement_94 (fun x14 σ13 H locs hok hz hP hD hS => ?_)
          refine lv_if_ne (tgt := 108) hx hb dX9_statement_97 (by decide) (fun c_97 => ?_) (fun c_97 => ?_)
          · have hok := hok.2 c_97
            refine lv_aload_n hx hb dX9_statement_108 rfl (lv_at hl 0 rfl) ?_
            refine lv_iconst (v := 0) hx hb dX9_statement_109 (by decide) ?_
            refine lv_aload_n hx hb dX9_statement_110 rfl (lv_at hl 0 rfl) ?_
            refine lv_iconst (v := 4) hx hb dX9_statement_111 (by decide) ?_
            refine yVi (As := [.int 4]) (cw := (mW o u cI cZ cJ T ga)) (ci := 9) S (v_X9_draw l D cI cZ cJ o u T ra ga σ13 4 _ H.size hok) mi_X9_draw kw_6_45 rfl rfl ⟨Nat.le_of_ble_eq_true rfl, Nat.le_of_ble_eq_true rfl⟩ hP hD hK hS hA hB mW_0 rfl rfl hl.1 (Nat.le_of_ble_eq_true rfl) ⟨Nat.le_of_ble_eq_true rfl, Nat.le_of_ble_eq_true rfl⟩ dX9_statement_112 (fun x16 σ15 H locs hok hz hP hD hS => ?_)
            refine lv_iconst (v := 0) hx hb dX9_statement_115 (by decide) ?_
            refine lv_iconst (v := 0) hx hb dX9_statement_116 (by decide) ?_
            refine yVi (As := [.int 0, .int x16, .int 0, .int 0]) (cw := (mW o u cI cZ cJ T ga)) (ci := 9) S (v_X9_add l D cI cZ cJ o u T ra ga σ15 0 x16 0 0 _ H.size hok) mi_X9_add kw_6_116 rfl rfl ⟨Nat.le_of_ble_eq_true rfl, Nat.le_of_ble_eq_true rfl⟩ hP hD hK hS hA hB mW_0 rfl rfl hl.1 (Nat.le_of_ble_eq_true rfl) ⟨Nat.le_of_ble_eq_true rfl, Nat.le_of_ble_eq_true rfl⟩ dX9_statement_117 (fun x18 σ17 H locs hok hz hP hD hS => ?_)
            refine lv_istore_n (lv' := [(2, .int x18), (0, .ref (u 87)), (1, .int 1)]) hx hb dX9_statement_120 rfl hl (by decide) rfl (fun ls hl => ?_)
            refine lv_aload_n hx hb dX9_statement_121 rfl (lv_at hl 1 rfl) ?_
            refine lv_bipush (v := 14) hx hb dX9_statement_122 (by decide) ?_
            refine lv_iconst (v := 2) hx hb dX9_statement_124 (by decide) ?_
            refine lv_iload_n hx hb dX9_statement_125 rfl (lv_at hl 0 rfl) ?_
            refine lv_aload_n hx hb dX9_statement_126 rfl (lv_at hl 1 rfl) ?_
            refine lv_iconst (v := 1) hx hb dX9_statement_127 (by decide) ?_
            refine yVi (As := [.int 1]) (cw := (mW o u cI cZ cJ T ga)) (ci := 9) S (v_X9_expression_1 l D cI cZ cJ o u T ra ga σ17 _ H.size hok) mi_X9_expression kw_6_112 rfl rfl ⟨Nat.le_of_ble_eq_true rfl, Nat.le_of_ble_eq_true rfl⟩ hP hD hK hS hA hB mW_0 rfl rfl hl.1 (Nat.le_of_ble_eq_true rfl) ⟨Nat.le_of_ble_eq_true rfl, Nat.le_of_ble_eq_true rfl⟩ dX9_statement_128 (fun x20 σ19 H locs hok hz hP hD hS => ?_)
            refine yVi (As := [.int 14, .int 2, .int x18, .int x20]) (cw := (mW o u cI cZ cJ T ga)) (ci := 9) S (v_X9_add l D cI cZ cJ o u T ra ga σ19 14 2 x18 x20 _ H.size hok) mi_X9_add kw_6_116 rfl rfl ⟨Nat.le_of_ble_eq_true rfl, Nat.le_of_ble_eq_true rfl⟩ hP hD hK hS hA hB mW_0 rfl rfl hl.1 (Nat.le_of_ble_eq_true rfl) ⟨Nat.le_of_ble_eq_true rfl, Nat.le_of_ble_eq_true rfl⟩ dX9_statement_131 (fun x22 σ21 H locs hok hz hP hD hS => ?_)
            exact yEnd S hr hlocks hP hD hS (Nat.le_of_ble_eq_true rfl) (Nat.le_of_ble_eq_true rfl) dX9_statement_134 hok
          · have hok := hok.1 c_97
            refine lv_aload_n hx hb dX9_statement_100 rfl (lv_at hl 0 rfl) ?_
            refine lv_iconst (v := 1) hx hb dX9_statement_101 (by decide) ?_
            refine yVi (As := [.int 1]) (cw := (mW o u cI cZ cJ T ga)) (ci := 9) S (v_X9_expression_1 l D cI cZ cJ o u T ra ga σ13 _ H.size hok) mi_X9_expression kw_6_112 rfl rfl ⟨Nat.le_of_ble_eq_true rfl, Nat.le_of_ble_eq_true rfl⟩ hP hD hK hS hA hB mW_0 rfl rfl hl.1 (Nat.le_of_ble_eq_true rfl) ⟨Nat.le_of_ble_eq_true rfl, Nat.le_of_ble_eq_true rfl⟩ dX9_statement_102 (fun x24 σ23 H locs hok hz hP hD hS => ?_)
            refine lv_goto (tgt := 120) hx hb dX9_statement_105 (by decide) ?_
            refine lv_istore_n (lv' := [(2, .int x24), (0, .ref (u 87)), (1, .int 1)]) hx hb dX9_statement_120 rfl hl (by decide) rfl (fun ls hl => ?_)
            refine lv_aload_n hx hb dX9_statement_121 rfl (lv_at hl 1 rfl) ?_
            refine lv_bipush (v := 14) hx hb dX9_statement_122 (by decide) ?_
            refine lv_iconst (v := 2) hx hb dX9_statement_124 (by decide) ?_
            refine lv_iload_n hx hb dX9_statement_125 rfl (lv_at hl 0 rfl) ?_
            refine lv_aload_n hx hb dX9_statement_126 rfl (lv_at hl 1 rfl) ?_
            refine lv_iconst (v := 1) hx hb dX9_statement_127 (by decide) ?_
            refine yVi (As := [.int 1]) (cw := (mW o u cI cZ cJ T ga)) (ci := 9) S (v_X9_expression_1 l D cI cZ cJ o u T ra ga σ23 _ H.size hok) mi_X9_expression kw_6_112 rfl rfl ⟨Nat.le_of_ble_eq_true rfl, Nat.le_of_ble_eq_true rfl⟩ hP hD hK hS hA hB mW_0 rfl rfl hl.1 (Nat.le_of_ble_eq_true rfl) ⟨Nat.le_of_ble_eq_true rfl, Nat.le_of_ble_eq_true rfl⟩ dX9_statement_128 (fun x26 σ25 H locs hok hz hP hD hS => ?_)
            refine yVi (As := [.int 14, .int 2, .int x24, .int x26]) (cw := (mW o u cI cZ cJ T ga)) (ci := 9) S (v_X9_add l D cI cZ cJ o u T ra ga σ25 14 2 x24 x26 _ H.size hok) mi_X9_add kw_6_116 rfl rfl ⟨Nat.le_of_ble_eq_true rfl, Nat.le_of_ble_eq_true rfl⟩ hP hD hK hS hA hB mW_0 rfl rfl hl.1 (Nat.le_of_ble_eq_true rfl) ⟨Nat.le_of_ble_eq_true rfl, Nat.le_of_ble_eq_true rfl⟩ dX9_statement_131 (fun x28 σ27 H locs hok hz hP hD hS => ?_)
            exact yEnd S hr hlocks hP hD hS (Nat.le_of_ble_eq_true rfl) (Nat.le_of_ble_eq_true rfl) dX9_statement_134 hok
        · have hok := hok.2 k_27_2
          by_cases k_27_3 : x2 = 3
          · have hok := hok.1 k_27_3
            rw [k_27_3]
            refine lv_tableIn (off := 108) (tgt := 135) hx hb dX9_statement_27 (by decide) (by decide) (by decide) (by decide) ?_
            refine lv_aload_n hx hb dX9_statement_135 rfl (lv_at hl 0 rfl) ?_
            refine lv_iconst (v := 1) hx hb dX9_statement_136 (by decide) ?_
            refine yVi (As := [.int 1]) (cw := (mW o u cI cZ cJ T ga)) (ci := 9) S (v_X9_expression_1 l D cI cZ cJ o u T ra ga σ1 _ H.size hok) mi_X9_expression kw_6_112 rfl rfl ⟨Nat.le_of_ble_eq_true rfl, Nat.le_of_ble_eq_true rfl⟩ hP hD hK hS hA hB mW_0 rfl rfl hl.1 (Nat.le_of_ble_eq_true rfl) ⟨Nat.le_of_ble_eq_true rfl, Nat.le_of_ble_eq_true rfl⟩ dX9_statement_137 (fun x30 σ29 H locs hok hz hP hD hS => ?_)
            refine lv_istore_n (lv' := [(3, .int x30), (0, .ref (u 87)), (1, .int 1)]) hx hb dX9_statement_140 rfl hl (by decide) rfl (fun ls hl => ?_)
            refine lv_aload_n hx hb dX9_statement_141 rfl (lv_at hl 1 rfl) ?_
            refine lv_iload_n hx hb dX9_statement_142 rfl (lv_at hl 2 rfl) ?_
            refine lv_iconst (v := 1) hx hb dX9_statement_143 (by decide) ?_
            refine xisub (v := 0) S dX9_statement_144 (by decide) ?_
            refine yVi (As := [.int 0]) (cw := (mW o u cI cZ cJ T ga)) (ci := 9) S (v_X9_statement_0 l D cI cZ cJ o u T ra ga σ29 _ H.size hok) mi_X9_statement kw_6_117 rfl rfl ⟨Nat.le_of_ble_eq_true rfl, Nat.le_of_ble_eq_true rfl⟩ hP hD hK hS hA hB mW_0 rfl rfl hl.1 (Nat.le_of_ble_eq_true rfl) ⟨Nat.le_of_ble_eq_true rfl, Nat.le_of_ble_eq_true rfl⟩ dX9_statement_145 (fun x32 σ31 H locs hok hz hP hD hS => ?_)
            refine lv_istore (lv' := [(4, .int x32), (3, .int x30), (0, .ref (u 87)), (1, .int 1)]) hx hb dX9_statement_148 hl (by decide) rfl (fun ls hl => ?_)
            refine lv_aload_n hx hb dX9_statement_150 rfl (lv_at hl 2 rfl) ?_
            refine lv_bipush (v := 15) hx hb dX9_statement_151 (by decide) ?_
            refine lv_aload_n hx hb dX9_statement_153 rfl (lv_at hl 2 rfl) ?_
            refine lv_iconst (v := 2) hx hb dX9_statement_154 (by decide) ?_
            refine yVi (As := [.int 2]) (cw := (mW o u cI cZ cJ T ga)) (ci := 9) S (v_X9_draw l D cI cZ cJ o u T ra ga σ31 2 _ H.size hok) mi_X9_draw kw_6_45 rfl rfl ⟨Nat.le_of_ble_eq_true rfl, Nat.le_of_ble_eq_true rfl⟩ hP hD hK hS hA hB mW_0 rfl rfl hl.1 (Nat.le_of_ble_eq_true rfl) ⟨Nat.le_of_ble_eq_true rfl, Nat.le_of_ble_eq_true rfl⟩ dX9_statement_155 (fun x34 σ33 H locs hok hz hP hD hS => ?_)
            refine lv_if_ne (tgt := 165) hx hb dX9_statement_158 (by decide) (fun c_158 => ?_) (fun c_158 => ?_)
            · have hok := hok.2 c_158
              refine lv_aload_n hx hb dX9_statement_165 rfl (lv_at hl 2 rfl) ?_
              refine lv_iload_n hx hb dX9_statement_166 rfl (lv_at hl 3 rfl) ?_
              refine lv_iconst (v := 1) hx hb dX9_statement_167 (by decide) ?_
              refine xisub (v := 0) S dX9_statement_168 (by decide) ?_
              refine yVi (As := [.int 0]) (cw := (mW o u cI cZ cJ T ga)) (ci := 9) S (v_X9_statement_0 l D cI cZ cJ o u T ra ga σ33 _ H.size hok) mi_X9_statement kw_6_117 rfl rfl ⟨Nat.le_of_ble_eq_true rfl, Nat.le_of_ble_eq_true rfl⟩ hP hD hK hS hA hB mW_0 rfl rfl hl.1 (Nat.le_of_ble_eq_true rfl) ⟨Nat.le_of_ble_eq_true rfl, Nat.le_of_ble_eq_true rfl⟩ dX9_statement_169 (fun x36 σ35 H locs hok hz hP hD hS => ?_)
              refine lv_iload_n hx hb dX9_statement_172 rfl (lv_at hl 1 rfl) ?_
              refine lv_iload hx hb dX9_statement_173 (lv_at hl 0 rfl) ?_
              refine yVi (As := [.int 15, .int x36, .int x30, .int x32]) (cw := (mW o u cI cZ cJ T ga)) (ci := 9) S (v_X9_add l D cI cZ cJ o u T ra ga σ35 15 x36 x30 x32 _ H.size hok) mi_X9_add kw_6_116 rfl rfl ⟨Nat.le_of_ble_eq_true rfl, Nat.le_of_ble_eq_true rfl⟩ hP hD hK hS hA hB mW_0 rfl rfl hl.1 (Nat.le_of_ble_eq_true rfl) ⟨Nat.le_of_ble_eq_true rfl, Nat.le_of_ble_eq_true rfl⟩ dX9_statement_175 (fun x38 σ37 H locs hok hz hP hD hS => ?_)
              exact yEnd S hr hlocks hP hD hS (Nat.le_of_ble_eq_true rfl) (Nat.le_of_ble_eq_true rfl) dX9_statement_178 hok
            · have hok := hok.1 c_158
              refine lv_iconst (v := (-1)) hx hb dX9_statement_161 (by decide) ?_
              refine lv_goto (tgt := 172) hx hb dX9_statement_162 (by decide) ?_
              refine lv_iload_n hx hb dX9_statement_172 rfl (lv_at hl 1 rfl) ?_
              refine lv_iload hx hb dX9_statement_173 (lv_at hl 0 rfl) ?_
              refine yVi (As := [.int 15, .int (-1), .int x30, .int x32]) (cw := (mW o u cI cZ cJ T ga)) (ci := 9) S (v_X9_add l D cI cZ cJ o u T ra ga σ33 15 (-1) x30 x32 _ H.size hok) mi_X9_add kw_6_116 rfl rfl ⟨Nat.le_of_ble_eq_true rfl, Nat.le_of_ble_eq_true rfl⟩ hP hD hK hS hA hB mW_0 rfl rfl hl.1 (Nat.le_of_ble_eq_true rfl) ⟨Nat.le_of_ble_eq_true rfl, Nat.le_of_ble_eq_true rfl⟩ dX9_statement_175 (fun x40 σ39 H locs hok hz hP hD hS => ?_)
              exact yEnd S hr hlocks hP hD hS (Nat.le_of_ble_eq_true rfl) (Nat.le_of_ble_eq_true rfl) dX9_statement_178 hok
          · have hok := hok.2 k_27_3
            by_cases k_27_4 : x2 = 4
            · have hok := hok.1 k_27_4
              rw [k_27_4]
              refine lv_tableIn (off := 152) (tgt := 179) hx hb dX9_statement_27 (by decide) (by decide) (by decide) (by decide) ?_
              refine lv_aload_n hx hb dX9_statement_179 rfl (lv_at hl 0 rfl) ?_
              refine lv_iload_n hx hb dX9_statement_180 rfl (lv_at hl 1 rfl) ?_
              refine yVi (As := [.int 1]) (cw := (mW o u cI cZ cJ T ga)) (ci := 9) S (v_X9_loop l D cI cZ cJ o u T ra ga σ1 1 _ H.size hok) mi_X9_loop kw_6_118 rfl rfl ⟨Nat.le_of_ble_eq_true rfl, Nat.le_of_ble_eq_true rfl⟩ hP hD hK hS hA hB mW_0 rfl rfl hl.1 (Nat.le_of_ble_eq_true rfl) ⟨Nat.le_of_ble_eq_true rfl, Nat.le_of_ble_eq_true rfl⟩ dX9_statement_181 (fun x42 σ41 H locs hok hz hP hD hS => ?_)
              exact yEnd S hr hlocks hP hD hS (Nat.le_of_ble_eq_true rfl) (Nat.le_of_ble_eq_true rfl) dX9_statement_184 hok
            · have hok := hok.2 k_27_4
              have q_27_0 := sw_ni k_27_0 (z := 0) (by decide)
              have q_27_1 := sw_ni k_27_1 (z := 1) (by decide)
              have q_27_2 := sw_ni k_27_2 (z := 2) (by decide)
              have q_27_3 := sw_ni k_27_3 (z := 3) (by decide)
              have q_27_4 := sw_ni k_27_4 (z := 4) (by decide)
              refine lv_tableOut (tgt := 185) hx hb dX9_statement_27 (by omega) (by decide) ?_
              refine lv_aload_n hx hb dX9_statement_185 rfl (lv_at hl 0 rfl) ?_
              refine lv_iload_n hx hb dX9_statement_186 rfl (lv_at hl 1 rfl) ?_
              refine lv_iconst (v := 1) hx hb dX9_statement_187 (by decide) ?_
              refine xisub (v := 0) S dX9_statement_188 (by decide) ?_
              refine yVi (As := [.int 0]) (cw := (mW o u cI cZ cJ T ga)) (ci := 9) S (v_X9_statement_0 l D cI cZ cJ o u T ra ga σ1 _ H.size hok) mi_X9_statement kw_6_117 rfl rfl ⟨Nat.le_of_ble_eq_true rfl, Nat.le_of_ble_eq_true rfl⟩ hP hD hK hS hA hB mW_0 rfl rfl hl.1 (Nat.le_of_ble_eq_true rfl) ⟨Nat.le_of_ble_eq_true rfl, Nat.le_of_ble_eq_true rfl⟩ dX9_statement_189 (fun x44 σ43 H locs hok hz hP hD hS => ?_)
              refine lv_istore (lv' := [(5, .int x44), (0, .ref (u 87)), (1, .int 1)]) hx hb dX9_statement_192 hl (by decide) rfl (fun ls hl => ?_)
              refine lv_aload_n hx hb dX9_statement_194 rfl (lv_at hl 1 rfl) ?_
              refine lv_bipush (v := 12) hx hb dX9_statement_195 (by decide) ?_
              refine lv_iconst (v := 0) hx hb dX9_statement_197 (by decide) ?_
              refine lv_iload hx hb dX9_statement_198 (lv_at hl 0 rfl) ?_
              refine lv_aload_n hx hb dX9_statement_200 rfl (lv_at hl 1 rfl) ?_
              refine lv_iload_n hx hb dX9_statement_201 rfl (lv_at hl 2 rfl) ?_
              refine lv_iconst (v := 1) hx hb dX9_statement_202 (by decide) ?_
              refine xisub (v := 0) S dX9_statement_203 (by decide) ?_
              refine yVi (As := [.int 0]) (cw := (mW o u cI cZ cJ T ga)) (ci := 9) S (v_X9_statement_0 l D cI cZ cJ o u T ra ga σ43 _ H.size hok) mi_X9_statement kw_6_117 rfl rfl ⟨Nat.le_of_ble_eq_true rfl, Nat.le_of_ble_eq_true rfl⟩ hP hD hK hS hA hB mW_0 rfl rfl hl.1 (Nat.le_of_ble_eq_true rfl) ⟨Nat.le_of_ble_eq_true rfl, Nat.le_of_ble_eq_true rfl⟩ dX9_statement_204 (fun x46 σ45 H locs hok hz hP hD hS => ?_)
              refine yVi (As := [.int 12, .int 0, .int x44, .int x46]) (cw := (mW o u cI cZ cJ T ga)) (ci := 9) S (v_X9_add l D cI cZ cJ o u T ra ga σ45 12 0 x44 x46 _ H.size hok) mi_X9_add kw_6_116 rfl rfl ⟨Nat.le_of_ble_eq_true rfl, Nat.le_of_ble_eq_true rfl⟩ hP hD hK hS hA hB mW_0 rfl rfl hl.1 (Nat.le_of_ble_eq_true rfl) ⟨Nat.le_of_ble_eq_true rfl, Nat.le_of_ble_eq_true rfl⟩ dX9_statement_207 (fun x48 σ47 H locs hok hz hP hD hS => ?_)
              exact yEnd S hr hlocks hP hD hS (Nat.le_of_ble_eq_true rfl) (Nat.le_of_ble_eq_true rfl) dX9_statement_210 hok
  · have hok := hok.2 c_10
    refine lv_aload_n hx hb dX9_statement_13 rfl (lv_at hl 0 rfl) ?_
    refine lv_iconst (v := 3) hx hb dX9_statement_14 (by decide) ?_
    refine yVi (As := [.int 3]) (cw := (mW o u cI cZ cJ T ga)) (ci := 9) S (v_X9_draw l D cI cZ cJ o u T ra ga σ 3 _ H.size hok) mi_X9_draw kw_6_45 rfl rfl ⟨Nat.le_of_ble_eq_true rfl, Nat.le_of_ble_eq_true rfl⟩ hP hD hK hS hA hB mW_0 rfl rfl hl.1 (Nat.le_of_ble_eq_true rfl) ⟨Nat.le_of_ble_eq_true rfl, Nat.le_of_ble_eq_true rfl⟩ dX9_statement_15 (fun x50 σ49 H locs hok hz hP hD hS => ?_)
    refine lv_goto (tgt := 27) hx hb dX9_statement_18 (by decide) ?_
    by_cases k_27_0 : x50 = 0
    · have hok := hok.1 k_27_0
      rw [k_27_0]
      refine lv_tableIn (off := 33) (tgt := 60) hx hb dX9_statement_27 (by decide) (by decide) (by decide) (by decide) ?_
      refine lv_aload_n hx hb dX9_statement_60 rfl (lv_at hl 0 rfl) ?_
      refine lv_bipush (v := 13) hx hb dX9_statement_61 (by decide) ?_
      refine lv_aload_n hx hb dX9_statement_63 rfl (lv_at hl 0 rfl) ?_
      refine lv_iconst (v := 2) hx hb dX9_statement_64 (by decide) ?_
      refine yVi (As := [.int 2]) (cw := (mW o u cI cZ cJ T ga)) (ci := 9) S (v_X9_draw l D cI cZ cJ o u T ra ga σ49 2 _ H.size hok) mi_X9_draw kw_6_45 rfl rfl ⟨Nat.le_of_ble_eq_true rfl, Nat.le_of_ble_eq_true rfl⟩ hP hD hK hS hA hB mW_0 rfl rfl hl.1 (Nat.le_of_ble_eq_true rfl) ⟨Nat.le_of_ble_eq_true rfl, Nat.le_of_ble_eq_true rfl⟩ dX9_statement_65 (fun x52 σ51 H locs hok hz hP hD hS => ?_)
      refine lv_aload_n hx hb dX9_statement_68 rfl (lv_at hl 0 rfl) ?_
      refine lv_iconst (v := 2) hx hb dX9_statement_69 (by decide) ?_
      refine yVi (As := [.int 2]) (cw := (mW o u cI cZ cJ T ga)) (ci := 9) S (v_X9_expression_2 l D cI cZ cJ o u T ra ga σ51 _ H.size hok) mi_X9_expression kw_6_112 rfl rfl ⟨Nat.le_of_ble_eq_true rfl, Nat.le_of_ble_eq_true rfl⟩ hP hD hK hS hA hB mW_0 rfl rfl hl.1 (Nat.le_of_ble_eq_true rfl) ⟨Nat.le_of_ble_eq_true rfl, Nat.le_of_ble_eq_true rfl⟩ dX9_statement_70 (fun x54 σ53 H locs hok hz hP hD hS => ?_)
      refine lv_iconst (v := 0) hx hb dX9_statement_73 (by decide) ?_
      refine yVi (As := [.int 13, .int x52, .int x54, .int 0]) (cw := (mW o u cI cZ cJ T ga)) (ci := 9) S (v_X9_add l D cI cZ cJ o u T ra ga σ53 13 x52 x54 0 _ H.size hok) mi_X9_add kw_6_116 rfl rfl ⟨Nat.le_of_ble_eq_true rfl, Nat.le_of_ble_eq_true rfl⟩ hP hD hK hS hA hB mW_0 rfl rfl hl.1 (Nat.le_of_ble_eq_true rfl) ⟨Nat.le_of_ble_eq_true rfl, Nat.le_of_ble_eq_true rfl⟩ dX9_statement_74 (fun x56 σ55 H locs hok hz hP hD hS => ?_)
      exact yEnd S hr hlocks hP hD hS (Nat.le_of_ble_eq_true rfl) (Nat.le_of_ble_eq_true rfl) dX9_statement_77 hok
    · have hok := hok.2 k_27_0
      by_cases k_27_1 : x50 = 1
      · have hok := hok.1 k_27_1
        rw [k_27_1]
        refine lv_tableIn (off := 51) (tgt := 78) hx hb dX9_statement_27 (by decide) (by decide) (by decide) (by decide) ?_
        refine lv_aload_n hx hb dX9_statement_78 rfl (lv_at hl 0 rfl) ?_
        refine lv_bipush (v := 19) hx hb dX9_statement_79 (by decide) ?_
        refine lv_iconst (v := 0) hx hb dX9_statement_81 (by decide) ?_
        refine lv_aload_n hx hb dX9_statement_82 rfl (lv_at hl 0 rfl) ?_
        refine lv_iconst (v := 2) hx hb dX9_statement_83 (by decide) ?_
        refine yVi (As := [.int 2]) (cw := (mW o u cI cZ cJ T ga)) (ci := 9) S (v_X9_expression_2 l D cI cZ cJ o u T ra ga σ49 _ H.size hok) mi_X9_expression kw_6_112 rfl rfl ⟨Nat.le_of_ble_eq_true rfl, Nat.le_of_ble_eq_true rfl⟩ hP hD hK hS hA hB mW_0 rfl rfl hl.1 (Nat.le_of_ble_eq_true rfl) ⟨Nat.le_of_ble_eq_true rfl, Nat.le_of_ble_eq_true rfl⟩ dX9_statement_84 (fun x58 σ57 H locs hok hz hP hD hS => ?_)
        refine lv_iconst (v := 0) hx hb dX9_statement_87 (by decide) ?_
        refine yVi (As := [.int 19, .int 0, .int x58, .int 0]) (cw := (mW o u cI cZ cJ T ga)) (ci := 9) S (v_X9_add l D cI cZ cJ o u T ra ga σ57 19 0 x58 0 _ H.size hok) mi_X9_add kw_6_116 rfl rfl ⟨Nat.le_of_ble_eq_true rfl, Nat.le_of_ble_eq_true rfl⟩ hP hD hK hS hA hB mW_0 rfl rfl hl.1 (Nat.le_of_ble_eq_true rfl) ⟨Nat.le_of_ble_eq_true rfl, Nat.le_of_ble_eq_true rfl⟩ dX9_statement_88 (fun x60 σ59 H locs hok hz hP hD hS => ?_)
        exact yEnd S hr hlocks hP hD hS (Nat.le_of_ble_eq_true rfl) (Nat.le_of_ble_eq_true rfl) dX9_statement_91 hok
      · have hok := hok.2 k_27_1
        by_cases k_27_2 : x50 = 2
        · have hok := hok.1 k_27_2
          rw [k_27_2]
          refine lv_tableIn (off := 65) (tgt := 92) hx hb dX9_statement_27 (by decide) (by decide) (by decide) (by decide) ?_
          refine lv_aload_n hx hb dX9_statement_92 rfl (lv_at hl 0 rfl) ?_
          refine lv_iconst (v := 4) hx hb dX9_statement_93 (by decide) ?_
          refine yVi (As := [.int 4]) (cw := (mW o u cI cZ cJ T ga)) (ci := 9) S (v_X9_draw l D cI cZ cJ o u T ra ga σ49 4 _ H.size hok) mi_X9_draw kw_6_45 rfl rfl ⟨Nat.le_of_ble_eq_true rfl, Nat.le_of_ble_eq_true rfl⟩ hP hD hK hS hA hB mW_0 rfl rfl hl.1 (Nat.le_of_ble_eq_true rfl) ⟨Nat.le_of_ble_eq_true rfl, Nat.le_of_ble_eq_true rfl⟩ dX9_statement_94 (fun x62 σ61 H locs hok hz hP hD hS => ?_)
          refine lv_if_ne (tgt := 108) hx hb dX9_statement_97 (by decide) (fun c_97 => ?_) (fun c_97 => ?_)
          · have hok := hok.2 c_97
            refine lv_aload_n hx hb dX9_statement_108 rfl (lv_at hl 0 rfl) ?_
            refine lv_iconst (v := 0) hx hb dX9_statement_109 (by decide) ?_
            refine lv_aload_n hx hb dX9_statement_110 rfl (lv_at hl 0 rfl) ?_
            refine lv_iconst (v := 4) hx hb dX9_statement_111 (by decide) ?_
            refine yVi (As := [.int 4]) (cw := (mW o u cI cZ cJ T ga)) (ci := 9) S (v_X9_draw l D cI cZ cJ o u T ra ga σ61 4 _ H.size hok) mi_X9_draw kw_6_45 rfl rfl ⟨Nat.le_of_ble_eq_true rfl, Nat.le_of_ble_eq_true rfl⟩ hP hD hK hS hA hB mW_0 rfl rfl hl.1 (Nat.le_of_ble_eq_true rfl) ⟨Nat.le_of_ble_eq_true rfl, Nat.le_of_ble_eq_true rfl⟩ dX9_statement_112 (fun x64 σ63 H locs hok hz hP hD hS => ?_)
            refine lv_iconst (v := 0) hx hb dX9_statement_115 (by decide) ?_
            refine lv_iconst (v := 0) hx hb dX9_statement_116 (by decide) ?_
            refine yVi (As := [.int 0, .int x64, .int 0, .int 0]) (cw := (mW o u cI cZ cJ T ga)) (ci := 9) S (v_X9_add l D cI cZ cJ o u T ra ga σ63 0 x64 0 0 _ H.size hok) mi_X9_add kw_6_116 rfl rfl ⟨Nat.le_of_ble_eq_true rfl, Nat.le_of_ble_eq_true rfl⟩ hP hD hK hS hA hB mW_0 rfl rfl hl.1 (Nat.le_of_ble_eq_true rfl) ⟨Nat.le_of_ble_eq_true rfl, Nat.le_of_ble_eq_true rfl⟩ dX9_statement_117 (fun x66 σ65 H locs hok hz hP hD hS => ?_)
            refine lv_istore_n (lv' := [(2, .int x66), (0, .ref (u 87)), (1, .int 1)]) hx hb dX9_statement_120 rfl hl (by decide) rfl (fun ls hl => ?_)
            refine lv_aload_n hx hb dX9_statement_121 rfl (lv_at hl 1 rfl) ?_
            refine lv_bipush (v := 14) hx hb dX9_statement_122 (by decide) ?_
            refine lv_iconst (v := 2) hx hb dX9_statement_124 (by decide) ?_
            refine lv_iload_n hx hb dX9_statement_125 rfl (lv_at hl 0 rfl) ?_
            refine lv_aload_n hx hb dX9_statement_126 rfl (lv_at hl 1 rfl) ?_
            refine lv_iconst (v := 1) hx hb dX9_statement_127 (by decide) ?_
            refine yVi (As := [.int 1]) (cw := (mW o u cI cZ cJ T ga)) (ci := 9) S (v_X9_expression_1 l D cI cZ cJ o u T ra ga σ65 _ H.size hok) mi_X9_expression kw_6_112 rfl rfl ⟨Nat.le_of_ble_eq_true rfl, Nat.le_of_ble_eq_true rfl⟩ hP hD hK hS hA hB mW_0 rfl rfl hl.1 (Nat.le_of_ble_eq_true rfl) ⟨Nat.le_of_ble_eq_true rfl, Nat.le_of_ble_eq_true rfl⟩ dX9_statement_128 (fun x68 σ67 H locs hok hz hP hD hS => ?_)
            refine yVi (As := [.int 14, .int 2, .int x66, .int x68]) (cw := (mW o u cI cZ cJ T ga)) (ci := 9) S (v_X9_add l D cI cZ cJ o u T ra ga σ67 14 2 x66 x68 _ H.size hok) mi_X9_add kw_6_116 rfl rfl ⟨Nat.le_of_ble_eq_true rfl, Nat.le_of_ble_eq_true rfl⟩ hP hD hK hS hA hB mW_0 rfl rfl hl.1 (Nat.le_of_ble_eq_true rfl) ⟨Nat.le_of_ble_eq_true rfl, Nat.le_of_ble_eq_true rfl⟩ dX9_statement_131 (fun x70 σ69 H locs hok hz hP hD hS => ?_)
            exact yEnd S hr hlocks hP hD hS (Nat.le_of_ble_eq_true rfl) (Nat.le_of_ble_eq_true rfl) dX9_statement_134 hok
          · have hok := hok.1 c_97
            refine lv_aload_n hx hb dX9_statement_100 rfl (lv_at hl 0 rfl) ?_
            refine lv_iconst (v := 1) hx hb dX9_statement_101 (by decide) ?_
            refine yVi (As := [.int 1]) (cw := (mW o u cI cZ cJ T ga)) (ci := 9) S (v_X9_expression_1 l D cI cZ cJ o u T ra ga σ61 _ H.size hok) mi_X9_expression kw_6_112 rfl rfl ⟨Nat.le_of_ble_eq_true rfl, Nat.le_of_ble_eq_true rfl⟩ hP hD hK hS hA hB mW_0 rfl rfl hl.1 (Nat.le_of_ble_eq_true rfl) ⟨Nat.le_of_ble_eq_true rfl, Nat.le_of_ble_eq_true rfl⟩ dX9_statement_102 (fun x72 σ71 H locs hok hz hP hD hS => ?_)
            refine lv_goto (tgt := 120) hx hb dX9_statement_105 (by decide) ?_
            refine lv_istore_n (lv' := [(2, .int x72), (0, .ref (u 87)), (1, .int 1)]) hx hb dX9_statement_120 rfl hl (by decide) rfl (fun ls hl => ?_)
            refine lv_aload_n hx hb dX9_statement_121 rfl (lv_at hl 1 rfl) ?_
            refine lv_bipush (v := 14) hx hb dX9_statement_122 (by decide) ?_
            refine lv_iconst (v := 2) hx hb dX9_statement_124 (by decide) ?_
            refine lv_iload_n hx hb dX9_statement_125 rfl (lv_at hl 0 rfl) ?_
            refine lv_aload_n hx hb dX9_statement_126 rfl (lv_at hl 1 rfl) ?_
            refine lv_iconst (v := 1) hx hb dX9_statement_127 (by decide) ?_
            refine yVi (As := [.int 1]) (cw := (mW o u cI cZ cJ T ga)) (ci := 9) S (v_X9_expression_1 l D cI cZ cJ o u T ra ga σ71 _ H.size hok) mi_X9_expression kw_6_112 rfl rfl ⟨Nat.le_of_ble_eq_true rfl, Nat.le_of_ble_eq_true rfl⟩ hP hD hK hS hA hB mW_0 rfl rfl hl.1 (Nat.le_of_ble_eq_true rfl) ⟨Nat.le_of_ble_eq_true rfl, Nat.le_of_ble_eq_true rfl⟩ dX9_statement_128 (fun x74 σ73 H locs hok hz hP hD hS => ?_)
            refine yVi (As := [.int 14, .int 2, .int x72, .int x74]) (cw := (mW o u cI cZ cJ T ga)) (ci := 9) S (v_X9_add l D cI cZ cJ o u T ra ga σ73 14 2 x72 x74 _ H.size hok) mi_X9_add kw_6_116 rfl rfl ⟨Nat.le_of_ble_eq_true rfl, Nat.le_of_ble_eq_true rfl⟩ hP hD hK hS hA hB mW_0 rfl rfl hl.1 (Nat.le_of_ble_eq_true rfl) ⟨Nat.le_of_ble_eq_true rfl, Nat.le_of_ble_eq_true rfl⟩ dX9_statement_131 (fun x76 σ75 H locs hok hz hP hD hS => ?_)
            exact yEnd S hr hlocks hP hD hS (Nat.le_of_ble_eq_true rfl) (Nat.le_of_ble_eq_true rfl) dX9_statement_134 hok
        · have hok := hok.2 k_27_2
          by_cases k_27_3 : x50 = 3
          · have hok := hok.1 k_27_3
            rw [k_27_3]
            refine lv_tableIn (off := 108) (tgt := 135) hx hb dX9_statement_27 (by decide) (by decide) (by decide) (by decide) ?_
            refine lv_aload_n hx hb dX9_statement_135 rfl (lv_at hl 0 rfl) ?_
            refine lv_iconst (v := 1) hx hb dX9_statement_136 (by decide) ?_
            refine yVi (As := [.int 1]) (cw := (mW o u cI cZ cJ T ga)) (ci := 9) S (v_X9_expression_1 l D cI cZ cJ o u T ra ga σ49 _ H.size hok) mi_X9_expression kw_6_112 rfl rfl ⟨Nat.le_of_ble_eq_true rfl, Nat.le_of_ble_eq_true rfl⟩ hP hD hK hS hA hB mW_0 rfl rfl hl.1 (Nat.le_of_ble_eq_true rfl) ⟨Nat.le_of_ble_eq_true rfl, Nat.le_of_ble_eq_true rfl⟩ dX9_statement_137 (fun x78 σ77 H locs hok hz hP hD hS => ?_)
            refine lv_istore_n (lv' := [(3, .int x78), (0, .ref (u 87)), (1, .int 1)]) hx hb dX9_statement_140 rfl hl (by decide) rfl (fun ls hl => ?_)
            refine lv_aload_n hx hb dX9_statement_141 rfl (lv_at hl 1 rfl) ?_
            refine lv_iload_n hx hb dX9_statement_142 rfl (lv_at hl 2 rfl) ?_
            refine lv_iconst (v := 1) hx hb dX9_statement_143 (by decide) ?_
            refine xisub (v := 0) S dX9_statement_144 (by decide) ?_
            refine yVi (As := [.int 0]) (cw := (mW o u cI cZ cJ T ga)) (ci := 9) S (v_X9_statement_0 l D cI cZ cJ o u T ra ga σ77 _ H.size hok) mi_X9_statement kw_6_117 rfl rfl ⟨Nat.le_of_ble_eq_true rfl, Nat.le_of_ble_eq_true rfl⟩ hP hD hK hS hA hB mW_0 rfl rfl hl.1 (Nat.le_of_ble_eq_true rfl) ⟨Nat.le_of_ble_eq_true rfl, Nat.le_of_ble_eq_true rfl⟩ dX9_statement_145 (fun x80 σ79 H locs hok hz hP hD hS => ?_)
            refine lv_istore (lv' := [(4, .int x80), (3, .int x78), (0, .ref (u 87)), (1, .int 1)]) hx hb dX9_statement_148 hl (by decide) rfl (fun ls hl => ?_)
            refine lv_aload_n hx hb dX9_statement_150 rfl (lv_at hl 2 rfl) ?_
            refine lv_bipush (v := 15) hx hb dX9_statement_151 (by decide) ?_
            refine lv_aload_n hx hb dX9_statement_153 rfl (lv_at hl 2 rfl) ?_
            refine lv_iconst (v := 2) hx hb dX9_statement_154 (by decide) ?_
            refine yVi (As := [.int 2]) (cw := (mW o u cI cZ cJ T ga)) (ci := 9) S (v_X9_draw l D cI cZ cJ o u T ra ga σ79 2 _ H.size hok) mi_X9_draw kw_6_45 rfl rfl ⟨Nat.le_of_ble_eq_true rfl, Nat.le_of_ble_eq_true rfl⟩ hP hD hK hS hA hB mW_0 rfl rfl hl.1 (Nat.le_of_ble_eq_true rfl) ⟨Nat.le_of_ble_eq_true rfl, Nat.le_of_ble_eq_true rfl⟩ dX9_statement_155 (fun x82 σ81 H locs hok hz hP hD hS => ?_)
            refine lv_if_ne (tgt := 165) hx hb dX9_statement_158 (by decide) (fun c_158 => ?_) (fun c_158 => ?_)
            · have hok := hok.2 c_158
              refine lv_aload_n hx hb dX9_statement_165 rfl (lv_at hl 2 rfl) ?_
              refine lv_iload_n hx hb dX9_statement_166 rfl (lv_at hl 3 rfl) ?_
              refine lv_iconst (v := 1) hx hb dX9_statement_167 (by decide) ?_
              refine xisub (v := 0) S dX9_statement_168 (by decide) ?_
              refine yVi (As := [.int 0]) (cw := (mW o u cI cZ cJ T ga)) (ci := 9) S (v_X9_statement_0 l D cI cZ cJ o u T ra ga σ81 _ H.size hok) mi_X9_statement kw_6_117 rfl rfl ⟨Nat.le_of_ble_eq_true rfl, Nat.le_of_ble_eq_true rfl⟩ hP hD hK hS hA hB mW_0 rfl rfl hl.1 (Nat.le_of_ble_eq_true rfl) ⟨Nat.le_of_ble_eq_true rfl, Nat.le_of_ble_eq_true rfl⟩ dX9_statement_169 (fun x84 σ83 H locs hok hz hP hD hS => ?_)
              refine lv_iload_n hx hb dX9_statement_172 rfl (lv_at hl 1 rfl) ?_
              refine lv_iload hx hb dX9_statement_173 (lv_at hl 0 rfl) ?_
              refine yVi (As := [.int 15, .int x84, .int x78, .int x80]) (cw := (mW o u cI cZ cJ T ga)) (ci := 9) S (v_X9_add l D cI cZ cJ o u T ra ga σ83 15 x84 x78 x80 _ H.size hok) mi_X9_add kw_6_116 rfl rfl ⟨Nat.le_of_ble_eq_true rfl, Nat.le_of_ble_eq_true rfl⟩ hP hD hK hS hA hB mW_0 rfl rfl hl.1 (Nat.le_of_ble_eq_true rfl) ⟨Nat.le_of_ble_eq_true rfl, Nat.le_of_ble_eq_true rfl⟩ dX9_statement_175 (fun x86 σ85 H locs hok hz hP hD hS => ?_)
              exact yEnd S hr hlocks hP hD hS (Nat.le_of_ble_eq_true rfl) (Nat.le_of_ble_eq_true rfl) dX9_statement_178 hok
            · have hok := hok.1 c_158
              refine lv_iconst (v := (-1)) hx hb dX9_statement_161 (by decide) ?_
              refine lv_goto (tgt := 172) hx hb dX9_statement_162 (by decide) ?_
              refine lv_iload_n hx hb dX9_statement_172 rfl (lv_at hl 1 rfl) ?_
              refine lv_iload hx hb dX9_statement_173 (lv_at hl 0 rfl) ?_
              refine yVi (As := [.int 15, .int (-1), .int x78, .int x80]) (cw := (mW o u cI cZ cJ T ga)) (ci := 9) S (v_X9_add l D cI cZ cJ o u T ra ga σ81 15 (-1) x78 x80 _ H.size hok) mi_X9_add kw_6_116 rfl rfl ⟨Nat.le_of_ble_eq_true rfl, Nat.le_of_ble_eq_true rfl⟩ hP hD hK hS hA hB mW_0 rfl rfl hl.1 (Nat.le_of_ble_eq_true rfl) ⟨Nat.le_of_ble_eq_true rfl, Nat.le_of_ble_eq_true rfl⟩ dX9_statement_175 (fun x88 σ87 H locs hok hz hP hD hS => ?_)
              exact yEnd S hr hlocks hP hD hS (Nat.le_of_ble_eq_true rfl) (Nat.le_of_ble_eq_true rfl) dX9_statement_178 hok
          · have hok := hok.2 k_27_3
            by_cases k_27_4 : x50 = 4
            · have hok := hok.1 k_27_4
              rw [k_27_4]
              refine lv_tableIn (off := 152) (tgt := 179) hx hb dX9_statement_27 (by decide) (by decide) (by decide) (by decide) ?_
              refine lv_aload_n hx hb dX9_statement_179 rfl (lv_at hl 0 rfl) ?_
              refine lv_iload_n hx hb dX9_statement_180 rfl (lv_at hl 1 rfl) ?_
              refine yVi (As := [.int 1]) (cw := (mW o u cI cZ cJ T ga)) (ci := 9) S (v_X9_loop l D cI cZ cJ o u T ra ga σ49 1 _ H.size hok) mi_X9_loop kw_6_118 rfl rfl ⟨Nat.le_of_ble_eq_true rfl, Nat.le_of_ble_eq_true rfl⟩ hP hD hK hS hA hB mW_0 rfl rfl hl.1 (Nat.le_of_ble_eq_true rfl) ⟨Nat.le_of_ble_eq_true rfl, Nat.le_of_ble_eq_true rfl⟩ dX9_statement_181 (fun x90 σ89 H locs hok hz hP hD hS => ?_)
              exact yEnd S hr hlocks hP hD hS (Nat.le_of_ble_eq_true rfl) (Nat.le_of_ble_eq_true rfl) dX9_statement_184 hok
            · have hok := hok.2 k_27_4
              have q_27_0 := sw_ni k_27_0 (z := 0) (by decide)
              have q_27_1 := sw_ni k_27_1 (z := 1) (by decide)
              have q_27_2 := sw_ni k_27_2 (z := 2) (by decide)
              have q_27_3 := sw_ni k_27_3 (z := 3) (by decide)
              have q_27_4 := sw_ni k_27_4 (z := 4) (by decide)
              refine lv_tableOut (tgt := 185) hx hb dX9_statement_27 (by omega) (by decide) ?_
              refine lv_aload_n hx hb dX9_statement_185 rfl (lv_at hl 0 rfl) ?_
              refine lv_iload_n hx hb dX9_statement_186 rfl (lv_at hl 1 rfl) ?_
              refine lv_iconst (v := 1) hx hb dX9_statement_187 (by decide) ?_
              refine xisub (v := 0) S dX9_statement_188 (by decide) ?_
              refine yVi (As := [.int 0]) (cw := (mW o u cI cZ cJ T ga)) (ci := 9) S (v_X9_statement_0 l D cI cZ cJ o u T ra ga σ49 _ H.size hok) mi_X9_statement kw_6_117 rfl rfl ⟨Nat.le_of_ble_eq_true rfl, Nat.le_of_ble_eq_true rfl⟩ hP hD hK hS hA hB mW_0 rfl rfl hl.1 (Nat.le_of_ble_eq_true rfl) ⟨Nat.le_of_ble_eq_true rfl, Nat.le_of_ble_eq_true rfl⟩ dX9_statement_189 (fun x92 σ91 H locs hok hz hP hD hS => ?_)
              refine lv_istore (lv' := [(5, .int x92), (0, .ref (u 87)), (1, .int 1)]) hx hb dX9_statement_192 hl (by decide) rfl (fun ls hl => ?_)
              refine lv_aload_n hx hb dX9_statement_194 rfl (lv_at hl 1 rfl) ?_
              refine lv_bipush (v := 12) hx hb dX9_statement_195 (by decide) ?_
              refine lv_iconst (v := 0) hx hb dX9_statement_197 (by decide) ?_
              refine lv_iload hx hb dX9_statement_198 (lv_at hl 0 rfl) ?_
              refine lv_aload_n hx hb dX9_statement_200 rfl (lv_at hl 1 rfl) ?_
              refine lv_iload_n hx hb dX9_statement_201 rfl (lv_at hl 2 rfl) ?_
              refine lv_iconst (v := 1) hx hb dX9_statement_202 (by decide) ?_
              refine xisub (v := 0) S dX9_statement_203 (by decide) ?_
              refine yVi (As := [.int 0]) (cw := (mW o u cI cZ cJ T ga)) (ci := 9) S (v_X9_statement_0 l D cI cZ cJ o u T ra ga σ91 _ H.size hok) mi_X9_statement kw_6_117 rfl rfl ⟨Nat.le_of_ble_eq_true rfl, Nat.le_of_ble_eq_true rfl⟩ hP hD hK hS hA hB mW_0 rfl rfl hl.1 (Nat.le_of_ble_eq_true rfl) ⟨Nat.le_of_ble_eq_true rfl, Nat.le_of_ble_eq_true rfl⟩ dX9_statement_204 (fun x94 σ93 H locs hok hz hP hD hS => ?_)
              refine yVi (As := [.int 12, .int 0, .int x92, .int x94]) (cw := (mW o u cI cZ cJ T ga)) (ci := 9) S (v_X9_add l D cI cZ cJ o u T ra ga σ93 12 0 x92 x94 _ H.size hok) mi_X9_add kw_6_116 rfl rfl ⟨Nat.le_of_ble_eq_true rfl, Nat.le_of_ble_eq_true rfl⟩ hP hD hK hS hA hB mW_0 rfl rfl hl.1 (Nat.le_of_ble_eq_true rfl) ⟨Nat.le_of_ble_eq_true rfl, Nat.le_of_ble_eq_true rfl⟩ dX9_statement_207 (fun x96 σ95 H locs hok hz hP hD hS => ?_)
              exact yEnd S hr hlocks hP hD hS (Nat.le_of_ble_eq_true rfl) (Nat.le_of_ble_eq_true rfl) dX9_statement_210 hok

set_option maxHeartbeats 8000000 in
set_option maxRecDepth 100000 in
theorem v_X9_statement_2 (l : Launch) (D : va_G) (cI cZ cJ : ClassId) (o : Nat) (u : Nat → Nat) (T : Nat) (ra : Nat → Nat) (ga : SG) (σ : FS) (Φ : Int32 → FS → Prop) (sz : Nat) (hok : (wp_X9_statement_2 ga σ Φ)) : Met l yX9_statement (uW yX9_statement cX9_statement 6 (some .int)) ({ frames := 12, cells := 70, slots := 280, locals := 289 }) (va_Pc [.ref (u 87), .int 2] (aS ra ga D (tyL cI cZ cJ) (mW o u cI cZ cJ T ga σ) sz)) (yQi Φ D (mW o u cI cZ cJ T ga) (va_A (mW o u cI cZ cJ T ga σ) sz)) 70 280 (va_A (mW o u cI cZ cJ T ga σ) sz) := by
  refine aStart (lv := [(0, .ref (u 87)), (1, .int 2)]) (Qc := fun A => yQi Φ D (mW o u cI cZ cJ T ga) A) (by decide) (Nat.le_of_ble_eq_true rfl) rfl ?_
  intro p e s m args below meth c ls A H S hr hlocks hnm hl hK hP hD hS hA hB
  have hx := S.1
  have hb := S.2.1
  refine lv_iload_n hx hb dX9_statement_0 rfl (lv_at hl 1 rfl) ?_
  refine lv_if_eq (tgt := 13) hx hb dX9_statement_1 (by decide) (fun c => absurd c (by decide)) (fun _ => ?_)
  refine lv_aload_n hx hb dX9_statement_4 rfl (lv_at hl 0 rfl) ?_
  refine xg (ci := 9) S inX9 rfl hK hP mW_0 3 (by decide) rfl kw_5_233 rfl dX9_statement_5 ?_
  refine lv_bipush (v := 55) hx hb dX9_statement_8 (by decide) ?_
  refine lv_icmp_le (tgt := 21) hx hb dX9_statement_10 (by decide) (fun c_10 => ?_) (fun c_10 => ?_)
  · have hok := hok.1 c_10
    refine lv_aload_n hx hb dX9_statement_21 rfl (lv_at hl 0 rfl) ?_
    refine lv_bipush (v := 7) hx hb dX9_statement_22 (by decide) ?_
    refine yVi (As := [.int 7]) (cw := (mW o u cI cZ cJ T ga)) (ci := 9) S (v_X9_draw l D cI cZ cJ o u T ra ga σ 7 _ H.size hok) mi_X9_draw kw_6_45 rfl rfl ⟨Nat.le_of_ble_eq_true rfl, Nat.le_of_ble_eq_true rfl⟩ hP hD hK hS hA hB mW_0 rfl rfl hl.1 (Nat.le_of_ble_eq_true rfl) ⟨Nat.le_of_ble_eq_true rfl, Nat.le_of_ble_eq_true rfl⟩ dX9_statement_24 (fun x2 σ1 H locs hok hz hP hD hS => ?_)
    by_cases k_27_0 : x2 = 0
    · have hok := hok.1 k_27_0
      rw [k_27_0]
      refine lv_tableIn (off := 33) (tgt := 60) hx hb dX9_statement_27 (by decide) (by decide) (by decide) (by decide) ?_
      refine lv_aload_n hx hb dX9_statement_60 rfl (lv_at hl 0 rfl) ?_
      refine lv_bipush (v := 13) hx hb dX9_statement_61 (by decide) ?_
      refine lv_aload_n hx hb dX9_statement_63 rfl (lv_at hl 0 rfl) ?_
      refine lv_iconst (v := 2) hx hb dX9_statement_64 (by decide) ?_
      refine yVi (As := [.int 2]) (cw := (mW o u cI cZ cJ T ga)) (ci := 9) S (v_X9_draw l D cI cZ cJ o u T ra ga σ1 2 _ H.size hok) mi_X9_draw kw_6_45 rfl rfl ⟨Nat.le_of_ble_eq_true rfl, Nat.le_of_ble_eq_true rfl⟩ hP hD hK hS hA hB mW_0 rfl rfl hl.1 (Nat.le_of_ble_eq_true rfl) ⟨Nat.le_of_ble_eq_true rfl, Nat.le_of_ble_eq_true rfl⟩ dX9_statement_65 (fun x4 σ3 H locs hok hz hP hD hS => ?_)
      refine lv_aload_n hx hb dX9_statement_68 rfl (lv_at hl 0 rfl) ?_
      refine lv_iconst (v := 2) hx hb dX9_statement_69 (by decide) ?_
      refine yVi (As := [.int 2]) (cw := (mW o u cI cZ cJ T ga)) (ci := 9) S (v_X9_expression_2 l D cI cZ cJ o u T ra ga σ3 _ H.size hok) mi_X9_expression kw_6_112 rfl rfl ⟨Nat.le_of_ble_eq_true rfl, Nat.le_of_ble_eq_true rfl⟩ hP hD hK hS hA hB mW_0 rfl rfl hl.1 (Nat.le_of_ble_eq_true rfl) ⟨Nat.le_of_ble_eq_true rfl, Nat.le_of_ble_eq_true rfl⟩ dX9_statement_70 (fun x6 σ5 H locs hok hz hP hD hS => ?_)
      refine lv_iconst (v := 0) hx hb dX9_statement_73 (by decide) ?_
      refine yVi (As := [.int 13, .int x4, .int x6, .int 0]) (cw := (mW o u cI cZ cJ T ga)) (ci := 9) S (v_X9_add l D cI cZ cJ o u T ra ga σ5 13 x4 x6 0 _ H.size hok) mi_X9_add kw_6_116 rfl rfl ⟨Nat.le_of_ble_eq_true rfl, Nat.le_of_ble_eq_true rfl⟩ hP hD hK hS hA hB mW_0 rfl rfl hl.1 (Nat.le_of_ble_eq_true rfl) ⟨Nat.le_of_ble_eq_true rfl, Nat.le_of_ble_eq_true rfl⟩ dX9_statement_74 (fun x8 σ7 H locs hok hz hP hD hS => ?_)
      exact yEnd S hr hlocks hP hD hS (Nat.le_of_ble_eq_true rfl) (Nat.le_of_ble_eq_true rfl) dX9_statement_77 hok
    · have hok := hok.2 k_27_0
      by_cases k_27_1 : x2 = 1
      · have hok := hok.1 k_27_1
        rw [k_27_1]
        refine lv_tableIn (off := 51) (tgt := 78) hx hb dX9_statement_27 (by decide) (by decide) (by decide) (by decide) ?_
        refine lv_aload_n hx hb dX9_statement_78 rfl (lv_at hl 0 rfl) ?_
        refine lv_bipush (v := 19) hx hb dX9_statement_79 (by decide) ?_
        refine lv_iconst (v := 0) hx hb dX9_statement_81 (by decide) ?_
        refine lv_aload_n hx hb dX9_statement_82 rfl (lv_at hl 0 rfl) ?_
        refine lv_iconst (v := 2) hx hb dX9_statement_83 (by decide) ?_
        refine yVi (As := [.int 2]) (cw := (mW o u cI cZ cJ T ga)) (ci := 9) S (v_X9_expression_2 l D cI cZ cJ o u T ra ga σ1 _ H.size hok) mi_X9_expression kw_6_112 rfl rfl ⟨Nat.le_of_ble_eq_true rfl, Nat.le_of_ble_eq_true rfl⟩ hP hD hK hS hA hB mW_0 rfl rfl hl.1 (Nat.le_of_ble_eq_true rfl) ⟨Nat.le_of_ble_eq_true rfl, Nat.le_of_ble_eq_true rfl⟩ dX9_statement_84 (fun x10 σ9 H locs hok hz hP hD hS => ?_)
        refine lv_iconst (v := 0) hx hb dX9_statement_87 (by decide) ?_
        refine yVi (As := [.int 19, .int 0, .int x10, .int 0]) (cw := (mW o u cI cZ cJ T ga)) (ci := 9) S (v_X9_add l D cI cZ cJ o u T ra ga σ9 19 0 x10 0 _ H.size hok) mi_X9_add kw_6_116 rfl rfl ⟨Nat.le_of_ble_eq_true rfl, Nat.le_of_ble_eq_true rfl⟩ hP hD hK hS hA hB mW_0 rfl rfl hl.1 (Nat.le_of_ble_eq_true rfl) ⟨Nat.le_of_ble_eq_true rfl, Nat.le_of_ble_eq_true rfl⟩ dX9_statement_88 (fun x12 σ11 H locs hok hz hP hD hS => ?_)
        exact yEnd S hr hlocks hP hD hS (Nat.le_of_ble_eq_true rfl) (Nat.le_of_ble_eq_true rfl) dX9_statement_91 hok
      · have hok := hok.2 k_27_1
        by_cases k_27_2 : x2 = 2
        · have hok := hok.1 k_27_2
          rw [k_27_2]
          refine lv_tableIn (off := 65) (tgt := 92) hx hb dX9_statement_27 (by decide) (by decide) (by decide) (by decide) ?_
          refine lv_aload_n hx hb dX9_statement_92 rfl (lv_at hl 0 rfl) ?_
          refine lv_iconst (v := 4) hx hb dX9_statement_93 (by decide) ?_
          refine yVi (As := [.int 4]) (cw := (mW o u cI cZ cJ T ga)) (ci := 9) S (v_X9_draw l D cI cZ cJ o u T ra ga σ1 4 _ H.size hok) mi_X9_draw kw_6_45 rfl rfl ⟨Nat.le_of_ble_eq_true rfl, Nat.le_of_ble_eq_true rfl⟩ hP hD hK hS hA hB mW_0 rfl rfl hl.1 (Nat.le_of_ble_eq_true rfl) ⟨Nat.le_of_ble_eq_true rfl, Nat.le_of_ble_eq_true rfl⟩ dX9_statement_94 (fun x14 σ13 H locs hok hz hP hD hS => ?_)
          refine lv_if_ne (tgt := 108) hx hb dX9_statement_97 (by decide) (fun c_97 => ?_) (fun c_97 => ?_)
          · have hok := hok.2 c_97
            refine lv_aload_n hx hb dX9_statement_108 rfl (lv_at hl 0 rfl) ?_
            refine lv_iconst (v := 0) hx hb dX9_statement_109 (by decide) ?_
            refine lv_aload_n hx hb dX9_statement_110 rfl (lv_at hl 0 rfl) ?_
            refine lv_iconst (v := 4) hx hb dX9_statement_111 (by decide) ?_
            refine yVi (As := [.int 4]) (cw := (mW o u cI cZ cJ T ga)) (ci := 9) S (v_X9_draw l D cI cZ cJ o u T ra ga σ13 4 _ H.size hok) mi_X9_draw kw_6_45 rfl rfl ⟨Nat.le_of_ble_eq_true rfl, Nat.le_of_ble_eq_true rfl⟩ hP hD hK hS hA hB mW_0 rfl rfl hl.1 (Nat.le_of_ble_eq_true rfl) ⟨Nat.le_of_ble_eq_true rfl, Nat.le_of_ble_eq_true rfl⟩ dX9_statement_112 (fun x16 σ15 H locs hok hz hP hD hS => ?_)
            refine lv_iconst (v := 0) hx hb dX9_statement_115 (by decide) ?_
            refine lv_iconst (v := 0) hx hb dX9_statement_116 (by decide) ?_
            refine yVi (As := [.int 0, .int x16, .int 0, .int 0]) (cw := (mW o u cI cZ cJ T ga)) (ci := 9) S (v_X9_add l D cI cZ cJ o u T ra ga σ15 0 x16 0 0 _ H.size hok) mi_X9_add kw_6_116 rfl rfl ⟨Nat.le_of_ble_eq_true rfl, Nat.le_of_ble_eq_true rfl⟩ hP hD hK hS hA hB mW_0 rfl rfl hl.1 (Nat.le_of_ble_eq_true rfl) ⟨Nat.le_of_ble_eq_true rfl, Nat.le_of_ble_eq_true rfl⟩ dX9_statement_117 (fun x18 σ17 H locs hok hz hP hD hS => ?_)
            refine lv_istore_n (lv' := [(2, .int x18), (0, .ref (u 87)), (1, .int 2)]) hx hb dX9_statement_120 rfl hl (by decide) rfl (fun ls hl => ?_)
            refine lv_aload_n hx hb dX9_statement_121 rfl (lv_at hl 1 rfl) ?_
            refine lv_bipush (v := 14) hx hb dX9_statement_122 (by decide) ?_
            refine lv_iconst (v := 2) hx hb dX9_statement_124 (by decide) ?_
            refine lv_iload_n hx hb dX9_statement_125 rfl (lv_at hl 0 rfl) ?_
            refine lv_aload_n hx hb dX9_statement_126 rfl (lv_at hl 1 rfl) ?_
            refine lv_iconst (v := 1) hx hb dX9_statement_127 (by decide) ?_
            refine yVi (As := [.int 1]) (cw := (mW o u cI cZ cJ T ga)) (ci := 9) S (v_X9_expression_1 l D cI cZ cJ o u T ra ga σ17 _ H.size hok) mi_X9_expression kw_6_112 rfl rfl ⟨Nat.le_of_ble_eq_true rfl, Nat.le_of_ble_eq_true rfl⟩ hP hD hK hS hA hB mW_0 rfl rfl hl.1 (Nat.le_of_ble_eq_true rfl) ⟨Nat.le_of_ble_eq_true rfl, Nat.le_of_ble_eq_true rfl⟩ dX9_statement_128 (fun x20 σ19 H locs hok hz hP hD hS => ?_)
            refine yVi (As := [.int 14, .int 2, .int x18, .int x20]) (cw := (mW o u cI cZ cJ T ga)) (ci := 9) S (v_X9_add l D cI cZ cJ o u T ra ga σ19 14 2 x18 x20 _ H.size hok) mi_X9_add kw_6_116 rfl rfl ⟨Nat.le_of_ble_eq_true rfl, Nat.le_of_ble_eq_true rfl⟩ hP hD hK hS hA hB mW_0 rfl rfl hl.1 (Nat.le_of_ble_eq_true rfl) ⟨Nat.le_of_ble_eq_true rfl, Nat.le_of_ble_eq_true rfl⟩ dX9_statement_131 (fun x22 σ21 H locs hok hz hP hD hS => ?_)
            exact yEnd S hr hlocks hP hD hS (Nat.le_of_ble_eq_true rfl) (Nat.le_of_ble_eq_true rfl) dX9_statement_134 hok
          · have hok := hok.1 c_97
            refine lv_aload_n hx hb dX9_statement_100 rfl (lv_at hl 0 rfl) ?_
            refine lv_iconst (v := 1) hx hb dX9_statement_101 (by decide) ?_
            refine yVi (As := [.int 1]) (cw := (mW o u cI cZ cJ T ga)) (ci := 9) S (v_X9_expression_1 l D cI cZ cJ o u T ra ga σ13 _ H.size hok) mi_X9_expression kw_6_112 rfl rfl ⟨Nat.le_of_ble_eq_true rfl, Nat.le_of_ble_eq_true rfl⟩ hP hD hK hS hA hB mW_0 rfl rfl hl.1 (Nat.le_of_ble_eq_true rfl) ⟨Nat.le_of_ble_eq_true rfl, Nat.le_of_ble_eq_true rfl⟩ dX9_statement_102 (fun x24 σ23 H locs hok hz hP hD hS => ?_)
            refine lv_goto (tgt := 120) hx hb dX9_statement_105 (by decide) ?_
            refine lv_istore_n (lv' := [(2, .int x24), (0, .ref (u 87)), (1, .int 2)]) hx hb dX9_statement_120 rfl hl (by decide) rfl (fun ls hl => ?_)
            refine lv_aload_n hx hb dX9_statement_121 rfl (lv_at hl 1 rfl) ?_
            refine lv_bipush (v := 14) hx hb dX9_statement_122 (by decide) ?_
            refine lv_iconst (v := 2) hx hb dX9_statement_124 (by decide) ?_
            refine lv_iload_n hx hb dX9_statement_125 rfl (lv_at hl 0 rfl) ?_
            refine lv_aload_n hx hb dX9_statement_126 rfl (lv_at hl 1 rfl) ?_
            refine lv_iconst (v := 1) hx hb dX9_statement_127 (by decide) ?_
            refine yVi (As := [.int 1]) (cw := (mW o u cI cZ cJ T ga)) (ci := 9) S (v_X9_expression_1 l D cI cZ cJ o u T ra ga σ23 _ H.size hok) mi_X9_expression kw_6_112 rfl rfl ⟨Nat.le_of_ble_eq_true rfl, Nat.le_of_ble_eq_true rfl⟩ hP hD hK hS hA hB mW_0 rfl rfl hl.1 (Nat.le_of_ble_eq_true rfl) ⟨Nat.le_of_ble_eq_true rfl, Nat.le_of_ble_eq_true rfl⟩ dX9_statement_128 (fun x26 σ25 H locs hok hz hP hD hS => ?_)
            refine yVi (As := [.int 14, .int 2, .int x24, .int x26]) (cw := (mW o u cI cZ cJ T ga)) (ci := 9) S (v_X9_add l D cI cZ cJ o u T ra ga σ25 14 2 x24 x26 _ H.size hok) mi_X9_add kw_6_116 rfl rfl ⟨Nat.le_of_ble_eq_true rfl, Nat.le_of_ble_eq_true rfl⟩ hP hD hK hS hA hB mW_0 rfl rfl hl.1 (Nat.le_of_ble_eq_true rfl) ⟨Nat.le_of_ble_eq_true rfl, Nat.le_of_ble_eq_true rfl⟩ dX9_statement_131 (fun x28 σ27 H locs hok hz hP hD hS => ?_)
            exact yEnd S hr hlocks hP hD hS (Nat.le_of_ble_eq_true rfl) (Nat.le_of_ble_eq_true rfl) dX9_statement_134 hok
        · have hok := hok.2 k_27_2
          by_cases k_27_3 : x2 = 3
          · have hok := hok.1 k_27_3
            rw [k_27_3]
            refine lv_tableIn (off := 108) (tgt := 135) hx hb dX9_statement_27 (by decide) (by decide) (by decide) (by decide) ?_
            refine lv_aload_n hx hb dX9_statement_135 rfl (lv_at hl 0 rfl) ?_
            refine lv_iconst (v := 1) hx hb dX9_statement_136 (by decide) ?_
            refine yVi (As := [.int 1]) (cw := (mW o u cI cZ cJ T ga)) (ci := 9) S (v_X9_expression_1 l D cI cZ cJ o u T ra ga σ1 _ H.size hok) mi_X9_expression kw_6_112 rfl rfl ⟨Nat.le_of_ble_eq_true rfl, Nat.le_of_ble_eq_true rfl⟩ hP hD hK hS hA hB mW_0 rfl rfl hl.1 (Nat.le_of_ble_eq_true rfl) ⟨Nat.le_of_ble_eq_true rfl, Nat.le_of_ble_eq_true rfl⟩ dX9_statement_137 (fun x30 σ29 H locs hok hz hP hD hS => ?_)
            refine lv_istore_n (lv' := [(3, .int x30), (0, .ref (u 87)), (1, .int 2)]) hx hb dX9_statement_140 rfl hl (by decide) rfl (fun ls hl => ?_)
            refine lv_aload_n hx hb dX9_statement_141 rfl (lv_at hl 1 rfl) ?_
            refine lv_iload_n hx hb dX9_statement_142 rfl (lv_at hl 2 rfl) ?_
            refine lv_iconst (v := 1) hx hb dX9_statement_143 (by decide) ?_
            refine xisub (v := 1) S dX9_statement_144 (by decide) ?_
            refine yVi (As := [.int 1]) (cw := (mW o u cI cZ cJ T ga)) (ci := 9) S (v_X9_statement_1 l D cI cZ cJ o u T ra ga σ29 _ H.size hok) mi_X9_statement kw_6_117 rfl rfl ⟨Nat.le_of_ble_eq_true rfl, Nat.le_of_ble_eq_true rfl⟩ hP hD hK hS hA hB mW_0 rfl rfl hl.1 (Nat.le_of_ble_eq_true rfl) ⟨Nat.le_of_ble_eq_true rfl, Nat.le_of_ble_eq_true rfl⟩ dX9_statement_145 (fun x32 σ31 H locs hok hz hP hD hS => ?_)
            refine lv_istore (lv' := [(4, .int x32), (3, .int x30), (0, .ref (u 87)), (1, .int 2)]) hx hb dX9_statement_148 hl (by decide) rfl (fun ls hl => ?_)
            refine lv_aload_n hx hb dX9_statement_150 rfl (lv_at hl 2 rfl) ?_
            refine lv_bipush (v := 15) hx hb dX9_statement_151 (by decide) ?_
            refine lv_aload_n hx hb dX9_statement_153 rfl (lv_at hl 2 rfl) ?_
            refine lv_iconst (v := 2) hx hb dX9_statement_154 (by decide) ?_
            refine yVi (As := [.int 2]) (cw := (mW o u cI cZ cJ T ga)) (ci := 9) S (v_X9_draw l D cI cZ cJ o u T ra ga σ31 2 _ H.size hok) mi_X9_draw kw_6_45 rfl rfl ⟨Nat.le_of_ble_eq_true rfl, Nat.le_of_ble_eq_true rfl⟩ hP hD hK hS hA hB mW_0 rfl rfl hl.1 (Nat.le_of_ble_eq_true rfl) ⟨Nat.le_of_ble_eq_true rfl, Nat.le_of_ble_eq_true rfl⟩ dX9_statement_155 (fun x34 σ33 H locs hok hz hP hD hS => ?_)
            refine lv_if_ne (tgt := 165) hx hb dX9_statement_158 (by decide) (fun c_158 => ?_) (fun c_158 => ?_)
            · have hok := hok.2 c_158
              refine lv_aload_n hx hb dX9_statement_165 rfl (lv_at hl 2 rfl) ?_
              refine lv_iload_n hx hb dX9_statement_166 rfl (lv_at hl 3 rfl) ?_
              refine lv_iconst (v := 1) hx hb dX9_statement_167 (by decide) ?_
              refine xisub (v := 1) S dX9_statement_168 (by decide) ?_
              refine yVi (As := [.int 1]) (cw := (mW o u cI cZ cJ T ga)) (ci := 9) S (v_X9_statement_1 l D cI cZ cJ o u T ra ga σ33 _ H.size hok) mi_X9_statement kw_6_117 rfl rfl ⟨Nat.le_of_ble_eq_true rfl, Nat.le_of_ble_eq_true rfl⟩ hP hD hK hS hA hB mW_0 rfl rfl hl.1 (Nat.le_of_ble_eq_true rfl) ⟨Nat.le_of_ble_eq_true rfl, Nat.le_of_ble_eq_true rfl⟩ dX9_statement_169 (fun x36 σ35 H locs hok hz hP hD hS => ?_)
              refine lv_iload_n hx hb dX9_statement_172 rfl (lv_at hl 1 rfl) ?_
              refine lv_iload hx hb dX9_statement_173 (lv_at hl 0 rfl) ?_
              refine yVi (As := [.int 15, .int x36, .int x30, .int x32]) (cw := (mW o u cI cZ cJ T ga)) (ci := 9) S (v_X9_add l D cI cZ cJ o u T ra ga σ35 15 x36 x30 x32 _ H.size hok) mi_X9_add kw_6_116 rfl rfl ⟨Nat.le_of_ble_eq_true rfl, Nat.le_of_ble_eq_true rfl⟩ hP hD hK hS hA hB mW_0 rfl rfl hl.1 (Nat.le_of_ble_eq_true rfl) ⟨Nat.le_of_ble_eq_true rfl, Nat.le_of_ble_eq_true rfl⟩ dX9_statement_175 (fun x38 σ37 H locs hok hz hP hD hS => ?_)
              exact yEnd S hr hlocks hP hD hS (Nat.le_of_ble_eq_true rfl) (Nat.le_of_ble_eq_true rfl) dX9_statement_178 hok
            · have hok := hok.1 c_158
              refine lv_iconst (v := (-1)) hx hb dX9_statement_161 (by decide) ?_
              refine lv_goto (tgt := 172) hx hb dX9_statement_162 (by decide) ?_
              refine lv_iload_n hx hb dX9_statement_172 rfl (lv_at hl 1 rfl) ?_
              refine lv_iload hx hb dX9_statement_173 (lv_at hl 0 rfl) ?_
              refine yVi (As := [.int 15, .int (-1), .int x30, .int x32]) (cw := (mW o u cI cZ cJ T ga)) (ci := 9) S (v_X9_add l D cI cZ cJ o u T ra ga σ33 15 (-1) x30 x32 _ H.size hok) mi_X9_add kw_6_116 rfl rfl ⟨Nat.le_of_ble_eq_true rfl, Nat.le_of_ble_eq_true rfl⟩ hP hD hK hS hA hB mW_0 rfl rfl hl.1 (Nat.le_of_ble_eq_true rfl) ⟨Nat.le_of_ble_eq_true rfl, Nat.le_of_ble_eq_true rfl⟩ dX9_statement_175 (fun x40 σ39 H locs hok hz hP hD hS => ?_)
              exact yEnd S hr hlocks hP hD hS (Nat.le_of_ble_eq_true rfl) (Nat.le_of_ble_eq_true rfl) dX9_statement_178 hok
          · have hok := hok.2 k_27_3
            by_cases k_27_4 : x2 = 4
            · have hok := hok.1 k_27_4
              rw [k_27_4]
              refine lv_tableIn (off := 152) (tgt := 179) hx hb dX9_statement_27 (by decide) (by decide) (by decide) (by decide) ?_
              refine lv_aload_n hx hb dX9_statement_179 rfl (lv_at hl 0 rfl) ?_
              refine lv_iload_n hx hb dX9_statement_180 rfl (lv_at hl 1 rfl) ?_
              refine yVi (As := [.int 2]) (cw := (mW o u cI cZ cJ T ga)) (ci := 9) S (v_X9_loop l D cI cZ cJ o u T ra ga σ1 2 _ H.size hok) mi_X9_loop kw_6_118 rfl rfl ⟨Nat.le_of_ble_eq_true rfl, Nat.le_of_ble_eq_true rfl⟩ hP hD hK hS hA hB mW_0 rfl rfl hl.1 (Nat.le_of_ble_eq_true rfl) ⟨Nat.le_of_ble_eq_true rfl, Nat.le_of_ble_eq_true rfl⟩ dX9_statement_181 (fun x42 σ41 H locs hok hz hP hD hS => ?_)
              exact yEnd S hr hlocks hP hD hS (Nat.le_of_ble_eq_true rfl) (Nat.le_of_ble_eq_true rfl) dX9_statement_184 hok
            · have hok := hok.2 k_27_4
              have q_27_0 := sw_ni k_27_0 (z := 0) (by decide)
              have q_27_1 := sw_ni k_27_1 (z := 1) (by decide)
              have q_27_2 := sw_ni k_27_2 (z := 2) (by decide)
              have q_27_3 := sw_ni k_27_3 (z := 3) (by decide)
              have q_27_4 := sw_ni k_27_4 (z := 4) (by decide)
              refine lv_tableOut (tgt := 185) hx hb dX9_statement_27 (by omega) (by decide) ?_
              refine lv_aload_n hx hb dX9_statement_185 rfl (lv_at hl 0 rfl) ?_
              refine lv_iload_n hx hb dX9_statement_186 rfl (lv_at hl 1 rfl) ?_
              refine lv_iconst (v := 1) hx hb dX9_statement_187 (by decide) ?_
              refine xisub (v := 1) S dX9_statement_188 (by decide) ?_
              refine yVi (As := [.int 1]) (cw := (mW o u cI cZ cJ T ga)) (ci := 9) S (v_X9_statement_1 l D cI cZ cJ o u T ra ga σ1 _ H.size hok) mi_X9_statement kw_6_117 rfl rfl ⟨Nat.le_of_ble_eq_true rfl, Nat.le_of_ble_eq_true rfl⟩ hP hD hK hS hA hB mW_0 rfl rfl hl.1 (Nat.le_of_ble_eq_true rfl) ⟨Nat.le_of_ble_eq_true rfl, Nat.le_of_ble_eq_true rfl⟩ dX9_statement_189 (fun x44 σ43 H locs hok hz hP hD hS => ?_)
              refine lv_istore (lv' := [(5, .int x44), (0, .ref (u 87)), (1, .int 2)]) hx hb dX9_statement_192 hl (by decide) rfl (fun ls hl => ?_)
              refine lv_aload_n hx hb dX9_statement_194 rfl (lv_at hl 1 rfl) ?_
              refine lv_bipush (v := 12) hx hb dX9_statement_195 (by decide) ?_
              refine lv_iconst (v := 0) hx hb dX9_statement_197 (by decide) ?_
              refine lv_iload hx hb dX9_statement_198 (lv_at hl 0 rfl) ?_
              refine lv_aload_n hx hb dX9_statement_200 rfl (lv_at hl 1 rfl) ?_
              refine lv_iload_n hx hb dX9_statement_201 rfl (lv_at hl 2 rfl) ?_
              refine lv_iconst (v := 1) hx hb dX9_statement_202 (by decide) ?_
              refine xisub (v := 1) S dX9_statement_203 (by decide) ?_
              refine yVi (As := [.int 1]) (cw := (mW o u cI cZ cJ T ga)) (ci := 9) S (v_X9_statement_1 l D cI cZ cJ o u T ra ga σ43 _ H.size hok) mi_X9_statement kw_6_117 rfl rfl ⟨Nat.le_of_ble_eq_true rfl, Nat.le_of_ble_eq_true rfl⟩ hP hD hK hS hA hB mW_0 rfl rfl hl.1 (Nat.le_of_ble_eq_true rfl) ⟨Nat.le_of_ble_eq_true rfl, Nat.le_of_ble_eq_true rfl⟩ dX9_statement_204 (fun x46 σ45 H locs hok hz hP hD hS => ?_)
              refine yVi (As := [.int 12, .int 0, .int x44, .int x46]) (cw := (mW o u cI cZ cJ T ga)) (ci := 9) S (v_X9_add l D cI cZ cJ o u T ra ga σ45 12 0 x44 x46 _ H.size hok) mi_X9_add kw_6_116 rfl rfl ⟨Nat.le_of_ble_eq_true rfl, Nat.le_of_ble_eq_true rfl⟩ hP hD hK hS hA hB mW_0 rfl rfl hl.1 (Nat.le_of_ble_eq_true rfl) ⟨Nat.le_of_ble_eq_true rfl, Nat.le_of_ble_eq_true rfl⟩ dX9_statement_207 (fun x48 σ47 H locs hok hz hP hD hS => ?_)
              exact yEnd S hr hlocks hP hD hS (Nat.le_of_ble_eq_true rfl) (Nat.le_of_ble_eq_true rfl) dX9_statement_210 hok
  · have hok := hok.2 c_10
    refine lv_aload_n hx hb dX9_statement_13 rfl (lv_at hl 0 rfl) ?_
    refine lv_iconst (v := 3) hx hb dX9_statement_14 (by decide) ?_
    refine yVi (As := [.int 3]) (cw := (mW o u cI cZ cJ T ga)) (ci := 9) S (v_X9_draw l D cI cZ cJ o u T ra ga σ 3 _ H.size hok) mi_X9_draw kw_6_45 rfl rfl ⟨Nat.le_of_ble_eq_true rfl, Nat.le_of_ble_eq_true rfl⟩ hP hD hK hS hA hB mW_0 rfl rfl hl.1 (Nat.le_of_ble_eq_true rfl) ⟨Nat.le_of_ble_eq_true rfl, Nat.le_of_ble_eq_true rfl⟩ dX9_statement_15 (fun x50 σ49 H locs hok hz hP hD hS => ?_)
    refine lv_goto (tgt := 27) hx hb dX9_statement_18 (by decide) ?_
    by_cases k_27_0 : x50 = 0
    · have hok := hok.1 k_27_0
      rw [k_27_0]
      refine lv_tableIn (off := 33) (tgt := 60) hx hb dX9_statement_27 (by decide) (by decide) (by decide) (by decide) ?_
      refine lv_aload_n hx hb dX9_statement_60 rfl (lv_at hl 0 rfl) ?_
      refine lv_bipush (v := 13) hx hb dX9_statement_61 (by decide) ?_
      refine lv_aload_n hx hb dX9_statement_63 rfl (lv_at hl 0 rfl) ?_
      refine lv_iconst (v := 2) hx hb dX9_statement_64 (by decide) ?_
      refine yVi (As := [.int 2]) (cw := (mW o u cI cZ cJ T ga)) (ci := 9) S (v_X9_draw l D cI cZ cJ o u T ra ga σ49 2 _ H.size hok) mi_X9_draw kw_6_45 rfl rfl ⟨Nat.le_of_ble_eq_true rfl, Nat.le_of_ble_eq_true rfl⟩ hP hD hK hS hA hB mW_0 rfl rfl hl.1 (Nat.le_of_ble_eq_true rfl) ⟨Nat.le_of_ble_eq_true rfl, Nat.le_of_ble_eq_true rfl⟩ dX9_statement_65 (fun x52 σ51 H locs hok hz hP hD hS => ?_)
      refine lv_aload_n hx hb dX9_statement_68 rfl (lv_at hl 0 rfl) ?_
      refine lv_iconst (v := 2) hx hb dX9_statement_69 (by decide) ?_
      refine yVi (As := [.int 2]) (cw := (mW o u cI cZ cJ T ga)) (ci := 9) S (v_X9_expression_2 l D cI cZ cJ o u T ra ga σ51 _ H.size hok) mi_X9_expression kw_6_112 rfl rfl ⟨Nat.le_of_ble_eq_true rfl, Nat.le_of_ble_eq_true rfl⟩ hP hD hK hS hA hB mW_0 rfl rfl hl.1 (Nat.le_of_ble_eq_true rfl) ⟨Nat.le_of_ble_eq_true rfl, Nat.le_of_ble_eq_true rfl⟩ dX9_statement_70 (fun x54 σ53 H locs hok hz hP hD hS => ?_)
      refine lv_iconst (v := 0) hx hb dX9_statement_73 (by decide) ?_
      refine yVi (As := [.int 13, .int x52, .int x54, .int 0]) (cw := (mW o u cI cZ cJ T ga)) (ci := 9) S (v_X9_add l D cI cZ cJ o u T ra ga σ53 13 x52 x54 0 _ H.size hok) mi_X9_add kw_6_116 rfl rfl ⟨Nat.le_of_ble_eq_true rfl, Nat.le_of_ble_eq_true rfl⟩ hP hD hK hS hA hB mW_0 rfl rfl hl.1 (Nat.le_of_ble_eq_true rfl) ⟨Nat.le_of_ble_eq_true rfl, Nat.le_of_ble_eq_true rfl⟩ dX9_statement_74 (fun x56 σ55 H locs hok hz hP hD hS => ?_)
      exact yEnd S hr hlocks hP hD hS (Nat.le_of_ble_eq_true rfl) (Nat.le_of_ble_eq_true rfl) dX9_statement_77 hok
    · have hok := hok.2 k_27_0
      by_cases k_27_1 : x50 = 1
      · have hok := hok.1 k_27_1
        rw [k_27_1]
        refine lv_tableIn (off := 51) (tgt := 78) hx hb dX9_statement_27 (by decide) (by decide) (by decide) (by decide) ?_
        refine lv_aload_n hx hb dX9_statement_78 rfl (lv_at hl 0 rfl) ?_
        refine lv_bipush (v := 19) hx hb dX9_statement_79 (by decide) ?_
        refine lv_iconst (v := 0) hx hb dX9_statement_81 (by decide) ?_
        refine lv_aload_n hx hb dX9_statement_82 rfl (lv_at hl 0 rfl) ?_
        refine lv_iconst (v := 2) hx hb dX9_statement_83 (by decide) ?_
        refine yVi (As := [.int 2]) (cw := (mW o u cI cZ cJ T ga)) (ci := 9) S (v_X9_expression_2 l D cI cZ cJ o u T ra ga σ49 _ H.size hok) mi_X9_expression kw_6_112 rfl rfl ⟨Nat.le_of_ble_eq_true rfl, Nat.le_of_ble_eq_true rfl⟩ hP hD hK hS hA hB mW_0 rfl rfl hl.1 (Nat.le_of_ble_eq_true rfl) ⟨Nat.le_of_ble_eq_true rfl, Nat.le_of_ble_eq_true rfl⟩ dX9_statement_84 (fun x58 σ57 H locs hok hz hP hD hS => ?_)
        refine lv_iconst (v := 0) hx hb dX9_statement_87 (by decide) ?_
        refine yVi (As := [.int 19, .int 0, .int x58, .int 0]) (cw := (mW o u cI cZ cJ T ga)) (ci := 9) S (v_X9_add l D cI cZ cJ o u T ra ga σ57 19 0 x58 0 _ H.size hok) mi_X9_add kw_6_116 rfl rfl ⟨Nat.le_of_ble_eq_true rfl, Nat.le_of_ble_eq_true rfl⟩ hP hD hK hS hA hB mW_0 rfl rfl hl.1 (Nat.le_of_ble_eq_true rfl) ⟨Nat.le_of_ble_eq_true rfl, Nat.le_of_ble_eq_true rfl⟩ dX9_statement_88 (fun x60 σ59 H locs hok hz hP hD hS => ?_)
        exact yEnd S hr hlocks hP hD hS (Nat.le_of_ble_eq_true rfl) (Nat.le_of_ble_eq_true rfl) dX9_statement_91 hok
      · have hok := hok.2 k_27_1
        by_cases k_27_2 : x50 = 2
        · have hok := hok.1 k_27_2
          rw [k_27_2]
          refine lv_tableIn (off := 65) (tgt := 92) hx hb dX9_statement_27 (by decide) (by decide) (by decide) (by decide) ?_
          refine lv_aload_n hx hb dX9_statement_92 rfl (lv_at hl 0 rfl) ?_
          refine lv_iconst (v := 4) hx hb dX9_statement_93 (by decide) ?_
          refine yVi (As := [.int 4]) (cw := (mW o u cI cZ cJ T ga)) (ci := 9) S (v_X9_draw l D cI cZ cJ o u T ra ga σ49 4 _ H.size hok) mi_X9_draw kw_6_45 rfl rfl ⟨Nat.le_of_ble_eq_true rfl, Nat.le_of_ble_eq_true rfl⟩ hP hD hK hS hA hB mW_0 rfl rfl hl.1 (Nat.le_of_ble_eq_true rfl) ⟨Nat.le_of_ble_eq_true rfl, Nat.le_of_ble_eq_true rfl⟩ dX9_statement_94 (fun x62 σ61 H locs hok hz hP hD hS => ?_)
          refine lv_if_ne (tgt := 108) hx hb dX9_statement_97 (by decide) (fun c_97 => ?_) (fun c_97 => ?_)
          · have hok := hok.2 c_97
            refine lv_aload_n hx hb dX9_statement_108 rfl (lv_at hl 0 rfl) ?_
            refine lv_iconst (v := 0) hx hb dX9_statement_109 (by decide) ?_
            refine lv_aload_n hx hb dX9_statement_110 rfl (lv_at hl 0 rfl) ?_
            refine lv_iconst (v := 4) hx hb dX9_statement_111 (by decide) ?_
            refine yVi (As := [.int 4]) (cw := (mW o u cI cZ cJ T ga)) (ci := 9) S (v_X9_draw l D cI cZ cJ o u T ra ga σ61 4 _ H.size hok) mi_X9_draw kw_6_45 rfl rfl ⟨Nat.le_of_ble_eq_true rfl, Nat.le_of_ble_eq_true rfl⟩ hP hD hK hS hA hB mW_0 rfl rfl hl.1 (Nat.le_of_ble_eq_true rfl) ⟨Nat.le_of_ble_eq_true rfl, Nat.le_of_ble_eq_true rfl⟩ dX9_statement_112 (fun x64 σ63 H locs hok hz hP hD hS => ?_)
            refine lv_iconst (v := 0) hx hb dX9_statement_115 (by decide) ?_
            refine lv_iconst (v := 0) hx hb dX9_statement_116 (by decide) ?_
            refine yVi (As := [.int 0, .int x64, .int 0, .int 0]) (cw := (mW o u cI cZ cJ T ga)) (ci := 9) S (v_X9_add l D cI cZ cJ o u T ra ga σ63 0 x64 0 0 _ H.size hok) mi_X9_add kw_6_116 rfl rfl ⟨Nat.le_of_ble_eq_true rfl, Nat.le_of_ble_eq_true rfl⟩ hP hD hK hS hA hB mW_0 rfl rfl hl.1 (Nat.le_of_ble_eq_true rfl) ⟨Nat.le_of_ble_eq_true rfl, Nat.le_of_ble_eq_true rfl⟩ dX9_statement_117 (fun x66 σ65 H locs hok hz hP hD hS => ?_)
            refine lv_istore_n (lv' := [(2, .int x66), (0, .ref (u 87)), (1, .int 2)]) hx hb dX9_statement_120 rfl hl (by decide) rfl (fun ls hl => ?_)
            refine lv_aload_n hx hb dX9_statement_121 rfl (lv_at hl 1 rfl) ?_
            refine lv_bipush (v := 14) hx hb dX9_statement_122 (by decide) ?_
            refine lv_iconst (v := 2) hx hb dX9_statement_124 (by decide) ?_
            refine lv_iload_n hx hb dX9_statement_125 rfl (lv_at hl 0 rfl) ?_
            refine lv_aload_n hx hb dX9_statement_126 rfl (lv_at hl 1 rfl) ?_
            refine lv_iconst (v := 1) hx hb dX9_statement_127 (by decide) ?_
            refine yVi (As := [.int 1]) (cw := (mW o u cI cZ cJ T ga)) (ci := 9) S (v_X9_expression_1 l D cI cZ cJ o u T ra ga σ65 _ H.size hok) mi_X9_expression kw_6_112 rfl rfl ⟨Nat.le_of_ble_eq_true rfl, Nat.le_of_ble_eq_true rfl⟩ hP hD hK hS hA hB mW_0 rfl rfl hl.1 (Nat.le_of_ble_eq_true rfl) ⟨Nat.le_of_ble_eq_true rfl, Nat.le_of_ble_eq_true rfl⟩ dX9_statement_128 (fun x68 σ67 H locs hok hz hP hD hS => ?_)
            refine yVi (As := [.int 14, .int 2, .int x66, .int x68]) (cw := (mW o u cI cZ cJ T ga)) (ci := 9) S (v_X9_add l D cI cZ cJ o u T ra ga σ67 14 2 x66 x68 _ H.size hok) mi_X9_add kw_6_116 rfl rfl ⟨Nat.le_of_ble_eq_true rfl, Nat.le_of_ble_eq_true rfl⟩ hP hD hK hS hA hB mW_0 rfl rfl hl.1 (Nat.le_of_ble_eq_true rfl) ⟨Nat.le_of_ble_eq_true rfl, Nat.le_of_ble_eq_true rfl⟩ dX9_statement_131 (fun x70 σ69 H locs hok hz hP hD hS => ?_)
            exact yEnd S hr hlocks hP hD hS (Nat.le_of_ble_eq_true rfl) (Nat.le_of_ble_eq_true rfl) dX9_statement_134 hok
          · have hok := hok.1 c_97
            refine lv_aload_n hx hb dX9_statement_100 rfl (lv_at hl 0 rfl) ?_
            refine lv_iconst (v := 1) hx hb dX9_statement_101 (by decide) ?_
            refine yVi (As := [.int 1]) (cw := (mW o u cI cZ cJ T ga)) (ci := 9) S (v_X9_expression_1 l D cI cZ cJ o u T ra ga σ61 _ H.size hok) mi_X9_expression kw_6_112 rfl rfl ⟨Nat.le_of_ble_eq_true rfl, Nat.le_of_ble_eq_true rfl⟩ hP hD hK hS hA hB mW_0 rfl rfl hl.1 (Nat.le_of_ble_eq_true rfl) ⟨Nat.le_of_ble_eq_true rfl, Nat.le_of_ble_eq_true rfl⟩ dX9_statement_102 (fun x72 σ71 H locs hok hz hP hD hS => ?_)
            refine lv_goto (tgt := 120) hx hb dX9_statement_105 (by decide) ?_
            refine lv_istore_n (lv' := [(2, .int x72), (0, .ref (u 87)), (1, .int 2)]) hx hb dX9_statement_120 rfl hl (by decide) rfl (fun ls hl => ?_)
            refine lv_aload_n hx hb dX9_statement_121 rfl (lv_at hl 1 rfl) ?_
            refine lv_bipush (v := 14) hx hb dX9_statement_122 (by decide) ?_
            refine lv_iconst (v := 2) hx hb dX9_statement_124 (by decide) ?_
            refine lv_iload_n hx hb dX9_statement_125 rfl (lv_at hl 0 rfl) ?_
            refine lv_aload_n hx hb dX9_statement_126 rfl (lv_at hl 1 rfl) ?_
            refine lv_iconst (v := 1) hx hb dX9_statement_127 (by decide) ?_
            refine yVi (As := [.int 1]) (cw := (mW o u cI cZ cJ T ga)) (ci := 9) S (v_X9_expression_1 l D cI cZ cJ o u T ra ga σ71 _ H.size hok) mi_X9_expression kw_6_112 rfl rfl ⟨Nat.le_of_ble_eq_true rfl, Nat.le_of_ble_eq_true rfl⟩ hP hD hK hS hA hB mW_0 rfl rfl hl.1 (Nat.le_of_ble_eq_true rfl) ⟨Nat.le_of_ble_eq_true rfl, Nat.le_of_ble_eq_true rfl⟩ dX9_statement_128 (fun x74 σ73 H locs hok hz hP hD hS => ?_)
            refine yVi (As := [.int 14, .int 2, .int x72, .int x74]) (cw := (mW o u cI cZ cJ T ga)) (ci := 9) S (v_X9_add l D cI cZ cJ o u T ra ga σ73 14 2 x72 x74 _ H.size hok) mi_X9_add kw_6_116 rfl rfl ⟨Nat.le_of_ble_eq_true rfl, Nat.le_of_ble_eq_true rfl⟩ hP hD hK hS hA hB mW_0 rfl rfl hl.1 (Nat.le_of_ble_eq_true rfl) ⟨Nat.le_of_ble_eq_true rfl, Nat.le_of_ble_eq_true rfl⟩ dX9_statement_131 (fun x76 σ75 H locs hok hz hP hD hS => ?_)
            exact yEnd S hr hlocks hP hD hS (Nat.le_of_ble_eq_true rfl) (Nat.le_of_ble_eq_true rfl) dX9_statement_134 hok
        · have hok := hok.2 k_27_2
          by_cases k_27_3 : x50 = 3
          · have hok := hok.1 k_27_3
            rw [k_27_3]
            refine lv_tableIn (off := 108) (tgt := 135) hx hb dX9_statement_27 (by decide) (by decide) (by decide) (by decide) ?_
            refine lv_aload_n hx hb dX9_statement_135 rfl (lv_at hl 0 rfl) ?_
            refine lv_iconst (v := 1) hx hb dX9_statement_136 (by decide) ?_
            refine yVi (As := [.int 1]) (cw := (mW o u cI cZ cJ T ga)) (ci := 9) S (v_X9_expression_1 l D cI cZ cJ o u T ra ga σ49 _ H.size hok) mi_X9_expression kw_6_112 rfl rfl ⟨Nat.le_of_ble_eq_true rfl, Nat.le_of_ble_eq_true rfl⟩ hP hD hK hS hA hB mW_0 rfl rfl hl.1 (Nat.le_of_ble_eq_true rfl) ⟨Nat.le_of_ble_eq_true rfl, Nat.le_of_ble_eq_true rfl⟩ dX9_statement_137 (fun x78 σ77 H locs hok hz hP hD hS => ?_)
            refine lv_istore_n (lv' := [(3, .int x78), (0, .ref (u 87)), (1, .int 2)]) hx hb dX9_statement_140 rfl hl (by decide) rfl (fun ls hl => ?_)
            refine lv_aload_n hx hb dX9_statement_141 rfl (lv_at hl 1 rfl) ?_
            refine lv_iload_n hx hb dX9_statement_142 rfl (lv_at hl 2 rfl) ?_
            refine lv_iconst (v := 1) hx hb dX9_statement_143 (by decide) ?_
            refine xisub (v := 1) S dX9_statement_144 (by decide) ?_
            refine yVi (As := [.int 1]) (cw := (mW o u cI cZ cJ T ga)) (ci := 9) S (v_X9_statement_1 l D cI cZ cJ o u T ra ga σ77 _ H.size hok) mi_X9_statement kw_6_117 rfl rfl ⟨Nat.le_of_ble_eq_true rfl, Nat.le_of_ble_eq_true rfl⟩ hP hD hK hS hA hB mW_0 rfl rfl hl.1 (Nat.le_of_ble_eq_true rfl) ⟨Nat.le_of_ble_eq_true rfl, Nat.le_of_ble_eq_true rfl⟩ dX9_statement_145 (fun x80 σ79 H locs hok hz hP hD hS => ?_)
            refine lv_istore (lv' := [(4, .int x80), (3, .int x78), (0, .ref (u 87)), (1, .int 2)]) hx hb dX9_statement_148 hl (by decide) rfl (fun ls hl => ?_)
            refine lv_aload_n hx hb dX9_statement_150 rfl (lv_at hl 2 rfl) ?_
            refine lv_bipush (v := 15) hx hb dX9_statement_151 (by decide) ?_
            refine lv_aload_n hx hb dX9_statement_153 rfl (lv_at hl 2 rfl) ?_
            refine lv_iconst (v := 2) hx hb dX9_statement_154 (by decide) ?_
            refine yVi (As := [.int 2]) (cw := (mW o u cI cZ cJ T ga)) (ci := 9) S (v_X9_draw l D cI cZ cJ o u T ra ga σ79 2 _ H.size hok) mi_X9_draw kw_6_45 rfl rfl ⟨Nat.le_of_ble_eq_true rfl, Nat.le_of_ble_eq_true rfl⟩ hP hD hK hS hA hB mW_0 rfl rfl hl.1 (Nat.le_of_ble_eq_true rfl) ⟨Nat.le_of_ble_eq_true rfl, Nat.le_of_ble_eq_true rfl⟩ dX9_statement_155 (fun x82 σ81 H locs hok hz hP hD hS => ?_)
            refine lv_if_ne (tgt := 165) hx hb dX9_statement_158 (by decide) (fun c_158 => ?_) (fun c_158 => ?_)
            · have hok := hok.2 c_158
              refine lv_aload_n hx hb dX9_statement_165 rfl (lv_at hl 2 rfl) ?_
              refine lv_iload_n hx hb dX9_statement_166 rfl (lv_at hl 3 rfl) ?_
              refine lv_iconst (v := 1) hx hb dX9_statement_167 (by decide) ?_
              refine xisub (v := 1) S dX9_statement_168 (by decide) ?_
              refine yVi (As := [.int 1]) (cw := (mW o u cI cZ cJ T ga)) (ci := 9) S (v_X9_statement_1 l D cI cZ cJ o u T ra ga σ81 _ H.size hok) mi_X9_statement kw_6_117 rfl rfl ⟨Nat.le_of_ble_eq_true rfl, Nat.le_of_ble_eq_true rfl⟩ hP hD hK hS hA hB mW_0 rfl rfl hl.1 (Nat.le_of_ble_eq_true rfl) ⟨Nat.le_of_ble_eq_true rfl, Nat.le_of_ble_eq_true rfl⟩ dX9_statement_169 (fun x84 σ83 H locs hok hz hP hD hS => ?_)
              refine lv_iload_n hx hb dX9_statement_172 rfl (lv_at hl 1 rfl) ?_
              refine lv_iload hx hb dX9_statement_173 (lv_at hl 0 rfl) ?_
              refine yVi (As := [.int 15, .int x84, .int x78, .int x80]) (cw := (mW o u cI cZ cJ T ga)) (ci := 9) S (v_X9_add l D cI cZ cJ o u T ra ga σ83 15 x84 x78 x80 _ H.size hok) mi_X9_add kw_6_116 rfl rfl ⟨Nat.le_of_ble_eq_true rfl, Nat.le_of_ble_eq_true rfl⟩ hP hD hK hS hA hB mW_0 rfl rfl hl.1 (Nat.le_of_ble_eq_true rfl) ⟨Nat.le_of_ble_eq_true rfl, Nat.le_of_ble_eq_true rfl⟩ dX9_statement_175 (fun x86 σ85 H locs hok hz hP hD hS => ?_)
              exact yEnd S hr hlocks hP hD hS (Nat.le_of_ble_eq_true rfl) (Nat.le_of_ble_eq_true rfl) dX9_statement_178 hok
            · have hok := hok.1 c_158
              refine lv_iconst (v := (-1)) hx hb dX9_statement_161 (by decide) ?_
              refine lv_goto (tgt := 172) hx hb dX9_statement_162 (by decide) ?_
              refine lv_iload_n hx hb dX9_statement_172 rfl (lv_at hl 1 rfl) ?_
              refine lv_iload hx hb dX9_statement_173 (lv_at hl 0 rfl) ?_
              refine yVi (As := [.int 15, .int (-1), .int x78, .int x80]) (cw := (mW o u cI cZ cJ T ga)) (ci := 9) S (v_X9_add l D cI cZ cJ o u T ra ga σ81 15 (-1) x78 x80 _ H.size hok) mi_X9_add kw_6_116 rfl rfl ⟨Nat.le_of_ble_eq_true rfl, Nat.le_of_ble_eq_true rfl⟩ hP hD hK hS hA hB mW_0 rfl rfl hl.1 (Nat.le_of_ble_eq_true rfl) ⟨Nat.le_of_ble_eq_true rfl, Nat.le_of_ble_eq_true rfl⟩ dX9_statement_175 (fun x88 σ87 H locs hok hz hP hD hS => ?_)
              exact yEnd S hr hlocks hP hD hS (Nat.le_of_ble_eq_true rfl) (Nat.le_of_ble_eq_true rfl) dX9_statement_178 hok
          · have hok := hok.2 k_27_3
            by_cases k_27_4 : x50 = 4
            · have hok := hok.1 k_27_4
              rw [k_27_4]
              refine lv_tableIn (off := 152) (tgt := 179) hx hb dX9_statement_27 (by decide) (by decide) (by decide) (by decide) ?_
              refine lv_aload_n hx hb dX9_statement_179 rfl (lv_at hl 0 rfl) ?_
              refine lv_iload_n hx hb dX9_statement_180 rfl (lv_at hl 1 rfl) ?_
              refine yVi (As := [.int 2]) (cw := (mW o u cI cZ cJ T ga)) (ci := 9) S (v_X9_loop l D cI cZ cJ o u T ra ga σ49 2 _ H.size hok) mi_X9_loop kw_6_118 rfl rfl ⟨Nat.le_of_ble_eq_true rfl, Nat.le_of_ble_eq_true rfl⟩ hP hD hK hS hA hB mW_0 rfl rfl hl.1 (Nat.le_of_ble_eq_true rfl) ⟨Nat.le_of_ble_eq_true rfl, Nat.le_of_ble_eq_true rfl⟩ dX9_statement_181 (fun x90 σ89 H locs hok hz hP hD hS => ?_)
              exact yEnd S hr hlocks hP hD hS (Nat.le_of_ble_eq_true rfl) (Nat.le_of_ble_eq_true rfl) dX9_statement_184 hok
            · have hok := hok.2 k_27_4
              have q_27_0 := sw_ni k_27_0 (z := 0) (by decide)
              have q_27_1 := sw_ni k_27_1 (z := 1) (by decide)
              have q_27_2 := sw_ni k_27_2 (z := 2) (by decide)
              have q_27_3 := sw_ni k_27_3 (z := 3) (by decide)
              have q_27_4 := sw_ni k_27_4 (z := 4) (by decide)
              refine lv_tableOut (tgt := 185) hx hb dX9_statement_27 (by omega) (by decide) ?_
              refine lv_aload_n hx hb dX9_statement_185 rfl (lv_at hl 0 rfl) ?_
              refine lv_iload_n hx hb dX9_statement_186 rfl (lv_at hl 1 rfl) ?_
              refine lv_iconst (v := 1) hx hb dX9_statement_187 (by decide) ?_
              refine xisub (v := 1) S dX9_statement_188 (by decide) ?_
              refine yVi (As := [.int 1]) (cw := (mW o u cI cZ cJ T ga)) (ci := 9) S (v_X9_statement_1 l D cI cZ cJ o u T ra ga σ49 _ H.size hok) mi_X9_statement kw_6_117 rfl rfl ⟨Nat.le_of_ble_eq_true rfl, Nat.le_of_ble_eq_true rfl⟩ hP hD hK hS hA hB mW_0 rfl rfl hl.1 (Nat.le_of_ble_eq_true rfl) ⟨Nat.le_of_ble_eq_true rfl, Nat.le_of_ble_eq_true rfl⟩ dX9_statement_189 (fun x92 σ91 H locs hok hz hP hD hS => ?_)
              refine lv_istore (lv' := [(5, .int x92), (0, .ref (u 87)), (1, .int 2)]) hx hb dX9_statement_192 hl (by decide) rfl (fun ls hl => ?_)
              refine lv_aload_n hx hb dX9_statement_194 rfl (lv_at hl 1 rfl) ?_
              refine lv_bipush (v := 12) hx hb dX9_statement_195 (by decide) ?_
              refine lv_iconst (v := 0) hx hb dX9_statement_197 (by decide) ?_
              refine lv_iload hx hb dX9_statement_198 (lv_at hl 0 rfl) ?_
              refine lv_aload_n hx hb dX9_statement_200 rfl (lv_at hl 1 rfl) ?_
              refine lv_iload_n hx hb dX9_statement_201 rfl (lv_at hl 2 rfl) ?_
              refine lv_iconst (v := 1) hx hb dX9_statement_202 (by decide) ?_
              refine xisub (v := 1) S dX9_statement_203 (by decide) ?_
              refine yVi (As := [.int 1]) (cw := (mW o u cI cZ cJ T ga)) (ci := 9) S (v_X9_statement_1 l D cI cZ cJ o u T ra ga σ91 _ H.size hok) mi_X9_statement kw_6_117 rfl rfl ⟨Nat.le_of_ble_eq_true rfl, Nat.le_of_ble_eq_true rfl⟩ hP hD hK hS hA hB mW_0 rfl rfl hl.1 (Nat.le_of_ble_eq_true rfl) ⟨Nat.le_of_ble_eq_true rfl, Nat.le_of_ble_eq_true rfl⟩ dX9_statement_204 (fun x94 σ93 H locs hok hz hP hD hS => ?_)
              refine yVi (As := [.int 12, .int 0, .int x92, .int x94]) (cw := (mW o u cI cZ cJ T ga)) (ci := 9) S (v_X9_add l D cI cZ cJ o u T ra ga σ93 12 0 x92 x94 _ H.size hok) mi_X9_add kw_6_116 rfl rfl ⟨Nat.le_of_ble_eq_true rfl, Nat.le_of_ble_eq_true rfl⟩ hP hD hK hS hA hB mW_0 rfl rfl hl.1 (Nat.le_of_ble_eq_true rfl) ⟨Nat.le_of_ble_eq_true rfl, Nat.le_of_ble_eq_true rfl⟩ dX9_statement_207 (fun x96 σ95 H locs hok hz hP hD hS => ?_)
              exact yEnd S hr hlocks hP hD hS (Nat.le_of_ble_eq_true rfl) (Nat.le_of_ble_eq_true rfl) dX9_statement_210 hok

set_option maxHeartbeats 8000000 in
set_option maxRecDepth 100000 in
theorem v_X9_statement_3 (l : Launch) (D : va_G) (cI cZ cJ : ClassId) (o : Nat) (u : Nat → Nat) (T : Nat) (ra : Nat → Nat) (ga : SG) (σ : FS) (Φ : Int32 → FS → Prop) (sz : Nat) (hok : (wp_X9_statement_3 ga σ Φ)) : Met l yX9_statement (uW yX9_statement cX9_statement 6 (some .int)) ({ frames := 13, cells := 146, slots := 584, locals := 314 }) (va_Pc [.ref (u 87), .int 3] (aS ra ga D (tyL cI cZ cJ) (mW o u cI cZ cJ T ga σ) sz)) (yQi Φ D (mW o u cI cZ cJ T ga) (va_A (mW o u cI cZ cJ T ga σ) sz)) 146 584 (va_A (mW o u cI cZ cJ T ga σ) sz) := by
  refine aStart (lv := [(0, .ref (u 87)), (1, .int 3)]) (Qc := fun A => yQi Φ D (mW o u cI cZ cJ T ga) A) (by decide) (Nat.le_of_ble_eq_true rfl) rfl ?_
  intro p e s m args below meth c ls A H S hr hlocks hnm hl hK hP hD hS hA hB
  have hx := S.1
  have hb := S.2.1
  refine lv_iload_n hx hb dX9_statement_0 rfl (lv_at hl 1 rfl) ?_
  refine lv_if_eq (tgt := 13) hx hb dX9_statement_1 (by decide) (fun c => absurd c (by decide)) (fun _ => ?_)
  refine lv_aload_n hx hb dX9_statement_4 rfl (lv_at hl 0 rfl) ?_
  refine xg (ci := 9) S inX9 rfl hK hP mW_0 3 (by decide) rfl kw_5_233 rfl dX9_statement_5 ?_
  refine lv_bipush (v := 55) hx hb dX9_statement_8 (by decide) ?_
  refine lv_icmp_le (tgt := 21) hx hb dX9_statement_10 (by decide) (fun c_10 => ?_) (fun c_10 => ?_)
  · have hok := hok.1 c_10
    refine lv_aload_n hx hb dX9_statement_21 rfl (lv_at hl 0 rfl) ?_
    refine lv_bipush (v := 7) hx hb dX9_statement_22 (by decide) ?_
    refine yVi (As := [.int 7]) (cw := (mW o u cI cZ cJ T ga)) (ci := 9) S (v_X9_draw l D cI cZ cJ o u T ra ga σ 7 _ H.size hok) mi_X9_draw kw_6_45 rfl rfl ⟨Nat.le_of_ble_eq_true rfl, Nat.le_of_ble_eq_true rfl⟩ hP hD hK hS hA hB mW_0 rfl rfl hl.1 (Nat.le_of_ble_eq_true rfl) ⟨Nat.le_of_ble_eq_true rfl, Nat.le_of_ble_eq_true rfl⟩ dX9_statement_24 (fun x2 σ1 H locs hok hz hP hD hS => ?_)
    by_cases k_27_0 : x2 = 0
    · have hok := hok.1 k_27_0
      rw [k_27_0]
      refine lv_tableIn (off := 33) (tgt := 60) hx hb dX9_statement_27 (by decide) (by decide) (by decide) (by decide) ?_
      refine lv_aload_n hx hb dX9_statement_60 rfl (lv_at hl 0 rfl) ?_
      refine lv_bipush (v := 13) hx hb dX9_statement_61 (by decide) ?_
      refine lv_aload_n hx hb dX9_statement_63 rfl (lv_at hl 0 rfl) ?_
      refine lv_iconst (v := 2) hx hb dX9_statement_64 (by decide) ?_
      refine yVi (As := [.int 2]) (cw := (mW o u cI cZ cJ T ga)) (ci := 9) S (v_X9_draw l D cI cZ cJ o u T ra ga σ1 2 _ H.size hok) mi_X9_draw kw_6_45 rfl rfl ⟨Nat.le_of_ble_eq_true rfl, Nat.le_of_ble_eq_true rfl⟩ hP hD hK hS hA hB mW_0 rfl rfl hl.1 (Nat.le_of_ble_eq_true rfl) ⟨Nat.le_of_ble_eq_true rfl, Nat.le_of_ble_eq_true rfl⟩ dX9_statement_65 (fun x4 σ3 H locs hok hz hP hD hS => ?_)
      refine lv_aload_n hx hb dX9_statement_68 rfl (lv_at hl 0 rfl) ?_
      refine lv_iconst (v := 2) hx hb dX9_statement_69 (by decide) ?_
      refine yVi (As := [.int 2]) (cw := (mW o u cI cZ cJ T ga)) (ci := 9) S (v_X9_expression_2 l D cI cZ cJ o u T ra ga σ3 _ H.size hok) mi_X9_expression kw_6_112 rfl rfl ⟨Nat.le_of_ble_eq_true rfl, Nat.le_of_ble_eq_true rfl⟩ hP hD hK hS hA hB mW_0 rfl rfl hl.1 (Nat.le_of_ble_eq_true rfl) ⟨Nat.le_of_ble_eq_true rfl, Nat.le_of_ble_eq_true rfl⟩ dX9_statement_70 (fun x6 σ5 H locs hok hz hP hD hS => ?_)
      refine lv_iconst (v := 0) hx hb dX9_statement_73 (by decide) ?_
      refine yVi (As := [.int 13, .int x4, .int x6, .int 0]) (cw := (mW o u cI cZ cJ T ga)) (ci := 9) S (v_X9_add l D cI cZ cJ o u T ra ga σ5 13 x4 x6 0 _ H.size hok) mi_X9_add kw_6_116 rfl rfl ⟨Nat.le_of_ble_eq_true rfl, Nat.le_of_ble_eq_true rfl⟩ hP hD hK hS hA hB mW_0 rfl rfl hl.1 (Nat.le_of_ble_eq_true rfl) ⟨Nat.le_of_ble_eq_true rfl, Nat.le_of_ble_eq_true rfl⟩ dX9_statement_74 (fun x8 σ7 H locs hok hz hP hD hS => ?_)
      exact yEnd S hr hlocks hP hD hS (Nat.le_of_ble_eq_true rfl) (Nat.le_of_ble_eq_true rfl) dX9_statement_77 hok
    · have hok := hok.2 k_27_0
      by_cases k_27_1 : x2 = 1
      · have hok := hok.1 k_27_1
        rw [k_27_1]
        refine lv_tableIn (off := 51) (tgt := 78) hx hb dX9_statement_27 (by decide) (by decide) (by decide) (by decide) ?_
        refine lv_aload_n hx hb dX9_statement_78 rfl (lv_at hl 0 rfl) ?_
        refine lv_bipush (v := 19) hx hb dX9_statement_79 (by decide) ?_
        refine lv_iconst (v := 0) hx hb dX9_statement_81 (by decide) ?_
        refine lv_aload_n hx hb dX9_statement_82 rfl (lv_at hl 0 rfl) ?_
        refine lv_iconst (v := 2) hx hb dX9_statement_83 (by decide) ?_
        refine yVi (As := [.int 2]) (cw := (mW o u cI cZ cJ T ga)) (ci := 9) S (v_X9_expression_2 l D cI cZ cJ o u T ra ga σ1 _ H.size hok) mi_X9_expression kw_6_112 rfl rfl ⟨Nat.le_of_ble_eq_true rfl, Nat.le_of_ble_eq_true rfl⟩ hP hD hK hS hA hB mW_0 rfl rfl hl.1 (Nat.le_of_ble_eq_true rfl) ⟨Nat.le_of_ble_eq_true rfl, Nat.le_of_ble_eq_true rfl⟩ dX9_statement_84 (fun x10 σ9 H locs hok hz hP hD hS => ?_)
        refine lv_iconst (v := 0) hx hb dX9_statement_87 (by decide) ?_
        refine yVi (As := [.int 19, .int 0, .int x10, .int 0]) (cw := (mW o u cI cZ cJ T ga)) (ci := 9) S (v_X9_add l D cI cZ cJ o u T ra ga σ9 19 0 x10 0 _ H.size hok) mi_X9_add kw_6_116 rfl rfl ⟨Nat.le_of_ble_eq_true rfl, Nat.le_of_ble_eq_true rfl⟩ hP hD hK hS hA hB mW_0 rfl rfl hl.1 (Nat.le_of_ble_eq_true rfl) ⟨Nat.le_of_ble_eq_true rfl, Nat.le_of_ble_eq_true rfl⟩ dX9_statement_88 (fun x12 σ11 H locs hok hz hP hD hS => ?_)
        exact yEnd S hr hlocks hP hD hS (Nat.le_of_ble_eq_true rfl) (Nat.le_of_ble_eq_true rfl) dX9_statement_91 hok
      · have hok := hok.2 k_27_1
        by_cases k_27_2 : x2 = 2
        · have hok := hok.1 k_27_2
          rw [k_27_2]
          refine lv_tableIn (off := 65) (tgt := 92) hx hb dX9_statement_27 (by decide) (by decide) (by decide) (by decide) ?_
          refine lv_aload_n hx hb dX9_statement_92 rfl (lv_at hl 0 rfl) ?_
          refine lv_iconst (v := 4) hx hb dX9_statement_93 (by decide) ?_
          refine yVi (As := [.int 4]) (cw := (mW o u cI cZ cJ T ga)) (ci := 9) S (v_X9_draw l D cI cZ cJ o u T ra ga σ1 4 _ H.size hok) mi_X9_draw kw_6_45 rfl rfl ⟨Nat.le_of_ble_eq_true rfl, Nat.le_of_ble_eq_true rfl⟩ hP hD hK hS hA hB mW_0 rfl rfl hl.1 (Nat.le_of_ble_eq_true rfl) ⟨Nat.le_of_ble_eq_true rfl, Nat.le_of_ble_eq_true rfl⟩ dX9_statement_94 (fun x14 σ13 H locs hok hz hP hD hS => ?_)
          refine lv_if_ne (tgt := 108) hx hb dX9_statement_97 (by decide) (fun c_97 => ?_) (fun c_97 => ?_)
          · have hok := hok.2 c_97
            refine lv_aload_n hx hb dX9_statement_108 rfl (lv_at hl 0 rfl) ?_
            refine lv_iconst (v := 0) hx hb dX9_statement_109 (by decide) ?_
            refine lv_aload_n hx hb dX9_statement_110 rfl (lv_at hl 0 rfl) ?_
            refine lv_iconst (v := 4) hx hb dX9_statement_111 (by decide) ?_
            refine yVi (As := [.int 4]) (cw := (mW o u cI cZ cJ T ga)) (ci := 9) S (v_X9_draw l D cI cZ cJ o u T ra ga σ13 4 _ H.size hok) mi_X9_draw kw_6_45 rfl rfl ⟨Nat.le_of_ble_eq_true rfl, Nat.le_of_ble_eq_true rfl⟩ hP hD hK hS hA hB mW_0 rfl rfl hl.1 (Nat.le_of_ble_eq_true rfl) ⟨Nat.le_of_ble_eq_true rfl, Nat.le_of_ble_eq_true rfl⟩ dX9_statement_112 (fun x16 σ15 H locs hok hz hP hD hS => ?_)
            refine lv_iconst (v := 0) hx hb dX9_statement_115 (by decide) ?_
            refine lv_iconst (v := 0) hx hb dX9_statement_116 (by decide) ?_
            refine yVi (As := [.int 0, .int x16, .int 0, .int 0]) (cw := (mW o u cI cZ cJ T ga)) (ci := 9) S (v_X9_add l D cI cZ cJ o u T ra ga σ15 0 x16 0 0 _ H.size hok) mi_X9_add kw_6_116 rfl rfl ⟨Nat.le_of_ble_eq_true rfl, Nat.le_of_ble_eq_true rfl⟩ hP hD hK hS hA hB mW_0 rfl rfl hl.1 (Nat.le_of_ble_eq_true rfl) ⟨Nat.le_of_ble_eq_true rfl, Nat.le_of_ble_eq_true rfl⟩ dX9_statement_117 (fun x18 σ17 H locs hok hz hP hD hS => ?_)
            refine lv_istore_n (lv' := [(2, .int x18), (0, .ref (u 87)), (1, .int 3)]) hx hb dX9_statement_120 rfl hl (by decide) rfl (fun ls hl => ?_)
            refine lv_aload_n hx hb dX9_statement_121 rfl (lv_at hl 1 rfl) ?_
            refine lv_bipush (v := 14) hx hb dX9_statement_122 (by decide) ?_
            refine lv_iconst (v := 2) hx hb dX9_statement_124 (by decide) ?_
            refine lv_iload_n hx hb dX9_statement_125 rfl (lv_at hl 0 rfl) ?_
            refine lv_aload_n hx hb dX9_statement_126 rfl (lv_at hl 1 rfl) ?_
            refine lv_iconst (v := 1) hx hb dX9_statement_127 (by decide) ?_
            refine yVi (As := [.int 1]) (cw := (mW o u cI cZ cJ T ga)) (ci := 9) S (v_X9_expression_1 l D cI cZ cJ o u T ra ga σ17 _ H.size hok) mi_X9_expression kw_6_112 rfl rfl ⟨Nat.le_of_ble_eq_true rfl, Nat.le_of_ble_eq_true rfl⟩ hP hD hK hS hA hB mW_0 rfl rfl hl.1 (Nat.le_of_ble_eq_true rfl) ⟨Nat.le_of_ble_eq_true rfl, Nat.le_of_ble_eq_true rfl⟩ dX9_statement_128 (fun x20 σ19 H locs hok hz hP hD hS => ?_)
            refine yVi (As := [.int 14, .int 2, .int x18, .int x20]) (cw := (mW o u cI cZ cJ T ga)) (ci := 9) S (v_X9_add l D cI cZ cJ o u T ra ga σ19 14 2 x18 x20 _ H.size hok) mi_X9_add kw_6_116 rfl rfl ⟨Nat.le_of_ble_eq_true rfl, Nat.le_of_ble_eq_true rfl⟩ hP hD hK hS hA hB mW_0 rfl rfl hl.1 (Nat.le_of_ble_eq_true rfl) ⟨Nat.le_of_ble_eq_true rfl, Nat.le_of_ble_eq_true rfl⟩ dX9_statement_131 (fun x22 σ21 H locs hok hz hP hD hS => ?_)
            exact yEnd S hr hlocks hP hD hS (Nat.le_of_ble_eq_true rfl) (Nat.le_of_ble_eq_true rfl) dX9_statement_134 hok
          · have hok := hok.1 c_97
            refine lv_aload_n hx hb dX9_statement_100 rfl (lv_at hl 0 rfl) ?_
            refine lv_iconst (v := 1) hx hb dX9_statement_101 (by decide) ?_
            refine yVi (As := [.int 1]) (cw := (mW o u cI cZ cJ T ga)) (ci := 9) S (v_X9_expression_1 l D cI cZ cJ o u T ra ga σ13 _ H.size hok) mi_X9_expression kw_6_112 rfl rfl ⟨Nat.le_of_ble_eq_true rfl, Nat.le_of_ble_eq_true rfl⟩ hP hD hK hS hA hB mW_0 rfl rfl hl.1 (Nat.le_of_ble_eq_true rfl) ⟨Nat.le_of_ble_eq_true rfl, Nat.le_of_ble_eq_true rfl⟩ dX9_statement_102 (fun x24 σ23 H locs hok hz hP hD hS => ?_)
            refine lv_goto (tgt := 120) hx hb dX9_statement_105 (by decide) ?_
            refine lv_istore_n (lv' := [(2, .int x24), (0, .ref (u 87)), (1, .int 3)]) hx hb dX9_statement_120 rfl hl (by decide) rfl (fun ls hl => ?_)
            refine lv_aload_n hx hb dX9_statement_121 rfl (lv_at hl 1 rfl) ?_
            refine lv_bipush (v := 14) hx hb dX9_statement_122 (by decide) ?_
            refine lv_iconst (v := 2) hx hb dX9_statement_124 (by decide) ?_
            refine lv_iload_n hx hb dX9_statement_125 rfl (lv_at hl 0 rfl) ?_
            refine lv_aload_n hx hb dX9_statement_126 rfl (lv_at hl 1 rfl) ?_
            refine lv_iconst (v := 1) hx hb dX9_statement_127 (by decide) ?_
            refine yVi (As := [.int 1]) (cw := (mW o u cI cZ cJ T ga)) (ci := 9) S (v_X9_expression_1 l D cI cZ cJ o u T ra ga σ23 _ H.size hok) mi_X9_expression kw_6_112 rfl rfl ⟨Nat.le_of_ble_eq_true rfl, Nat.le_of_ble_eq_true rfl⟩ hP hD hK hS hA hB mW_0 rfl rfl hl.1 (Nat.le_of_ble_eq_true rfl) ⟨Nat.le_of_ble_eq_true rfl, Nat.le_of_ble_eq_true rfl⟩ dX9_statement_128 (fun x26 σ25 H locs hok hz hP hD hS => ?_)
            refine yVi (As := [.int 14, .int 2, .int x24, .int x26]) (cw := (mW o u cI cZ cJ T ga)) (ci := 9) S (v_X9_add l D cI cZ cJ o u T ra ga σ25 14 2 x24 x26 _ H.size hok) mi_X9_add kw_6_116 rfl rfl ⟨Nat.le_of_ble_eq_true rfl, Nat.le_of_ble_eq_true rfl⟩ hP hD hK hS hA hB mW_0 rfl rfl hl.1 (Nat.le_of_ble_eq_true rfl) ⟨Nat.le_of_ble_eq_true rfl, Nat.le_of_ble_eq_true rfl⟩ dX9_statement_131 (fun x28 σ27 H locs hok hz hP hD hS => ?_)
            exact yEnd S hr hlocks hP hD hS (Nat.le_of_ble_eq_true rfl) (Nat.le_of_ble_eq_true rfl) dX9_statement_134 hok
        · have hok := hok.2 k_27_2
          by_cases k_27_3 : x2 = 3
          · have hok := hok.1 k_27_3
            rw [k_27_3]
            refine lv_tableIn (off := 108) (tgt := 135) hx hb dX9_statement_27 (by decide) (by decide) (by decide) (by decide) ?_
            refine lv_aload_n hx hb dX9_statement_135 rfl (lv_at hl 0 rfl) ?_
            refine lv_iconst (v := 1) hx hb dX9_statement_136 (by decide) ?_
            refine yVi (As := [.int 1]) (cw := (mW o u cI cZ cJ T ga)) (ci := 9) S (v_X9_expression_1 l D cI cZ cJ o u T ra ga σ1 _ H.size hok) mi_X9_expression kw_6_112 rfl rfl ⟨Nat.le_of_ble_eq_true rfl, Nat.le_of_ble_eq_true rfl⟩ hP hD hK hS hA hB mW_0 rfl rfl hl.1 (Nat.le_of_ble_eq_true rfl) ⟨Nat.le_of_ble_eq_true rfl, Nat.le_of_ble_eq_true rfl⟩ dX9_statement_137 (fun x30 σ29 H locs hok hz hP hD hS => ?_)
            refine lv_istore_n (lv' := [(3, .int x30), (0, .ref (u 87)), (1, .int 3)]) hx hb dX9_statement_140 rfl hl (by decide) rfl (fun ls hl => ?_)
            refine lv_aload_n hx hb dX9_statement_141 rfl (lv_at hl 1 rfl) ?_
            refine lv_iload_n hx hb dX9_statement_142 rfl (lv_at hl 2 rfl) ?_
            refine lv_iconst (v := 1) hx hb dX9_statement_143 (by decide) ?_
            refine xisub (v := 2) S dX9_statement_144 (by decide) ?_
            refine yVi (As := [.int 2]) (cw := (mW o u cI cZ cJ T ga)) (ci := 9) S (v_X9_statement_2 l D cI cZ cJ o u T ra ga σ29 _ H.size hok) mi_X9_statement kw_6_117 rfl rfl ⟨Nat.le_of_ble_eq_true rfl, Nat.le_of_ble_eq_true rfl⟩ hP hD hK hS hA hB mW_0 rfl rfl hl.1 (Nat.le_of_ble_eq_true rfl) ⟨Nat.le_of_ble_eq_true rfl, Nat.le_of_ble_eq_true rfl⟩ dX9_statement_145 (fun x32 σ31 H locs hok hz hP hD hS => ?_)
            refine lv_istore (lv' := [(4, .int x32), (3, .int x30), (0, .ref (u 87)), (1, .int 3)]) hx hb dX9_statement_148 hl (by decide) rfl (fun ls hl => ?_)
            refine lv_aload_n hx hb dX9_statement_150 rfl (lv_at hl 2 rfl) ?_
            refine lv_bipush (v := 15) hx hb dX9_statement_151 (by decide) ?_
            refine lv_aload_n hx hb dX9_statement_153 rfl (lv_at hl 2 rfl) ?_
            refine lv_iconst (v := 2) hx hb dX9_statement_154 (by decide) ?_
            refine yVi (As := [.int 2]) (cw := (mW o u cI cZ cJ T ga)) (ci := 9) S (v_X9_draw l D cI cZ cJ o u T ra ga σ31 2 _ H.size hok) mi_X9_draw kw_6_45 rfl rfl ⟨Nat.le_of_ble_eq_true rfl, Nat.le_of_ble_eq_true rfl⟩ hP hD hK hS hA hB mW_0 rfl rfl hl.1 (Nat.le_of_ble_eq_true rfl) ⟨Nat.le_of_ble_eq_true rfl, Nat.le_of_ble_eq_true rfl⟩ dX9_statement_155 (fun x34 σ33 H locs hok hz hP hD hS => ?_)
            refine lv_if_ne (tgt := 165) hx hb dX9_statement_158 (by decide) (fun c_158 => ?_) (fun c_158 => ?_)
            · have hok := hok.2 c_158
              refine lv_aload_n hx hb dX9_statement_165 rfl (lv_at hl 2 rfl) ?_
              refine lv_iload_n hx hb dX9_statement_166 rfl (lv_at hl 3 rfl) ?_
              refine lv_iconst (v := 1) hx hb dX9_statement_167 (by decide) ?_
              refine xisub (v := 2) S dX9_statement_168 (by decide) ?_
              refine yVi (As := [.int 2]) (cw := (mW o u cI cZ cJ T ga)) (ci := 9) S (v_X9_statement_2 l D cI cZ cJ o u T ra ga σ33 _ H.size hok) mi_X9_statement kw_6_117 rfl rfl ⟨Nat.le_of_ble_eq_true rfl, Nat.le_of_ble_eq_true rfl⟩ hP hD hK hS hA hB mW_0 rfl rfl hl.1 (Nat.le_of_ble_eq_true rfl) ⟨Nat.le_of_ble_eq_true rfl, Nat.le_of_ble_eq_true rfl⟩ dX9_statement_169 (fun x36 σ35 H locs hok hz hP hD hS => ?_)
              refine lv_iload_n hx hb dX9_statement_172 rfl (lv_at hl 1 rfl) ?_
              refine lv_iload hx hb dX9_statement_173 (lv_at hl 0 rfl) ?_
              refine yVi (As := [.int 15, .int x36, .int x30, .int x32]) (cw := (mW o u cI cZ cJ T ga)) (ci := 9) S (v_X9_add l D cI cZ cJ o u T ra ga σ35 15 x36 x30 x32 _ H.size hok) mi_X9_add kw_6_116 rfl rfl ⟨Nat.le_of_ble_eq_true rfl, Nat.le_of_ble_eq_true rfl⟩ hP hD hK hS hA hB mW_0 rfl rfl hl.1 (Nat.le_of_ble_eq_true rfl) ⟨Nat.le_of_ble_eq_true rfl, Nat.le_of_ble_eq_true rfl⟩ dX9_statement_175 (fun x38 σ37 H locs hok hz hP hD hS => ?_)
              exact yEnd S hr hlocks hP hD hS (Nat.le_of_ble_eq_true rfl) (Nat.le_of_ble_eq_true rfl) dX9_statement_178 hok
            · have hok := hok.1 c_158
              refine lv_iconst (v := (-1)) hx hb dX9_statement_161 (by decide) ?_
              refine lv_goto (tgt := 172) hx hb dX9_statement_162 (by decide) ?_
              refine lv_iload_n hx hb dX9_statement_172 rfl (lv_at hl 1 rfl) ?_
              refine lv_iload hx hb dX9_statement_173 (lv_at hl 0 rfl) ?_
              refine yVi (As := [.int 15, .int (-1), .int x30, .int x32]) (cw := (mW o u cI cZ cJ T ga)) (ci := 9) S (v_X9_add l D cI cZ cJ o u T ra ga σ33 15 (-1) x30 x32 _ H.size hok) mi_X9_add kw_6_116 rfl rfl ⟨Nat.le_of_ble_eq_true rfl, Nat.le_of_ble_eq_true rfl⟩ hP hD hK hS hA hB mW_0 rfl rfl hl.1 (Nat.le_of_ble_eq_true rfl) ⟨Nat.le_of_ble_eq_true rfl, Nat.le_of_ble_eq_true rfl⟩ dX9_statement_175 (fun x40 σ39 H locs hok hz hP hD hS => ?_)
              exact yEnd S hr hlocks hP hD hS (Nat.le_of_ble_eq_true rfl) (Nat.le_of_ble_eq_true rfl) dX9_statement_178 hok
          · have hok := hok.2 k_27_3
            by_cases k_27_4 : x2 = 4
            · have hok := hok.1 k_27_4
              rw [k_27_4]
              refine lv_tableIn (off := 152) (tgt := 179) hx hb dX9_statement_27 (by decide) (by decide) (by decide) (by decide) ?_
              refine lv_aload_n hx hb dX9_statement_179 rfl (lv_at hl 0 rfl) ?_
              refine lv_iload_n hx hb dX9_statement_180 rfl (lv_at hl 1 rfl) ?_
              refine yVi (As := [.int 3]) (cw := (mW o u cI cZ cJ T ga)) (ci := 9) S (v_X9_loop l D cI cZ cJ o u T ra ga σ1 3 _ H.size hok) mi_X9_loop kw_6_118 rfl rfl ⟨Nat.le_of_ble_eq_true rfl, Nat.le_of_ble_eq_true rfl⟩ hP hD hK hS hA hB mW_0 rfl rfl hl.1 (Nat.le_of_ble_eq_true rfl) ⟨Nat.le_of_ble_eq_true rfl, Nat.le_of_ble_eq_true rfl⟩ dX9_statement_181 (fun x42 σ41 H locs hok hz hP hD hS => ?_)
              exact yEnd S hr hlocks hP hD hS (Nat.le_of_ble_eq_true rfl) (Nat.le_of_ble_eq_true rfl) dX9_statement_184 hok
            · have hok := hok.2 k_27_4
              have q_27_0 := sw_ni k_27_0 (z := 0) (by decide)
              have q_27_1 := sw_ni k_27_1 (z := 1) (by decide)
              have q_27_2 := sw_ni k_27_2 (z := 2) (by decide)
              have q_27_3 := sw_ni k_27_3 (z := 3) (by decide)
              have q_27_4 := sw_ni k_27_4 (z := 4) (by decide)
              refine lv_tableOut (tgt := 185) hx hb dX9_statement_27 (by omega) (by decide) ?_
              refine lv_aload_n hx hb dX9_statement_185 rfl (lv_at hl 0 rfl) ?_
              refine lv_iload_n hx hb dX9_statement_186 rfl (lv_at hl 1 rfl) ?_
              refine lv_iconst (v := 1) hx hb dX9_statement_187 (by decide) ?_
              refine xisub (v := 2) S dX9_statement_188 (by decide) ?_
              refine yVi (As := [.int 2]) (cw := (mW o u cI cZ cJ T ga)) (ci := 9) S (v_X9_statement_2 l D cI cZ cJ o u T ra ga σ1 _ H.size hok) mi_X9_statement kw_6_117 rfl rfl ⟨Nat.le_of_ble_eq_true rfl, Nat.le_of_ble_eq_true rfl⟩ hP hD hK hS hA hB mW_0 rfl rfl hl.1 (Nat.le_of_ble_eq_true rfl) ⟨Nat.le_of_ble_eq_true rfl, Nat.le_of_ble_eq_true rfl⟩ dX9_statement_189 (fun x44 σ43 H locs hok hz hP hD hS => ?_)
              refine lv_istore (lv' := [(5, .int x44), (0, .ref (u 87)), (1, .int 3)]) hx hb dX9_statement_192 hl (by decide) rfl (fun ls hl => ?_)
              refine lv_aload_n hx hb dX9_statement_194 rfl (lv_at hl 1 rfl) ?_
              refine lv_bipush (v := 12) hx hb dX9_statement_195 (by decide) ?_
              refine lv_iconst (v := 0) hx hb dX9_statement_197 (by decide) ?_
              refine lv_iload hx hb dX9_statement_198 (lv_at hl 0 rfl) ?_
              refine lv_aload_n hx hb dX9_statement_200 rfl (lv_at hl 1 rfl) ?_
              refine lv_iload_n hx hb dX9_statement_201 rfl (lv_at hl 2 rfl) ?_
              refine lv_iconst (v := 1) hx hb dX9_statement_202 (by decide) ?_
              refine xisub (v := 2) S dX9_statement_203 (by decide) ?_
              refine yVi (As := [.int 2]) (cw := (mW o u cI cZ cJ T ga)) (ci := 9) S (v_X9_statement_2 l D cI cZ cJ o u T ra ga σ43 _ H.size hok) mi_X9_statement kw_6_117 rfl rfl ⟨Nat.le_of_ble_eq_true rfl, Nat.le_of_ble_eq_true rfl⟩ hP hD hK hS hA hB mW_0 rfl rfl hl.1 (Nat.le_of_ble_eq_true rfl) ⟨Nat.le_of_ble_eq_true rfl, Nat.le_of_ble_eq_true rfl⟩ dX9_statement_204 (fun x46 σ45 H locs hok hz hP hD hS => ?_)
              refine yVi (As := [.int 12, .int 0, .int x44, .int x46]) (cw := (mW o u cI cZ cJ T ga)) (ci := 9) S (v_X9_add l D cI cZ cJ o u T ra ga σ45 12 0 x44 x46 _ H.size hok) mi_X9_add kw_6_116 rfl rfl ⟨Nat.le_of_ble_eq_true rfl, Nat.le_of_ble_eq_true rfl⟩ hP hD hK hS hA hB mW_0 rfl rfl hl.1 (Nat.le_of_ble_eq_true rfl) ⟨Nat.le_of_ble_eq_true rfl, Nat.le_of_ble_eq_true rfl⟩ dX9_statement_207 (fun x48 σ47 H locs hok hz hP hD hS => ?_)
              exact yEnd S hr hlocks hP hD hS (Nat.le_of_ble_eq_true rfl) (Nat.le_of_ble_eq_true rfl) dX9_statement_210 hok
  · have hok := hok.2 c_10
    refine lv_aload_n hx hb dX9_statement_13 rfl (lv_at hl 0 rfl) ?_
    refine lv_iconst (v := 3) hx hb dX9_statement_14 (by decide) ?_
    refine yVi (As := [.int 3]) (cw := (mW o u cI cZ cJ T ga)) (ci := 9) S (v_X9_draw l D cI cZ cJ o u T ra ga σ 3 _ H.size hok) mi_X9_draw kw_6_45 rfl rfl ⟨Nat.le_of_ble_eq_true rfl, Nat.le_of_ble_eq_true rfl⟩ hP hD hK hS hA hB mW_0 rfl rfl hl.1 (Nat.le_of_ble_eq_true rfl) ⟨Nat.le_of_ble_eq_true rfl, Nat.le_of_ble_eq_true rfl⟩ dX9_statement_15 (fun x50 σ49 H locs hok hz hP hD hS => ?_)
    refine lv_goto (tgt := 27) hx hb dX9_statement_18 (by decide) ?_
    by_cases k_27_0 : x50 = 0
    · have hok := hok.1 k_27_0
      rw [k_27_0]
      refine lv_tableIn (off := 33) (tgt := 60) hx hb dX9_statement_27 (by decide) (by decide) (by decide) (by decide) ?_
      refine lv_aload_n hx hb dX9_statement_60 rfl (lv_at hl 0 rfl) ?_
      refine lv_bipush (v := 13) hx hb dX9_statement_61 (by decide) ?_
      refine lv_aload_n hx hb dX9_statement_63 rfl (lv_at hl 0 rfl) ?_
      refine lv_iconst (v := 2) hx hb dX9_statement_64 (by decide) ?_
      refine yVi (As := [.int 2]) (cw := (mW o u cI cZ cJ T ga)) (ci := 9) S (v_X9_draw l D cI cZ cJ o u T ra ga σ49 2 _ H.size hok) mi_X9_draw kw_6_45 rfl rfl ⟨Nat.le_of_ble_eq_true rfl, Nat.le_of_ble_eq_true rfl⟩ hP hD hK hS hA hB mW_0 rfl rfl hl.1 (Nat.le_of_ble_eq_true rfl) ⟨Nat.le_of_ble_eq_true rfl, Nat.le_of_ble_eq_true rfl⟩ dX9_statement_65 (fun x52 σ51 H locs hok hz hP hD hS => ?_)
      refine lv_aload_n hx hb dX9_statement_68 rfl (lv_at hl 0 rfl) ?_
      refine lv_iconst (v := 2) hx hb dX9_statement_69 (by decide) ?_
      refine yVi (As := [.int 2]) (cw := (mW o u cI cZ cJ T ga)) (ci := 9) S (v_X9_expression_2 l D cI cZ cJ o u T ra ga σ51 _ H.size hok) mi_X9_expression kw_6_112 rfl rfl ⟨Nat.le_of_ble_eq_true rfl, Nat.le_of_ble_eq_true rfl⟩ hP hD hK hS hA hB mW_0 rfl rfl hl.1 (Nat.le_of_ble_eq_true rfl) ⟨Nat.le_of_ble_eq_true rfl, Nat.le_of_ble_eq_true rfl⟩ dX9_statement_70 (fun x54 σ53 H locs hok hz hP hD hS => ?_)
      refine lv_iconst (v := 0) hx hb dX9_statement_73 (by decide) ?_
      refine yVi (As := [.int 13, .int x52, .int x54, .int 0]) (cw := (mW o u cI cZ cJ T ga)) (ci := 9) S (v_X9_add l D cI cZ cJ o u T ra ga σ53 13 x52 x54 0 _ H.size hok) mi_X9_add kw_6_116 rfl rfl ⟨Nat.le_of_ble_eq_true rfl, Nat.le_of_ble_eq_true rfl⟩ hP hD hK hS hA hB mW_0 rfl rfl hl.1 (Nat.le_of_ble_eq_true rfl) ⟨Nat.le_of_ble_eq_true rfl, Nat.le_of_ble_eq_true rfl⟩ dX9_statement_74 (fun x56 σ55 H locs hok hz hP hD hS => ?_)
      exact yEnd S hr hlocks hP hD hS (Nat.le_of_ble_eq_true rfl) (Nat.le_of_ble_eq_true rfl) dX9_statement_77 hok
    · have hok := hok.2 k_27_0
      by_cases k_27_1 : x50 = 1
      · have hok := hok.1 k_27_1
        rw [k_27_1]
        refine lv_tableIn (off := 51) (tgt := 78) hx hb dX9_statement_27 (by decide) (by decide) (by decide) (by decide) ?_
        refine lv_aload_n hx hb dX9_statement_78 rfl (lv_at hl 0 rfl) ?_
        refine lv_bipush (v := 19) hx hb dX9_statement_79 (by decide) ?_
        refine lv_iconst (v := 0) hx hb dX9_statement_81 (by decide) ?_
        refine lv_aload_n hx hb dX9_statement_82 rfl (lv_at hl 0 rfl) ?_
        refine lv_iconst (v := 2) hx hb dX9_statement_83 (by decide) ?_
        refine yVi (As := [.int 2]) (cw := (mW o u cI cZ cJ T ga)) (ci := 9) S (v_X9_expression_2 l D cI cZ cJ o u T ra ga σ49 _ H.size hok) mi_X9_expression kw_6_112 rfl rfl ⟨Nat.le_of_ble_eq_true rfl, Nat.le_of_ble_eq_true rfl⟩ hP hD hK hS hA hB mW_0 rfl rfl hl.1 (Nat.le_of_ble_eq_true rfl) ⟨Nat.le_of_ble_eq_true rfl, Nat.le_of_ble_eq_true rfl⟩ dX9_statement_84 (fun x58 σ57 H locs hok hz hP hD hS => ?_)
        refine lv_iconst (v := 0) hx hb dX9_statement_87 (by decide) ?_
        refine yVi (As := [.int 19, .int 0, .int x58, .int 0]) (cw := (mW o u cI cZ cJ T ga)) (ci := 9) S (v_X9_add l D cI cZ cJ o u T ra ga σ57 19 0 x58 0 _ H.size hok) mi_X9_add kw_6_116 rfl rfl ⟨Nat.le_of_ble_eq_true rfl, Nat.le_of_ble_eq_true rfl⟩ hP hD hK hS hA hB mW_0 rfl rfl hl.1 (Nat.le_of_ble_eq_true rfl) ⟨Nat.le_of_ble_eq_true rfl, Nat.le_of_ble_eq_true rfl⟩ dX9_statement_88 (fun x60 σ59 H locs hok hz hP hD hS => ?_)
        exact yEnd S hr hlocks hP hD hS (Nat.le_of_ble_eq_true rfl) (Nat.le_of_ble_eq_true rfl) dX9_statement_91 hok
      · have hok := hok.2 k_27_1
        by_cases k_27_2 : x50 = 2
        · have hok := hok.1 k_27_2
          rw [k_27_2]
          refine lv_tableIn (off := 65) (tgt := 92) hx hb dX9_statement_27 (by decide) (by decide) (by decide) (by decide) ?_
          refine lv_aload_n hx hb dX9_statement_92 rfl (lv_at hl 0 rfl) ?_
          refine lv_iconst (v := 4) hx hb dX9_statement_93 (by decide) ?_
          refine yVi (As := [.int 4]) (cw := (mW o u cI cZ cJ T ga)) (ci := 9) S (v_X9_draw l D cI cZ cJ o u T ra ga σ49 4 _ H.size hok) mi_X9_draw kw_6_45 rfl rfl ⟨Nat.le_of_ble_eq_true rfl, Nat.le_of_ble_eq_true rfl⟩ hP hD hK hS hA hB mW_0 rfl rfl hl.1 (Nat.le_of_ble_eq_true rfl) ⟨Nat.le_of_ble_eq_true rfl, Nat.le_of_ble_eq_true rfl⟩ dX9_statement_94 (fun x62 σ61 H locs hok hz hP hD hS => ?_)
          refine lv_if_ne (tgt := 108) hx hb dX9_statement_97 (by decide) (fun c_97 => ?_) (fun c_97 => ?_)
          · have hok := hok.2 c_97
            refine lv_aload_n hx hb dX9_statement_108 rfl (lv_at hl 0 rfl) ?_
            refine lv_iconst (v := 0) hx hb dX9_statement_109 (by decide) ?_
            refine lv_aload_n hx hb dX9_statement_110 rfl (lv_at hl 0 rfl) ?_
            refine lv_iconst (v := 4) hx hb dX9_statement_111 (by decide) ?_
            refine yVi (As := [.int 4]) (cw := (mW o u cI cZ cJ T ga)) (ci := 9) S (v_X9_draw l D cI cZ cJ o u T ra ga σ61 4 _ H.size hok) mi_X9_draw kw_6_45 rfl rfl ⟨Nat.le_of_ble_eq_true rfl, Nat.le_of_ble_eq_true rfl⟩ hP hD hK hS hA hB mW_0 rfl rfl hl.1 (Nat.le_of_ble_eq_true rfl) ⟨Nat.le_of_ble_eq_true rfl, Nat.le_of_ble_eq_true rfl⟩ dX9_statement_112 (fun x64 σ63 H locs hok hz hP hD hS => ?_)
            refine lv_iconst (v := 0) hx hb dX9_statement_115 (by decide) ?_
            refine lv_iconst (v := 0) hx hb dX9_statement_116 (by decide) ?_
            refine yVi (As := [.int 0, .int x64, .int 0, .int 0]) (cw := (mW o u cI cZ cJ T ga)) (ci := 9) S (v_X9_add l D cI cZ cJ o u T ra ga σ63 0 x64 0 0 _ H.size hok) mi_X9_add kw_6_116 rfl rfl ⟨Nat.le_of_ble_eq_true rfl, Nat.le_of_ble_eq_true rfl⟩ hP hD hK hS hA hB mW_0 rfl rfl hl.1 (Nat.le_of_ble_eq_true rfl) ⟨Nat.le_of_ble_eq_true rfl, Nat.le_of_ble_eq_true rfl⟩ dX9_statement_117 (fun x66 σ65 H locs hok hz hP hD hS => ?_)
            refine lv_istore_n (lv' := [(2, .int x66), (0, .ref (u 87)), (1, .int 3)]) hx hb dX9_statement_120 rfl hl (by decide) rfl (fun ls hl => ?_)
            refine lv_aload_n hx hb dX9_statement_121 rfl (lv_at hl 1 rfl) ?_
            refine lv_bipush (v := 14) hx hb dX9_statement_122 (by decide) ?_
            refine lv_iconst (v := 2) hx hb dX9_statement_124 (by decide) ?_
            refine lv_iload_n hx hb dX9_statement_125 rfl (lv_at hl 0 rfl) ?_
            refine lv_aload_n hx hb dX9_statement_126 rfl (lv_at hl 1 rfl) ?_
            refine lv_iconst (v := 1) hx hb dX9_statement_127 (by decide) ?_
            refine yVi (As := [.int 1]) (cw := (mW o u cI cZ cJ T ga)) (ci := 9) S (v_X9_expression_1 l D cI cZ cJ o u T ra ga σ65 _ H.size hok) mi_X9_expression kw_6_112 rfl rfl ⟨Nat.le_of_ble_eq_true rfl, Nat.le_of_ble_eq_true rfl⟩ hP hD hK hS hA hB mW_0 rfl rfl hl.1 (Nat.le_of_ble_eq_true rfl) ⟨Nat.le_of_ble_eq_true rfl, Nat.le_of_ble_eq_true rfl⟩ dX9_statement_128 (fun x68 σ67 H locs hok hz hP hD hS => ?_)
            refine yVi (As := [.int 14, .int 2, .int x66, .int x68]) (cw := (mW o u cI cZ cJ T ga)) (ci := 9) S (v_X9_add l D cI cZ cJ o u T ra ga σ67 14 2 x66 x68 _ H.size hok) mi_X9_add kw_6_116 rfl rfl ⟨Nat.le_of_ble_eq_true rfl, Nat.le_of_ble_eq_true rfl⟩ hP hD hK hS hA hB mW_0 rfl rfl hl.1 (Nat.le_of_ble_eq_true rfl) ⟨Nat.le_of_ble_eq_true rfl, Nat.le_of_ble_eq_true rfl⟩ dX9_statement_131 (fun x70 σ69 H locs hok hz hP hD hS => ?_)
            exact yEnd S hr hlocks hP hD hS (Nat.le_of_ble_eq_true rfl) (Nat.le_of_ble_eq_true rfl) dX9_statement_134 hok
          · have hok := hok.1 c_97
            refine lv_aload_n hx hb dX9_statement_100 rfl (lv_at hl 0 rfl) ?_
            refine lv_iconst (v := 1) hx hb dX9_statement_101 (by decide) ?_
            refine yVi (As := [.int 1]) (cw := (mW o u cI cZ cJ T ga)) (ci := 9) S (v_X9_expression_1 l D cI cZ cJ o u T ra ga σ61 _ H.size hok) mi_X9_expression kw_6_112 rfl rfl ⟨Nat.le_of_ble_eq_true rfl, Nat.le_of_ble_eq_true rfl⟩ hP hD hK hS hA hB mW_0 rfl rfl hl.1 (Nat.le_of_ble_eq_true rfl) ⟨Nat.le_of_ble_eq_true rfl, Nat.le_of_ble_eq_true rfl⟩ dX9_statement_102 (fun x72 σ71 H locs hok hz hP hD hS => ?_)
            refine lv_goto (tgt := 120) hx hb dX9_statement_105 (by decide) ?_
            refine lv_istore_n (lv' := [(2, .int x72), (0, .ref (u 87)), (1, .int 3)]) hx hb dX9_statement_120 rfl hl (by decide) rfl (fun ls hl => ?_)
            refine lv_aload_n hx hb dX9_statement_121 rfl (lv_at hl 1 rfl) ?_
            refine lv_bipush (v := 14) hx hb dX9_statement_122 (by decide) ?_
            refine lv_iconst (v := 2) hx hb dX9_statement_124 (by decide) ?_
            refine lv_iload_n hx hb dX9_statement_125 rfl (lv_at hl 0 rfl) ?_
            refine lv_aload_n hx hb dX9_statement_126 rfl (lv_at hl 1 rfl) ?_
            refine lv_iconst (v := 1) hx hb dX9_statement_127 (by decide) ?_
            refine yVi (As := [.int 1]) (cw := (mW o u cI cZ cJ T ga)) (ci := 9) S (v_X9_expression_1 l D cI cZ cJ o u T ra ga σ71 _ H.size hok) mi_X9_expression kw_6_112 rfl rfl ⟨Nat.le_of_ble_eq_true rfl, Nat.le_of_ble_eq_true rfl⟩ hP hD hK hS hA hB mW_0 rfl rfl hl.1 (Nat.le_of_ble_eq_true rfl) ⟨Nat.le_of_ble_eq_true rfl, Nat.le_of_ble_eq_true rfl⟩ dX9_statement_128 (fun x74 σ73 H locs hok hz hP hD hS => ?_)
            refine yVi (As := [.int 14, .int 2, .int x72, .int x74]) (cw := (mW o u cI cZ cJ T ga)) (ci := 9) S (v_X9_add l D cI cZ cJ o u T ra ga σ73 14 2 x72 x74 _ H.size hok) mi_X9_add kw_6_116 rfl rfl ⟨Nat.le_of_ble_eq_true rfl, Nat.le_of_ble_eq_true rfl⟩ hP hD hK hS hA hB mW_0 rfl rfl hl.1 (Nat.le_of_ble_eq_true rfl) ⟨Nat.le_of_ble_eq_true rfl, Nat.le_of_ble_eq_true rfl⟩ dX9_statement_131 (fun x76 σ75 H locs hok hz hP hD hS => ?_)
            exact yEnd S hr hlocks hP hD hS (Nat.le_of_ble_eq_true rfl) (Nat.le_of_ble_eq_true rfl) dX9_statement_134 hok
        · have hok := hok.2 k_27_2
          by_cases k_27_3 : x50 = 3
          · have hok := hok.1 k_27_3
            rw [k_27_3]
            refine lv_tableIn (off := 108) (tgt := 135) hx hb dX9_statement_27 (by decide) (by decide) (by decide) (by decide) ?_
            refine lv_aload_n hx hb dX9_statement_135 rfl (lv_at hl 0 rfl) ?_
            refine lv_iconst (v := 1) hx hb dX9_statement_136 (by decide) ?_
            refine yVi (As := [.int 1]) (cw := (mW o u cI cZ cJ T ga)) (ci := 9) S (v_X9_expression_1 l D cI cZ cJ o u T ra ga σ49 _ H.size hok) mi_X9_expression kw_6_112 rfl rfl ⟨Nat.le_of_ble_eq_true rfl, Nat.le_of_ble_eq_true rfl⟩ hP hD hK hS hA hB mW_0 rfl rfl hl.1 (Nat.le_of_ble_eq_true rfl) ⟨Nat.le_of_ble_eq_true rfl, Nat.le_of_ble_eq_true rfl⟩ dX9_statement_137 (fun x78 σ77 H locs hok hz hP hD hS => ?_)
            refine lv_istore_n (lv' := [(3, .int x78), (0, .ref (u 87)), (1, .int 3)]) hx hb dX9_statement_140 rfl hl (by decide) rfl (fun ls hl => ?_)
            refine lv_aload_n hx hb dX9_statement_141 rfl (lv_at hl 1 rfl) ?_
            refine lv_iload_n hx hb dX9_statement_142 rfl (lv_at hl 2 rfl) ?_
            refine lv_iconst (v := 1) hx hb dX9_statement_143 (by decide) ?_
            refine xisub (v := 2) S dX9_statement_144 (by decide) ?_
            refine yVi (As := [.int 2]) (cw := (mW o u cI cZ cJ T ga)) (ci := 9) S (v_X9_statement_2 l D cI cZ cJ o u T ra ga σ77 _ H.size hok) mi_X9_statement kw_6_117 rfl rfl ⟨Nat.le_of_ble_eq_true rfl, Nat.le_of_ble_eq_true rfl⟩ hP hD hK hS hA hB mW_0 rfl rfl hl.1 (Nat.le_of_ble_eq_true rfl) ⟨Nat.le_of_ble_eq_true rfl, Nat.le_of_ble_eq_true rfl⟩ dX9_statement_145 (fun x80 σ79 H locs hok hz hP hD hS => ?_)
            refine lv_istore (lv' := [(4, .int x80), (3, .int x78), (0, .ref (u 87)), (1, .int 3)]) hx hb dX9_statement_148 hl (by decide) rfl (fun ls hl => ?_)
            refine lv_aload_n hx hb dX9_statement_150 rfl (lv_at hl 2 rfl) ?_
            refine lv_bipush (v := 15) hx hb dX9_statement_151 (by decide) ?_
            refine lv_aload_n hx hb dX9_statement_153 rfl (lv_at hl 2 rfl) ?_
            refine lv_iconst (v := 2) hx hb dX9_statement_154 (by decide) ?_
            refine yVi (As := [.int 2]) (cw := (mW o u cI cZ cJ T ga)) (ci := 9) S (v_X9_draw l D cI cZ cJ o u T ra ga σ79 2 _ H.size hok) mi_X9_draw kw_6_45 rfl rfl ⟨Nat.le_of_ble_eq_true rfl, Nat.le_of_ble_eq_true rfl⟩ hP hD hK hS hA hB mW_0 rfl rfl hl.1 (Nat.le_of_ble_eq_true rfl) ⟨Nat.le_of_ble_eq_true rfl, Nat.le_of_ble_eq_true rfl⟩ dX9_statement_155 (fun x82 σ81 H locs hok hz hP hD hS => ?_)
            refine lv_if_ne (tgt := 165) hx hb dX9_statement_158 (by decide) (fun c_158 => ?_) (fun c_158 => ?_)
            · have hok := hok.2 c_158
              refine lv_aload_n hx hb dX9_statement_165 rfl (lv_at hl 2 rfl) ?_
              refine lv_iload_n hx hb dX9_statement_166 rfl (lv_at hl 3 rfl) ?_
              refine lv_iconst (v := 1) hx hb dX9_statement_167 (by decide) ?_
              refine xisub (v := 2) S dX9_statement_168 (by decide) ?_
              refine yVi (As := [.int 2]) (cw := (mW o u cI cZ cJ T ga)) (ci := 9) S (v_X9_statement_2 l D cI cZ cJ o u T ra ga σ81 _ H.size hok) mi_X9_statement kw_6_117 rfl rfl ⟨Nat.le_of_ble_eq_true rfl, Nat.le_of_ble_eq_true rfl⟩ hP hD hK hS hA hB mW_0 rfl rfl hl.1 (Nat.le_of_ble_eq_true rfl) ⟨Nat.le_of_ble_eq_true rfl, Nat.le_of_ble_eq_true rfl⟩ dX9_statement_169 (fun x84 σ83 H locs hok hz hP hD hS => ?_)
              refine lv_iload_n hx hb dX9_statement_172 rfl (lv_at hl 1 rfl) ?_
              refine lv_iload hx hb dX9_statement_173 (lv_at hl 0 rfl) ?_
              refine yVi (As := [.int 15, .int x84, .int x78, .int x80]) (cw := (mW o u cI cZ cJ T ga)) (ci := 9) S (v_X9_add l D cI cZ cJ o u T ra ga σ83 15 x84 x78 x80 _ H.size hok) mi_X9_add kw_6_116 rfl rfl ⟨Nat.le_of_ble_eq_true rfl, Nat.le_of_ble_eq_true rfl⟩ hP hD hK hS hA hB mW_0 rfl rfl hl.1 (Nat.le_of_ble_eq_true rfl) ⟨Nat.le_of_ble_eq_true rfl, Nat.le_of_ble_eq_true rfl⟩ dX9_statement_175 (fun x86 σ85 H locs hok hz hP hD hS => ?_)
              exact yEnd S hr hlocks hP hD hS (Nat.le_of_ble_eq_true rfl) (Nat.le_of_ble_eq_true rfl) dX9_statement_178 hok
            · have hok := hok.1 c_158
              refine lv_iconst (v := (-1)) hx hb dX9_statement_161 (by decide) ?_
              refine lv_goto (tgt := 172) hx hb dX9_statement_162 (by decide) ?_
              refine lv_iload_n hx hb dX9_statement_172 rfl (lv_at hl 1 rfl) ?_
              refine lv_iload hx hb dX9_statement_173 (lv_at hl 0 rfl) ?_
              refine yVi (As := [.int 15, .int (-1), .int x78, .int x80]) (cw := (mW o u cI cZ cJ T ga)) (ci := 9) S (v_X9_add l D cI cZ cJ o u T ra ga σ81 15 (-1) x78 x80 _ H.size hok) mi_X9_add kw_6_116 rfl rfl ⟨Nat.le_of_ble_eq_true rfl, Nat.le_of_ble_eq_true rfl⟩ hP hD hK hS hA hB mW_0 rfl rfl hl.1 (Nat.le_of_ble_eq_true rfl) ⟨Nat.le_of_ble_eq_true rfl, Nat.le_of_ble_eq_true rfl⟩ dX9_statement_175 (fun x88 σ87 H locs hok hz hP hD hS => ?_)
              exact yEnd S hr hlocks hP hD hS (Nat.le_of_ble_eq_true rfl) (Nat.le_of_ble_eq_true rfl) dX9_statement_178 hok
          · have hok := hok.2 k_27_3
            by_cases k_27_4 : x50 = 4
            · have hok := hok.1 k_27_4
              rw [k_27_4]
              refine lv_tableIn (off := 152) (tgt := 179) hx hb dX9_statement_27 (by decide) (by decide) (by decide) (by decide) ?_
              refine lv_aload_n hx hb dX9_statement_179 rfl (lv_at hl 0 rfl) ?_
              refine lv_iload_n hx hb dX9_statement_180 rfl (lv_at hl 1 rfl) ?_
              refine yVi (As := [.int 3]) (cw := (mW o u cI cZ cJ T ga)) (ci := 9) S (v_X9_loop l D cI cZ cJ o u T ra ga σ49 3 _ H.size hok) mi_X9_loop kw_6_118 rfl rfl ⟨Nat.le_of_ble_eq_true rfl, Nat.le_of_ble_eq_true rfl⟩ hP hD hK hS hA hB mW_0 rfl rfl hl.1 (Nat.le_of_ble_eq_true rfl) ⟨Nat.le_of_ble_eq_true rfl, Nat.le_of_ble_eq_true rfl⟩ dX9_statement_181 (fun x90 σ89 H locs hok hz hP hD hS => ?_)
              exact yEnd S hr hlocks hP hD hS (Nat.le_of_ble_eq_true rfl) (Nat.le_of_ble_eq_true rfl) dX9_statement_184 hok
            · have hok := hok.2 k_27_4
              have q_27_0 := sw_ni k_27_0 (z := 0) (by decide)
              have q_27_1 := sw_ni k_27_1 (z := 1) (by decide)
              have q_27_2 := sw_ni k_27_2 (z := 2) (by decide)
              have q_27_3 := sw_ni k_27_3 (z := 3) (by decide)
              have q_27_4 := sw_ni k_27_4 (z := 4) (by decide)
              refine lv_tableOut (tgt := 185) hx hb dX9_statement_27 (by omega) (by decide) ?_
              refine lv_aload_n hx hb dX9_statement_185 rfl (lv_at hl 0 rfl) ?_
              refine lv_iload_n hx hb dX9_statement_186 rfl (lv_at hl 1 rfl) ?_
              refine lv_iconst (v := 1) hx hb dX9_statement_187 (by decide) ?_
              refine xisub (v := 2) S dX9_statement_188 (by decide) ?_
              refine yVi (As := [.int 2]) (cw := (mW o u cI cZ cJ T ga)) (ci := 9) S (v_X9_statement_2 l D cI cZ cJ o u T ra ga σ49 _ H.size hok) mi_X9_statement kw_6_117 rfl rfl ⟨Nat.le_of_ble_eq_true rfl, Nat.le_of_ble_eq_true rfl⟩ hP hD hK hS hA hB mW_0 rfl rfl hl.1 (Nat.le_of_ble_eq_true rfl) ⟨Nat.le_of_ble_eq_true rfl, Nat.le_of_ble_eq_true rfl⟩ dX9_statement_189 (fun x92 σ91 H locs hok hz hP hD hS => ?_)
              refine lv_istore (lv' := [(5, .int x92), (0, .ref (u 87)), (1, .int 3)]) hx hb dX9_statement_192 hl (by decide) rfl (fun ls hl => ?_)
              refine lv_aload_n hx hb dX9_statement_194 rfl (lv_at hl 1 rfl) ?_
              refine lv_bipush (v := 12) hx hb dX9_statement_195 (by decide) ?_
              refine lv_iconst (v := 0) hx hb dX9_statement_197 (by decide) ?_
              refine lv_iload hx hb dX9_statement_198 (lv_at hl 0 rfl) ?_
              refine lv_aload_n hx hb dX9_statement_200 rfl (lv_at hl 1 rfl) ?_
              refine lv_iload_n hx hb dX9_statement_201 rfl (lv_at hl 2 rfl) ?_
              refine lv_iconst (v := 1) hx hb dX9_statement_202 (by decide) ?_
              refine xisub (v := 2) S dX9_statement_203 (by decide) ?_
              refine yVi (As := [.int 2]) (cw := (mW o u cI cZ cJ T ga)) (ci := 9) S (v_X9_statement_2 l D cI cZ cJ o u T ra ga σ91 _ H.size hok) mi_X9_statement kw_6_117 rfl rfl ⟨Nat.le_of_ble_eq_true rfl, Nat.le_of_ble_eq_true rfl⟩ hP hD hK hS hA hB mW_0 rfl rfl hl.1 (Nat.le_of_ble_eq_true rfl) ⟨Nat.le_of_ble_eq_true rfl, Nat.le_of_ble_eq_true rfl⟩ dX9_statement_204 (fun x94 σ93 H locs hok hz hP hD hS => ?_)
              refine yVi (As := [.int 12, .int 0, .int x92, .int x94]) (cw := (mW o u cI cZ cJ T ga)) (ci := 9) S (v_X9_add l D cI cZ cJ o u T ra ga σ93 12 0 x92 x94 _ H.size hok) mi_X9_add kw_6_116 rfl rfl ⟨Nat.le_of_ble_eq_true rfl, Nat.le_of_ble_eq_true rfl⟩ hP hD hK hS hA hB mW_0 rfl rfl hl.1 (Nat.le_of_ble_eq_true rfl) ⟨Nat.le_of_ble_eq_true rfl, Nat.le_of_ble_eq_true rfl⟩ dX9_statement_207 (fun x96 σ95 H locs hok hz hP hD hS => ?_)
              exact yEnd S hr hlocks hP hD hS (Nat.le_of_ble_eq_true rfl) (Nat.le_of_ble_eq_true rfl) dX9_statement_210 hok
