set_option maxHeartbeats 8000000 in
set_option maxRecDepth 100000 in
theorem v_X3_execute_80 (l : Launch) (D : va_G) (cI cZ cJ : ClassId) (o : Nat) (u : Nat → Nat) (T : Nat) (ra : Nat → Nat) (ga : SG) (σ : FS) (a1 : Int32) (a2 : Int32) (a3 : Int32) (Φ : FS → Prop) (sz : Nat) (hok : (wp_X3_execute 80 σ a1 a2 a3 Φ)) : Met l yX3_execute (uW yX3_execute cX3_execute 7 none) ({ frames := 6, cells := 0, slots := 0, locals := 144 }) (va_Pc [.ref (u 64), .int a1, .int a2, .int a3, .ref (u 79)] (aS ra ga D (tyL cI cZ cJ) (cW o u cI cZ cJ T σ) sz)) (yQv Φ D (cW o u cI cZ cJ 79) (va_A (cW o u cI cZ cJ T σ) sz)) 0 0 (va_A (cW o u cI cZ cJ T σ) sz) := by
  refine aStart (lv := [(0, .ref (u 64)), (1, .int a1), (2, .int a2), (3, .int a3), (4, .ref (u 79))]) (Qc := fun A => yQv Φ D (cW o u cI cZ cJ 79) A) (by decide) (Nat.le_of_ble_eq_true rfl) rfl ?_
  intro p e s m args below meth c ls A H S hr hlocks hnm hl hK hP hD hS hA hB
  have hx := S.1
  have hb := S.2.1
  refine lv_aload_n hx hb dX3_execute_0 rfl (lv_at hl 0 rfl) ?_
  refine xg (ci := 3) S inX3 rfl hK hP cW_65 3 (by decide) rfl kw_5_132 rfl dX3_execute_1 ?_
  refine lv_iconst (v := 0) hx hb dX3_execute_4 (by decide) ?_
  refine yVv (As := [.int 0]) (cw := (cW o u cI cZ cJ T)) (ci := 0) S (v_X0_layOut_52 l D cI cZ cJ o u T ra ga σ 0 _ H.size hok) mi_X0_layOut kw_2_206 rfl rfl ⟨Nat.le_of_ble_eq_true rfl, Nat.le_of_ble_eq_true rfl⟩ hP hD hK hS hA hB cW_52 rfl rfl hl.1 (Nat.le_of_ble_eq_true rfl) ⟨Nat.le_of_ble_eq_true rfl, Nat.le_of_ble_eq_true rfl⟩ dX3_execute_5 (fun σ1 H locs hok hz hP hD hS => ?_)
  refine lv_aload_n hx hb dX3_execute_8 rfl (lv_at hl 0 rfl) ?_
  refine yVv (As := []) (cw := (cW o u cI cZ cJ T)) (ci := 3) S (v_X3_clear l D cI cZ cJ o u T ra ga σ1 _ H.size hok) mi_X3_clear kw_2_207 rfl rfl ⟨Nat.le_of_ble_eq_true rfl, Nat.le_of_ble_eq_true rfl⟩ hP hD hK hS hA hB cW_65 rfl rfl hl.1 (Nat.le_of_ble_eq_true rfl) ⟨Nat.le_of_ble_eq_true rfl, Nat.le_of_ble_eq_true rfl⟩ dX3_execute_9 (fun σ2 H locs hok hz hP hD hS => ?_)
  refine lv_aload_n hx hb dX3_execute_12 rfl (lv_at hl 0 rfl) ?_
  refine lv_iload_n hx hb dX3_execute_13 rfl (lv_at hl 1 rfl) ?_
  refine yp (ci := 3) (v := .int a1) (cw := (cW o u cI cZ cJ T)) S inX3 tyX3 tyX3_ok nmX3 rfl hK hP hD hS cW_65 10 (by decide) kw_5_139 rfl rfl rfl rfl (Nat.le_of_ble_eq_true rfl) dX3_execute_14 cWp_65_10 (fun σ3 H locs eσ3 hP hD hS => ?_)
  have hok := hok σ3 eσ3
  refine lv_aload_n hx hb dX3_execute_17 rfl (lv_at hl 0 rfl) ?_
  refine lv_iload_n hx hb dX3_execute_18 rfl (lv_at hl 3 rfl) ?_
  refine yp (ci := 3) (v := .int a3) (cw := (cW o u cI cZ cJ T)) S inX3 tyX3 tyX3_ok nmX3 rfl hK hP hD hS cW_65 11 (by decide) kw_5_140 rfl rfl rfl rfl (Nat.le_of_ble_eq_true rfl) dX3_execute_19 cWp_65_11 (fun σ4 H locs eσ4 hP hD hS => ?_)
  have hok := hok σ4 eσ4
  refine lv_aload_n hx hb dX3_execute_22 rfl (lv_at hl 0 rfl) ?_
  refine lv_aload hx hb dX3_execute_23 (lv_at hl 4 rfl) ?_
  refine xp (ci := 3) (v := .ref (u 79)) S inX3 tyX3 tyX3_ok nmX3 rfl hK hP hD hS cW_65 9 (by decide) kw_5_138 rfl rfl rfl rfl (Nat.le_of_ble_eq_true rfl) dX3_execute_25 (fun H locs hP hD hS => ?_)
  have hP : va_P D vwCl (cW o u cI cZ cJ 79 σ4) H := hP
  have hD : va_D A (cW o u cI cZ cJ 79 σ4) := hD
  refine lv_aload_n hx hb dX3_execute_28 rfl (lv_at hl 0 rfl) ?_
  refine xg (ci := 3) S inX3 rfl hK hP cW_65 9 (by decide) rfl kw_5_138 rfl dX3_execute_29 ?_
  refine yVv (As := []) (cw := (cW o u cI cZ cJ 79)) (ci := 6) S (v_X6_start_80 l D cI cZ cJ o u 79 ra ga σ4 _ H.size hok) mi_X6_start kw_2_216 rfl rfl ⟨Nat.le_of_ble_eq_true rfl, Nat.le_of_ble_eq_true rfl⟩ hP hD hK hS hA hB cW_80 rfl rfl hl.1 (Nat.le_of_ble_eq_true rfl) ⟨Nat.le_of_ble_eq_true rfl, Nat.le_of_ble_eq_true rfl⟩ dX3_execute_32 (fun σ5 H locs hok hz hP hD hS => ?_)
  refine lv_aload_n hx hb dX3_execute_35 rfl (lv_at hl 0 rfl) ?_
  refine lv_iconst (v := (-1)) hx hb dX3_execute_36 (by decide) ?_
  refine lv_aload_n hx hb dX3_execute_37 rfl (lv_at hl 0 rfl) ?_
  refine xg (ci := 3) S inX3 rfl hK hP cW_65 14 (by decide) rfl kw_5_143 rfl dX3_execute_38 ?_
  refine yVv (As := [.int (-1), .int (σ5.1 65 14)]) (cw := (cW o u cI cZ cJ 79)) (ci := 3) S (v_X3_keepReturn l D cI cZ cJ o u 79 ra ga σ5 (-1) (σ5.1 65 14) _ H.size hok) mi_X3_keepReturn kw_2_220 rfl rfl ⟨Nat.le_of_ble_eq_true rfl, Nat.le_of_ble_eq_true rfl⟩ hP hD hK hS hA hB cW_65 rfl rfl hl.1 (Nat.le_of_ble_eq_true rfl) ⟨Nat.le_of_ble_eq_true rfl, Nat.le_of_ble_eq_true rfl⟩ dX3_execute_41 (fun σ6 H locs hok hz hP hD hS => ?_)
  refine lv_aload_n hx hb dX3_execute_44 rfl (lv_at hl 0 rfl) ?_
  refine lv_iconst (v := 0) hx hb dX3_execute_45 (by decide) ?_
  refine lv_iconst (v := (-1)) hx hb dX3_execute_46 (by decide) ?_
  refine yVv (As := [.int 0, .int (-1)]) (cw := (cW o u cI cZ cJ 79)) (ci := 3) S (v_X3_call_t80 l D cI cZ cJ o u ra ga σ6 0 (-1) _ H.size hok) mi_X3_call kw_3_14 rfl rfl ⟨Nat.le_of_ble_eq_true rfl, Nat.le_of_ble_eq_true rfl⟩ hP hD hK hS hA hB cW_65 rfl rfl hl.1 (Nat.le_of_ble_eq_true rfl) ⟨Nat.le_of_ble_eq_true rfl, Nat.le_of_ble_eq_true rfl⟩ dX3_execute_47 (fun σ7 H locs hok hz hP hD hS => ?_)
  refine lv_iconst (v := 0) hx hb dX3_execute_50 (by decide) ?_
  refine lv_istore (lv' := [(5, .int 0), (0, .ref (u 64)), (1, .int a1), (2, .int a2), (3, .int a3), (4, .ref (u 79))]) hx hb dX3_execute_51 hl (by decide) rfl (fun ls hl => ?_)
  have lp53 : ∀ (K : FS → Int32 → Prop), (∀ (τ0 : FS) (l5_0 : Int32) (H : Heap) (locs : List Loc) (ls : Array Slot), K τ0 l5_0 → lv_has ls 7 [(5, .int l5_0), (0, .ref (u 64)), (1, .int a1), (2, .int a2), (3, .int a3), (4, .ref (u 79))] → va_P D vwCl (cW o u cI cZ cJ 79 τ0) H → va_D A (cW o u cI cZ cJ 79 τ0) → va_S A s.heap H locs → W p l e ({ frames := 6, cells := 0, slots := 0, locals := 144 }) s m args below meth c H locs 0 0 (MQ below (yQv Φ D (cW o u cI cZ cJ 79) A) args s 0 0 A) (F0 m 138 ls [])) → ∀ (n0 : Nat) (τ0 : FS) (l5_0 : Int32) (H : Heap) (locs : List Loc) (ls : Array Slot), wp_X3_execute_53 80 a1 a2 a3 Φ K n0 τ0 l5_0 → lv_has ls 7 [(5, .int l5_0), (0, .ref (u 64)), (1, .int a1), (2, .int a2), (3, .int a3), (4, .ref (u 79))] → va_P D vwCl (cW o u cI cZ cJ 79 τ0) H → va_D A (cW o u cI cZ cJ 79 τ0) → va_S A s.heap H locs → W p l e ({ frames := 6, cells := 0, slots := 0, locals := 144 }) s m args below meth c H locs 0 0 (MQ below (yQv Φ D (cW o u cI cZ cJ 79) A) args s 0 0 A) (F0 m 53 ls []) := by
    intro K hk n0
    induction n0 with
    | zero => intro τ0 l5_0 H locs ls hok; exact False.elim hok
    | succ n0 ih53 =>
      intro τ0 l5_0 H locs ls hok hl hP hD hS
      refine lv_iload hx hb dX3_execute_53 (lv_at hl 0 rfl) ?_
      refine lv_ldc hx hb S.2.2.2.1 (S.2.2.2.2 _ kw_3_30) dX3_execute_55 ?_
      refine lv_icmp_ge (tgt := 138) hx hb dX3_execute_57 (by decide) (fun c_57 => ?_) (fun c_57 => ?_)
      · have hok := hok.1 c_57
        exact hk τ0 l5_0 H locs ls hok (lv_sub hl [0, 1, 2, 3, 4, 5] rfl) hP hD hS
      · have hok := hok.2 c_57
        refine lv_aload_n hx hb dX3_execute_60 rfl (lv_at hl 1 rfl) ?_
        refine xg (ci := 3) S inX3 rfl hK hP cW_65 16 (by decide) rfl kw_5_145 rfl dX3_execute_61 ?_
        refine lv_if_ne (tgt := 138) hx hb dX3_execute_64 (by decide) (fun c_64 => ?_) (fun c_64 => ?_)
        · have hok := hok.2 c_64
          exact hk τ0 l5_0 H locs ls hok (lv_sub hl [0, 1, 2, 3, 4, 5] rfl) hP hD hS
        · have hok := hok.1 c_64
          refine lv_aload_n hx hb dX3_execute_67 rfl (lv_at hl 1 rfl) ?_
          refine xg (ci := 3) S inX3 rfl hK hP cW_65 12 (by decide) rfl kw_5_141 rfl dX3_execute_68 ?_
          refine lv_topi (fun x8 ex8 => ?_)
          have hok := hok x8 ex8
          refine lv_istore (lv' := [(6, .int x8), (5, .int l5_0), (0, .ref (u 64)), (1, .int a1), (2, .int a2), (3, .int a3), (4, .ref (u 79))]) hx hb dX3_execute_71 hl (by decide) rfl (fun ls hl => ?_)
          refine lv_iload hx hb dX3_execute_73 (lv_at hl 0 rfl) ?_
          refine lv_if_lt (tgt := 90) hx hb dX3_execute_75 (by decide) (fun c_75 => ?_) (fun c_75 => ?_)
          · have hok := hok.1 c_75
            refine lv_aload_n hx hb dX3_execute_90 rfl (lv_at hl 2 rfl) ?_
            refine lv_iconst (v := 1) hx hb dX3_execute_91 (by decide) ?_
            refine yp (ci := 3) (v := .int 1) (cw := (cW o u cI cZ cJ 79)) S inX3 tyX3 tyX3_ok nmX3 rfl hK hP hD hS cW_65 16 (by decide) kw_5_145 rfl rfl rfl rfl (Nat.le_of_ble_eq_true rfl) dX3_execute_92 cWp_65_16 (fun σ9 H locs eσ9 hP hD hS => ?_)
            have hok := hok σ9 eσ9
            refine lv_goto (tgt := 132) hx hb dX3_execute_95 (by decide) ?_
            refine lv_iinc (v := l5_0 + 1) (lv' := [(5, .int (l5_0 + 1)), (6, .int x8), (0, .ref (u 64)), (1, .int a1), (2, .int a2), (3, .int a3), (4, .ref (u 79))]) hx hb dX3_execute_132 hl (k := 1) rfl rfl (by decide) rfl (fun ls hl => ?_)
            refine lv_goto (tgt := 53) hx hb dX3_execute_135 (by decide) ?_
            exact ih53 σ9 (l5_0 + 1) H locs ls hok (lv_sub hl [0, 2, 3, 4, 5, 6] rfl) hP hD hS
          · have hok := hok.2 c_75
            refine lv_iload hx hb dX3_execute_78 (lv_at hl 0 rfl) ?_
            refine lv_aload_n hx hb dX3_execute_80 rfl (lv_at hl 2 rfl) ?_
            refine xg (ci := 3) S inX3 rfl hK hP cW_65 3 (by decide) rfl kw_5_132 rfl dX3_execute_81 ?_
            refine xg (ci := 0) S inX0 rfl hK hP cW_52 4 (by decide) rfl kw_4_220 rfl dX3_execute_84 ?_
            refine lv_icmp_lt (tgt := 98) hx hb dX3_execute_87 (by decide) (fun c_87 => ?_) (fun c_87 => ?_)
            · have hok := hok.1 c_87
              refine lv_aload_n hx hb dX3_execute_98 rfl (lv_at hl 2 rfl) ?_
              refine lv_iload hx hb dX3_execute_99 (lv_at hl 0 rfl) ?_
              refine lv_iload_n hx hb dX3_execute_101 rfl (lv_at hl 4 rfl) ?_
              refine yVi (As := [.int x8, .int a2]) (cw := (cW o u cI cZ cJ 79)) (ci := 3) S (v_X3_begin_t80 l D cI cZ cJ o u ra ga τ0 x8 a2 _ H.size hok) mi_X3_begin kw_3_31 rfl rfl ⟨Nat.le_of_ble_eq_true rfl, Nat.le_of_ble_eq_true rfl⟩ hP hD hK hS hA hB cW_65 rfl rfl hl.1 (Nat.le_of_ble_eq_true rfl) ⟨Nat.le_of_ble_eq_true rfl, Nat.le_of_ble_eq_true rfl⟩ dX3_execute_102 (fun x11 σ10 H locs hok hz hP hD hS => ?_)
              refine lv_if_eq (tgt := 132) hx hb dX3_execute_105 (by decide) (fun c_105 => ?_) (fun c_105 => ?_)
              · have hok := hok.1 c_105
                refine lv_iinc (v := l5_0 + 1) (lv' := [(5, .int (l5_0 + 1)), (6, .int x8), (0, .ref (u 64)), (1, .int a1), (2, .int a2), (3, .int a3), (4, .ref (u 79))]) hx hb dX3_execute_132 hl (k := 1) rfl rfl (by decide) rfl (fun ls hl => ?_)
                refine lv_goto (tgt := 53) hx hb dX3_execute_135 (by decide) ?_
                exact ih53 σ10 (l5_0 + 1) H locs ls hok (lv_sub hl [0, 2, 3, 4, 5, 6] rfl) hP hD hS
              · have hok := hok.2 c_105
                refine lv_aload_n hx hb dX3_execute_108 rfl (lv_at hl 2 rfl) ?_
                refine lv_iload hx hb dX3_execute_109 (lv_at hl 0 rfl) ?_
                refine lv_iconst (v := 1) hx hb dX3_execute_111 (by decide) ?_
                refine xiadd (v := x8 + 1) S dX3_execute_112 rfl ?_
                refine yp (ci := 3) (v := .int (x8 + 1)) (cw := (cW o u cI cZ cJ 79)) S inX3 tyX3 tyX3_ok nmX3 rfl hK hP hD hS cW_65 12 (by decide) kw_5_141 rfl rfl rfl rfl (Nat.le_of_ble_eq_true rfl) dX3_execute_113 cWp_65_12 (fun σ12 H locs eσ12 hP hD hS => ?_)
                have hok := hok σ12 eσ12
                refine lv_aload_n hx hb dX3_execute_116 rfl (lv_at hl 2 rfl) ?_
                refine lv_iload hx hb dX3_execute_117 (lv_at hl 0 rfl) ?_
                refine lv_aload_n hx hb dX3_execute_119 rfl (lv_at hl 2 rfl) ?_
                refine xg (ci := 3) S inX3 rfl hK hP cW_65 3 (by decide) rfl kw_5_132 rfl dX3_execute_120 ?_
                refine xg (ci := 0) S inX0 rfl hK hP cW_52 7 (by decide) rfl kw_4_228 rfl dX3_execute_123 ?_
                refine lv_iload hx hb dX3_execute_126 (lv_at hl 0 rfl) ?_
                have h_128 := hok.1
                have hok := hok.2
                refine xiald (t0 := 0) (v := (g σ12 55 x8)) S hK hP cW_55 rfl h_128 rfl dX3_execute_128 ?_
                refine yVv (As := [.int x8, .int (g σ12 55 x8)]) (cw := (cW o u cI cZ cJ 79)) (ci := 3) S (v_X3_perform_t80 l D cI cZ cJ o u ra ga σ12 x8 (g σ12 55 x8) _ H.size hok) mi_X3_perform kw_3_39 rfl rfl ⟨Nat.le_of_ble_eq_true rfl, Nat.le_of_ble_eq_true rfl⟩ hP hD hK hS hA hB cW_65 rfl rfl hl.1 (Nat.le_of_ble_eq_true rfl) ⟨Nat.le_of_ble_eq_true rfl, Nat.le_of_ble_eq_true rfl⟩ dX3_execute_129 (fun σ13 H locs hok hz hP hD hS => ?_)
                refine lv_iinc (v := l5_0 + 1) (lv' := [(5, .int (l5_0 + 1)), (6, .int x8), (0, .ref (u 64)), (1, .int a1), (2, .int a2), (3, .int a3), (4, .ref (u 79))]) hx hb dX3_execute_132 hl (k := 1) rfl rfl (by decide) rfl (fun ls hl => ?_)
                refine lv_goto (tgt := 53) hx hb dX3_execute_135 (by decide) ?_
                exact ih53 σ13 (l5_0 + 1) H locs ls hok (lv_sub hl [0, 2, 3, 4, 5, 6] rfl) hP hD hS
            · have hok := hok.2 c_87
              refine lv_aload_n hx hb dX3_execute_90 rfl (lv_at hl 2 rfl) ?_
              refine lv_iconst (v := 1) hx hb dX3_execute_91 (by decide) ?_
              refine yp (ci := 3) (v := .int 1) (cw := (cW o u cI cZ cJ 79)) S inX3 tyX3 tyX3_ok nmX3 rfl hK hP hD hS cW_65 16 (by decide) kw_5_145 rfl rfl rfl rfl (Nat.le_of_ble_eq_true rfl) dX3_execute_92 cWp_65_16 (fun σ14 H locs eσ14 hP hD hS => ?_)
              have hok := hok σ14 eσ14
              refine lv_goto (tgt := 132) hx hb dX3_execute_95 (by decide) ?_
              refine lv_iinc (v := l5_0 + 1) (lv' := [(5, .int (l5_0 + 1)), (6, .int x8), (0, .ref (u 64)), (1, .int a1), (2, .int a2), (3, .int a3), (4, .ref (u 79))]) hx hb dX3_execute_132 hl (k := 1) rfl rfl (by decide) rfl (fun ls hl => ?_)
              refine lv_goto (tgt := 53) hx hb dX3_execute_135 (by decide) ?_
              exact ih53 σ14 (l5_0 + 1) H locs ls hok (lv_sub hl [0, 2, 3, 4, 5, 6] rfl) hP hD hS
  refine lp53 _ ?_ FUEL σ7 0 _ _ _ hok (lv_sub hl [0, 1, 2, 3, 4, 5] rfl) hP hD hS
  intro σ15 x16 H locs ls hok hl hP hD hS
  exact yEndv S hr hlocks hP hD hS (Nat.le_of_ble_eq_true rfl) (Nat.le_of_ble_eq_true rfl) dX3_execute_138 hok

set_option maxHeartbeats 8000000 in
set_option maxRecDepth 100000 in
theorem v_X8_run (l : Launch) (D : va_G) (cI cZ cJ : ClassId) (o : Nat) (u : Nat → Nat) (T : Nat) (ra : Nat → Nat) (ga : SG) (σ : FS) (Φ : Int32 → FS → Prop) (sz : Nat) (hok : (wp_X8_run σ Φ)) : Met l yX8_run (uW yX8_run cX8_run 1 (some .int)) ({ frames := 7, cells := 0, slots := 0, locals := 170 }) (va_Pc [.ref o] (aS ra ga D (tyL cI cZ cJ) (cW o u cI cZ cJ T σ) sz)) (yQi Φ D (cW o u cI cZ cJ 79) (va_A (cW o u cI cZ cJ T σ) sz)) 0 0 (va_A (cW o u cI cZ cJ T σ) sz) := by
  refine aStart (lv := [(0, .ref o)]) (Qc := fun A => yQi Φ D (cW o u cI cZ cJ 79) A) (by decide) (Nat.le_of_ble_eq_true rfl) rfl ?_
  intro p e s m args below meth c ls A H S hr hlocks hnm hl hK hP hD hS hA hB
  have hx := S.1
  have hb := S.2.1
  refine lv_aload_n hx hb dX8_run_0 rfl (lv_at hl 0 rfl) ?_
  refine yVv (As := []) (cw := (cW o u cI cZ cJ T)) (ci := 8) S (v_X8_refresh l D cI cZ cJ o u T ra ga σ _ H.size hok) mi_X8_refresh kw_1_123 rfl rfl ⟨Nat.le_of_ble_eq_true rfl, Nat.le_of_ble_eq_true rfl⟩ hP hD hK hS hA hB cW_0 rfl rfl hl.1 (Nat.le_of_ble_eq_true rfl) ⟨Nat.le_of_ble_eq_true rfl, Nat.le_of_ble_eq_true rfl⟩ dX8_run_1 (fun σ1 H locs hok hz hP hD hS => ?_)
  refine lv_aload_n hx hb dX8_run_4 rfl (lv_at hl 0 rfl) ?_
  refine xg (ci := 8) S inX8 rfl hK hP cW_0 3 (by decide) rfl kw_5_186 rfl dX8_run_5 ?_
  refine xg (ci := 2) S inX2 rfl hK hP cW_34 3 (by decide) rfl kw_4_182 rfl dX8_run_8 ?_
  refine lv_if_ne (tgt := 18) hx hb dX8_run_11 (by decide) (fun c_11 => ?_) (fun c_11 => ?_)
  · have hok := hok.2 c_11
    refine lv_iconst (v := 0) hx hb dX8_run_18 (by decide) ?_
    exact False.elim hok
  · have hok := hok.1 c_11
    refine lv_iconst (v := 1) hx hb dX8_run_14 (by decide) ?_
    refine lv_goto (tgt := 19) hx hb dX8_run_15 (by decide) ?_
    refine ySv (As := [.int 1]) (cw := (cW o u cI cZ cJ T)) S (v_X8_needState l D cI cZ cJ o u T ra ga σ1 1 _ H.size hok) ms_X8_needState kw_2_163 rfl rfl ⟨Nat.le_of_ble_eq_true rfl, Nat.le_of_ble_eq_true rfl⟩ hP hD hK hS hA hB hl.1 (Nat.le_of_ble_eq_true rfl) ⟨Nat.le_of_ble_eq_true rfl, Nat.le_of_ble_eq_true rfl⟩ dX8_run_19 (fun σ2 H locs hok hz hP hD hS => ?_)
    refine lv_aload_n hx hb dX8_run_22 rfl (lv_at hl 0 rfl) ?_
    refine xg (ci := 8) S inX8 rfl hK hP cW_0 6 (by decide) rfl kw_5_189 rfl dX8_run_23 ?_
    refine lv_aload_n hx hb dX8_run_26 rfl (lv_at hl 0 rfl) ?_
    refine xg (ci := 8) S inX8 rfl hK hP cW_0 10 (by decide) rfl kw_5_193 rfl dX8_run_27 ?_
    refine lv_aload_n hx hb dX8_run_30 rfl (lv_at hl 0 rfl) ?_
    refine xg (ci := 8) S inX8 rfl hK hP cW_0 11 (by decide) rfl kw_5_194 rfl dX8_run_31 ?_
    refine lv_aload_n hx hb dX8_run_34 rfl (lv_at hl 0 rfl) ?_
    refine xg (ci := 8) S inX8 rfl hK hP cW_0 12 (by decide) rfl kw_5_195 rfl dX8_run_35 ?_
    refine lv_aload_n hx hb dX8_run_38 rfl (lv_at hl 0 rfl) ?_
    refine xg (ci := 8) S inX8 rfl hK hP cW_0 7 (by decide) rfl kw_5_190 rfl dX8_run_39 ?_
    refine yVv (As := [.int (σ2.1 0 10), .int (σ2.1 0 11), .int (σ2.1 0 12), .ref (u 79)]) (cw := (cW o u cI cZ cJ 79)) (ci := 3) S (v_X3_execute_80 l D cI cZ cJ o u T ra ga σ2 (σ2.1 0 10) (σ2.1 0 11) (σ2.1 0 12) _ H.size hok) mi_X3_execute kw_2_202 rfl rfl ⟨Nat.le_of_ble_eq_true rfl, Nat.le_of_ble_eq_true rfl⟩ hP hD hK hS hA hB cW_65 rfl rfl hl.1 (Nat.le_of_ble_eq_true rfl) ⟨Nat.le_of_ble_eq_true rfl, Nat.le_of_ble_eq_true rfl⟩ dX8_run_42 (fun σ3 H locs hok hz hP hD hS => ?_)
    refine lv_aload_n hx hb dX8_run_45 rfl (lv_at hl 0 rfl) ?_
    refine lv_dup hx hb dX8_run_46 rfl ?_
    refine xg (ci := 8) S inX8 rfl hK hP cW_0 13 (by decide) rfl kw_5_196 rfl dX8_run_47 ?_
    refine lv_iconst (v := 1) hx hb dX8_run_50 (by decide) ?_
    refine xiadd (v := (σ3.1 0 13) + 1) S dX8_run_51 rfl ?_
    refine yp (ci := 8) (v := .int ((σ3.1 0 13) + 1)) (cw := (cW o u cI cZ cJ 79)) S inX8 tyX8 tyX8_ok nmX8 rfl hK hP hD hS cW_0 13 (by decide) kw_5_196 rfl rfl rfl rfl (Nat.le_of_ble_eq_true rfl) dX8_run_52 cWp_0_13 (fun σ4 H locs eσ4 hP hD hS => ?_)
    have hok := hok σ4 eσ4
    refine lv_aload_n hx hb dX8_run_55 rfl (lv_at hl 0 rfl) ?_
    refine xg (ci := 8) S inX8 rfl hK hP cW_0 7 (by decide) rfl kw_5_190 rfl dX8_run_56 ?_
    refine xg (ci := 6) S inX6 rfl hK hP cW_80 0 (by decide) rfl kw_5_73 rfl dX8_run_59 ?_
    exact yEnd S hr hlocks hP hD hS (Nat.le_of_ble_eq_true rfl) (Nat.le_of_ble_eq_true rfl) dX8_run_62 hok

set_option maxHeartbeats 8000000 in
set_option maxRecDepth 100000 in
theorem v_X8_areLimits (l : Launch) (D : va_G) (cI cZ cJ : ClassId) (o : Nat) (u : Nat → Nat) (T : Nat) (ra : Nat → Nat) (ga : SG) (σ : FS) (a1 : Int32) (a2 : Int32) (Φ : Int32 → FS → Prop) (sz : Nat) (hok : (wp_X8_areLimits σ a1 a2 Φ)) : Met l yX8_areLimits (uW yX8_areLimits cX8_areLimits 2 (some .boolean)) ({ frames := 0, cells := 0, slots := 0, locals := 0 }) (va_Pc [.int a1, .int a2] (aS ra ga D (tyL cI cZ cJ) (cW o u cI cZ cJ T σ) sz)) (yQi Φ D (cW o u cI cZ cJ T) (va_A (cW o u cI cZ cJ T σ) sz)) 0 0 (va_A (cW o u cI cZ cJ T σ) sz) := by
  refine aStart (lv := [(0, .int a1), (1, .int a2)]) (Qc := fun A => yQi Φ D (cW o u cI cZ cJ T) A) (by decide) (Nat.le_of_ble_eq_true rfl) rfl ?_
  intro p e s m args below meth c ls A H S hr hlocks hnm hl hK hP hD hS hA hB
  have hx := S.1
  have hb := S.2.1
  refine lv_iload_n hx hb dX8_areLimits_0 rfl (lv_at hl 0 rfl) ?_
  refine lv_iconst (v := 1) hx hb dX8_areLimits_1 (by decide) ?_
  refine lv_icmp_lt (tgt := 27) hx hb dX8_areLimits_2 (by decide) (fun c_2 => ?_) (fun c_2 => ?_)
  · have hok := hok.1 c_2
    refine lv_iconst (v := 0) hx hb dX8_areLimits_27 (by decide) ?_
    exact yEndZ S hr hlocks hP hD hS (Nat.le_of_ble_eq_true rfl) (Nat.le_of_ble_eq_true rfl) dX8_areLimits_28 rfl hok
  · have hok := hok.2 c_2
    refine lv_iload_n hx hb dX8_areLimits_5 rfl (lv_at hl 0 rfl) ?_
    refine lv_sipush (v := 3000) hx hb dX8_areLimits_6 (by decide) ?_
    refine lv_icmp_gt (tgt := 27) hx hb dX8_areLimits_9 (by decide) (fun c_9 => ?_) (fun c_9 => ?_)
    · have hok := hok.1 c_9
      refine lv_iconst (v := 0) hx hb dX8_areLimits_27 (by decide) ?_
      exact yEndZ S hr hlocks hP hD hS (Nat.le_of_ble_eq_true rfl) (Nat.le_of_ble_eq_true rfl) dX8_areLimits_28 rfl hok
    · have hok := hok.2 c_9
      refine lv_iload_n hx hb dX8_areLimits_12 rfl (lv_at hl 1 rfl) ?_
      refine lv_iconst (v := 1) hx hb dX8_areLimits_13 (by decide) ?_
      refine lv_icmp_lt (tgt := 27) hx hb dX8_areLimits_14 (by decide) (fun c_14 => ?_) (fun c_14 => ?_)
      · have hok := hok.1 c_14
        refine lv_iconst (v := 0) hx hb dX8_areLimits_27 (by decide) ?_
        exact yEndZ S hr hlocks hP hD hS (Nat.le_of_ble_eq_true rfl) (Nat.le_of_ble_eq_true rfl) dX8_areLimits_28 rfl hok
      · have hok := hok.2 c_14
        refine lv_iload_n hx hb dX8_areLimits_17 rfl (lv_at hl 1 rfl) ?_
        refine lv_bipush (v := 40) hx hb dX8_areLimits_18 (by decide) ?_
        refine lv_icmp_gt (tgt := 27) hx hb dX8_areLimits_20 (by decide) (fun c_20 => ?_) (fun c_20 => ?_)
        · have hok := hok.1 c_20
          refine lv_iconst (v := 0) hx hb dX8_areLimits_27 (by decide) ?_
          exact yEndZ S hr hlocks hP hD hS (Nat.le_of_ble_eq_true rfl) (Nat.le_of_ble_eq_true rfl) dX8_areLimits_28 rfl hok
        · have hok := hok.2 c_20
          refine lv_iconst (v := 1) hx hb dX8_areLimits_23 (by decide) ?_
          refine lv_goto (tgt := 28) hx hb dX8_areLimits_24 (by decide) ?_
          exact yEndZ S hr hlocks hP hD hS (Nat.le_of_ble_eq_true rfl) (Nat.le_of_ble_eq_true rfl) dX8_areLimits_28 rfl hok

set_option maxHeartbeats 8000000 in
set_option maxRecDepth 100000 in
theorem v_X8_wouldRun (l : Launch) (D : va_G) (cI cZ cJ : ClassId) (o : Nat) (u : Nat → Nat) (T : Nat) (ra : Nat → Nat) (ga : SG) (σ : FS) (a1 : Int32) (a2 : Int32) (a3 : Int32) (Φ : Int32 → FS → Prop) (sz : Nat) (hok : (wp_X8_wouldRun σ a1 a2 a3 Φ)) : Met l yX8_wouldRun (uW yX8_wouldRun cX8_wouldRun 4 (some .int)) ({ frames := 7, cells := 0, slots := 0, locals := 170 }) (va_Pc [.ref o, .int a1, .int a2, .int a3] (aS ra ga D (tyL cI cZ cJ) (cW o u cI cZ cJ T σ) sz)) (yQi Φ D (cW o u cI cZ cJ 83) (va_A (cW o u cI cZ cJ T σ) sz)) 0 0 (va_A (cW o u cI cZ cJ T σ) sz) := by
  refine aStart (lv := [(0, .ref o), (1, .int a1), (2, .int a2), (3, .int a3)]) (Qc := fun A => yQi Φ D (cW o u cI cZ cJ 83) A) (by decide) (Nat.le_of_ble_eq_true rfl) rfl ?_
  intro p e s m args below meth c ls A H S hr hlocks hnm hl hK hP hD hS hA hB
  have hx := S.1
  have hb := S.2.1
  refine lv_iload_n hx hb dX8_wouldRun_0 rfl (lv_at hl 1 rfl) ?_
  refine lv_iload_n hx hb dX8_wouldRun_1 rfl (lv_at hl 2 rfl) ?_
  refine ySi (As := [.int a1, .int a2]) (cw := (cW o u cI cZ cJ T)) S (v_X8_areLimits l D cI cZ cJ o u T ra ga σ a1 a2 _ H.size hok) ms_X8_areLimits kw_3_159 rfl rfl ⟨Nat.le_of_ble_eq_true rfl, Nat.le_of_ble_eq_true rfl⟩ hP hD hK hS hA hB hl.1 (Nat.le_of_ble_eq_true rfl) ⟨Nat.le_of_ble_eq_true rfl, Nat.le_of_ble_eq_true rfl⟩ dX8_wouldRun_2 (fun x2 σ1 H locs hok hz hP hD hS => ?_)
  refine lv_if_eq (tgt := 22) hx hb dX8_wouldRun_5 (by decide) (fun c_5 => ?_) (fun c_5 => ?_)
  · have hok := hok.1 c_5
    refine lv_iconst (v := 0) hx hb dX8_wouldRun_22 (by decide) ?_
    exact False.elim hok
  · have hok := hok.2 c_5
    refine lv_iload_n hx hb dX8_wouldRun_8 rfl (lv_at hl 3 rfl) ?_
    refine lv_if_lt (tgt := 22) hx hb dX8_wouldRun_9 (by decide) (fun c_9 => ?_) (fun c_9 => ?_)
    · have hok := hok.1 c_9
      refine lv_iconst (v := 0) hx hb dX8_wouldRun_22 (by decide) ?_
      exact False.elim hok
    · have hok := hok.2 c_9
      refine lv_iload_n hx hb dX8_wouldRun_12 rfl (lv_at hl 3 rfl) ?_
      refine lv_bipush (v := 9) hx hb dX8_wouldRun_13 (by decide) ?_
      refine lv_icmp_gt (tgt := 22) hx hb dX8_wouldRun_15 (by decide) (fun c_15 => ?_) (fun c_15 => ?_)
      · have hok := hok.1 c_15
        refine lv_iconst (v := 0) hx hb dX8_wouldRun_22 (by decide) ?_
        exact False.elim hok
      · have hok := hok.2 c_15
        refine lv_iconst (v := 1) hx hb dX8_wouldRun_18 (by decide) ?_
        refine lv_goto (tgt := 23) hx hb dX8_wouldRun_19 (by decide) ?_
        refine ySv (As := [.int 1]) (cw := (cW o u cI cZ cJ T)) S (v_X8_needArgument l D cI cZ cJ o u T ra ga σ1 1 _ H.size hok) ms_X8_needArgument kw_1_104 rfl rfl ⟨Nat.le_of_ble_eq_true rfl, Nat.le_of_ble_eq_true rfl⟩ hP hD hK hS hA hB hl.1 (Nat.le_of_ble_eq_true rfl) ⟨Nat.le_of_ble_eq_true rfl, Nat.le_of_ble_eq_true rfl⟩ dX8_wouldRun_23 (fun σ3 H locs hok hz hP hD hS => ?_)
        refine lv_aload_n hx hb dX8_wouldRun_26 rfl (lv_at hl 0 rfl) ?_
        refine yVv (As := []) (cw := (cW o u cI cZ cJ T)) (ci := 8) S (v_X8_refresh l D cI cZ cJ o u T ra ga σ3 _ H.size hok) mi_X8_refresh kw_1_123 rfl rfl ⟨Nat.le_of_ble_eq_true rfl, Nat.le_of_ble_eq_true rfl⟩ hP hD hK hS hA hB cW_0 rfl rfl hl.1 (Nat.le_of_ble_eq_true rfl) ⟨Nat.le_of_ble_eq_true rfl, Nat.le_of_ble_eq_true rfl⟩ dX8_wouldRun_27 (fun σ4 H locs hok hz hP hD hS => ?_)
        refine lv_aload_n hx hb dX8_wouldRun_30 rfl (lv_at hl 0 rfl) ?_
        refine xg (ci := 8) S inX8 rfl hK hP cW_0 3 (by decide) rfl kw_5_186 rfl dX8_wouldRun_31 ?_
        refine xg (ci := 2) S inX2 rfl hK hP cW_34 3 (by decide) rfl kw_4_182 rfl dX8_wouldRun_34 ?_
        refine lv_if_ne (tgt := 44) hx hb dX8_wouldRun_37 (by decide) (fun c_37 => ?_) (fun c_37 => ?_)
        · have hok := hok.2 c_37
          refine lv_iconst (v := 0) hx hb dX8_wouldRun_44 (by decide) ?_
          exact False.elim hok
        · have hok := hok.1 c_37
          refine lv_iconst (v := 1) hx hb dX8_wouldRun_40 (by decide) ?_
          refine lv_goto (tgt := 45) hx hb dX8_wouldRun_41 (by decide) ?_
          refine ySv (As := [.int 1]) (cw := (cW o u cI cZ cJ T)) S (v_X8_needState l D cI cZ cJ o u T ra ga σ4 1 _ H.size hok) ms_X8_needState kw_2_163 rfl rfl ⟨Nat.le_of_ble_eq_true rfl, Nat.le_of_ble_eq_true rfl⟩ hP hD hK hS hA hB hl.1 (Nat.le_of_ble_eq_true rfl) ⟨Nat.le_of_ble_eq_true rfl, Nat.le_of_ble_eq_true rfl⟩ dX8_wouldRun_45 (fun σ5 H locs hok hz hP hD hS => ?_)
          refine lv_aload_n hx hb dX8_wouldRun_48 rfl (lv_at hl 0 rfl) ?_
          refine xg (ci := 8) S inX8 rfl hK hP cW_0 6 (by decide) rfl kw_5_189 rfl dX8_wouldRun_49 ?_
          refine lv_aload_n hx hb dX8_wouldRun_52 rfl (lv_at hl 0 rfl) ?_
          refine xg (ci := 8) S inX8 rfl hK hP cW_0 10 (by decide) rfl kw_5_193 rfl dX8_wouldRun_53 ?_
          refine lv_iload_n hx hb dX8_wouldRun_56 rfl (lv_at hl 1 rfl) ?_
          refine lv_iload_n hx hb dX8_wouldRun_57 rfl (lv_at hl 2 rfl) ?_
          refine lv_aload_n hx hb dX8_wouldRun_58 rfl (lv_at hl 0 rfl) ?_
          refine xg (ci := 8) S inX8 rfl hK hP cW_0 8 (by decide) rfl kw_5_191 rfl dX8_wouldRun_59 ?_
          refine yVv (As := [.int (σ5.1 0 10), .int a1, .int a2, .ref (u 83)]) (cw := (cW o u cI cZ cJ 83)) (ci := 3) S (v_X3_execute_84 l D cI cZ cJ o u T ra ga σ5 (σ5.1 0 10) a1 a2 _ H.size hok) mi_X3_execute kw_2_202 rfl rfl ⟨Nat.le_of_ble_eq_true rfl, Nat.le_of_ble_eq_true rfl⟩ hP hD hK hS hA hB cW_65 rfl rfl hl.1 (Nat.le_of_ble_eq_true rfl) ⟨Nat.le_of_ble_eq_true rfl, Nat.le_of_ble_eq_true rfl⟩ dX8_wouldRun_62 (fun σ6 H locs hok hz hP hD hS => ?_)
          refine lv_aload_n hx hb dX8_wouldRun_65 rfl (lv_at hl 0 rfl) ?_
          refine xg (ci := 8) S inX8 rfl hK hP cW_0 8 (by decide) rfl kw_5_191 rfl dX8_wouldRun_66 ?_
          refine lv_iload_n hx hb dX8_wouldRun_69 rfl (lv_at hl 3 rfl) ?_
          refine yVi (As := [.int a3]) (cw := (cW o u cI cZ cJ 83)) (ci := 6) S (v_X6_answer_84 l D cI cZ cJ o u 83 ra ga σ6 a3 _ H.size hok) mi_X6_answer kw_3_135 rfl rfl ⟨Nat.le_of_ble_eq_true rfl, Nat.le_of_ble_eq_true rfl⟩ hP hD hK hS hA hB cW_84 rfl rfl hl.1 (Nat.le_of_ble_eq_true rfl) ⟨Nat.le_of_ble_eq_true rfl, Nat.le_of_ble_eq_true rfl⟩ dX8_wouldRun_70 (fun x8 σ7 H locs hok hz hP hD hS => ?_)
          exact yEnd S hr hlocks hP hD hS (Nat.le_of_ble_eq_true rfl) (Nat.le_of_ble_eq_true rfl) dX8_wouldRun_73 hok

set_option maxHeartbeats 8000000 in
set_option maxRecDepth 100000 in
theorem v_X8_isPasses (l : Launch) (D : va_G) (cI cZ cJ : ClassId) (o : Nat) (u : Nat → Nat) (T : Nat) (ra : Nat → Nat) (ga : SG) (σ : FS) (a1 : Int32) (Φ : Int32 → FS → Prop) (sz : Nat) (hok : (wp_X8_isPasses σ a1 Φ)) : Met l yX8_isPasses (uW yX8_isPasses cX8_isPasses 1 (some .boolean)) ({ frames := 0, cells := 0, slots := 0, locals := 0 }) (va_Pc [.int a1] (aS ra ga D (tyL cI cZ cJ) (cW o u cI cZ cJ T σ) sz)) (yQi Φ D (cW o u cI cZ cJ T) (va_A (cW o u cI cZ cJ T σ) sz)) 0 0 (va_A (cW o u cI cZ cJ T σ) sz) := by
  refine aStart (lv := [(0, .int a1)]) (Qc := fun A => yQi Φ D (cW o u cI cZ cJ T) A) (by decide) (Nat.le_of_ble_eq_true rfl) rfl ?_
  intro p e s m args below meth c ls A H S hr hlocks hnm hl hK hP hD hS hA hB
  have hx := S.1
  have hb := S.2.1
  refine lv_iload_n hx hb dX8_isPasses_0 rfl (lv_at hl 0 rfl) ?_
  refine lv_if_lt (tgt := 14) hx hb dX8_isPasses_1 (by decide) (fun c_1 => ?_) (fun c_1 => ?_)
  · have hok := hok.1 c_1
    refine lv_iconst (v := 0) hx hb dX8_isPasses_14 (by decide) ?_
    exact yEndZ S hr hlocks hP hD hS (Nat.le_of_ble_eq_true rfl) (Nat.le_of_ble_eq_true rfl) dX8_isPasses_15 rfl hok
  · have hok := hok.2 c_1
    refine lv_iload_n hx hb dX8_isPasses_4 rfl (lv_at hl 0 rfl) ?_
    refine lv_bipush (v := 7) hx hb dX8_isPasses_5 (by decide) ?_
    refine lv_icmp_gt (tgt := 14) hx hb dX8_isPasses_7 (by decide) (fun c_7 => ?_) (fun c_7 => ?_)
    · have hok := hok.1 c_7
      refine lv_iconst (v := 0) hx hb dX8_isPasses_14 (by decide) ?_
      exact yEndZ S hr hlocks hP hD hS (Nat.le_of_ble_eq_true rfl) (Nat.le_of_ble_eq_true rfl) dX8_isPasses_15 rfl hok
    · have hok := hok.2 c_7
      refine lv_iconst (v := 1) hx hb dX8_isPasses_10 (by decide) ?_
      refine lv_goto (tgt := 15) hx hb dX8_isPasses_11 (by decide) ?_
      exact yEndZ S hr hlocks hP hD hS (Nat.le_of_ble_eq_true rfl) (Nat.le_of_ble_eq_true rfl) dX8_isPasses_15 rfl hok

set_option maxHeartbeats 8000000 in
set_option maxRecDepth 100000 in
theorem v_X8_with (l : Launch) (D : va_G) (cI cZ cJ : ClassId) (o : Nat) (u : Nat → Nat) (T : Nat) (ra : Nat → Nat) (ga : SG) (σ : FS) (a1 : Int32) (a2 : Int32) (Φ : Int32 → FS → Prop) (sz : Nat) (hok : (wp_X8_with σ a1 a2 Φ)) : Met l yX8_with (uW yX8_with cX8_with 3 (some .int)) ({ frames := 6, cells := 0, slots := 0, locals := 139 }) (va_Pc [.ref o, .int a1, .int a2] (aS ra ga D (tyL cI cZ cJ) (cW o u cI cZ cJ T σ) sz)) (yQi Φ D (cW o u cI cZ cJ T) (va_A (cW o u cI cZ cJ T σ) sz)) 0 0 (va_A (cW o u cI cZ cJ T σ) sz) := by
  refine aStart (lv := [(0, .ref o), (1, .int a1), (2, .int a2)]) (Qc := fun A => yQi Φ D (cW o u cI cZ cJ T) A) (by decide) (Nat.le_of_ble_eq_true rfl) rfl ?_
  intro p e s m args below meth c ls A H S hr hlocks hnm hl hK hP hD hS hA hB
  have hx := S.1
  have hb := S.2.1
  refine lv_iload_n hx hb dX8_with_0 rfl (lv_at hl 1 rfl) ?_
  refine ySi (As := [.int a1]) (cw := (cW o u cI cZ cJ T)) S (v_X8_isPasses l D cI cZ cJ o u T ra ga σ a1 _ H.size hok) ms_X8_isPasses kw_3_166 rfl rfl ⟨Nat.le_of_ble_eq_true rfl, Nat.le_of_ble_eq_true rfl⟩ hP hD hK hS hA hB hl.1 (Nat.le_of_ble_eq_true rfl) ⟨Nat.le_of_ble_eq_true rfl, Nat.le_of_ble_eq_true rfl⟩ dX8_with_1 (fun x2 σ1 H locs hok hz hP hD hS => ?_)
  refine lv_if_eq (tgt := 20) hx hb dX8_with_4 (by decide) (fun c_4 => ?_) (fun c_4 => ?_)
  · have hok := hok.1 c_4
    refine lv_iconst (v := 0) hx hb dX8_with_20 (by decide) ?_
    exact False.elim hok
  · have hok := hok.2 c_4
    refine lv_iload_n hx hb dX8_with_7 rfl (lv_at hl 2 rfl) ?_
    refine lv_if_lt (tgt := 20) hx hb dX8_with_8 (by decide) (fun c_8 => ?_) (fun c_8 => ?_)
    · have hok := hok.1 c_8
      refine lv_iconst (v := 0) hx hb dX8_with_20 (by decide) ?_
      exact False.elim hok
    · have hok := hok.2 c_8
      refine lv_iload_n hx hb dX8_with_11 rfl (lv_at hl 2 rfl) ?_
      refine lv_iconst (v := 2) hx hb dX8_with_12 (by decide) ?_
      refine lv_icmp_gt (tgt := 20) hx hb dX8_with_13 (by decide) (fun c_13 => ?_) (fun c_13 => ?_)
      · have hok := hok.1 c_13
        refine lv_iconst (v := 0) hx hb dX8_with_20 (by decide) ?_
        exact False.elim hok
      · have hok := hok.2 c_13
        refine lv_iconst (v := 1) hx hb dX8_with_16 (by decide) ?_
        refine lv_goto (tgt := 21) hx hb dX8_with_17 (by decide) ?_
        refine ySv (As := [.int 1]) (cw := (cW o u cI cZ cJ T)) S (v_X8_needArgument l D cI cZ cJ o u T ra ga σ1 1 _ H.size hok) ms_X8_needArgument kw_1_104 rfl rfl ⟨Nat.le_of_ble_eq_true rfl, Nat.le_of_ble_eq_true rfl⟩ hP hD hK hS hA hB hl.1 (Nat.le_of_ble_eq_true rfl) ⟨Nat.le_of_ble_eq_true rfl, Nat.le_of_ble_eq_true rfl⟩ dX8_with_21 (fun σ3 H locs hok hz hP hD hS => ?_)
        refine lv_aload_n hx hb dX8_with_24 rfl (lv_at hl 0 rfl) ?_
        refine yVv (As := []) (cw := (cW o u cI cZ cJ T)) (ci := 8) S (v_X8_refresh l D cI cZ cJ o u T ra ga σ3 _ H.size hok) mi_X8_refresh kw_1_123 rfl rfl ⟨Nat.le_of_ble_eq_true rfl, Nat.le_of_ble_eq_true rfl⟩ hP hD hK hS hA hB cW_0 rfl rfl hl.1 (Nat.le_of_ble_eq_true rfl) ⟨Nat.le_of_ble_eq_true rfl, Nat.le_of_ble_eq_true rfl⟩ dX8_with_25 (fun σ4 H locs hok hz hP hD hS => ?_)
        refine lv_aload_n hx hb dX8_with_28 rfl (lv_at hl 0 rfl) ?_
        refine xg (ci := 8) S inX8 rfl hK hP cW_0 3 (by decide) rfl kw_5_186 rfl dX8_with_29 ?_
        refine xg (ci := 2) S inX2 rfl hK hP cW_34 3 (by decide) rfl kw_4_182 rfl dX8_with_32 ?_
        refine lv_if_ne (tgt := 42) hx hb dX8_with_35 (by decide) (fun c_35 => ?_) (fun c_35 => ?_)
        · have hok := hok.2 c_35
          refine lv_iconst (v := 0) hx hb dX8_with_42 (by decide) ?_
          exact False.elim hok
        · have hok := hok.1 c_35
          refine lv_iconst (v := 1) hx hb dX8_with_38 (by decide) ?_
          refine lv_goto (tgt := 43) hx hb dX8_with_39 (by decide) ?_
          refine ySv (As := [.int 1]) (cw := (cW o u cI cZ cJ T)) S (v_X8_needState l D cI cZ cJ o u T ra ga σ4 1 _ H.size hok) ms_X8_needState kw_2_163 rfl rfl ⟨Nat.le_of_ble_eq_true rfl, Nat.le_of_ble_eq_true rfl⟩ hP hD hK hS hA hB hl.1 (Nat.le_of_ble_eq_true rfl) ⟨Nat.le_of_ble_eq_true rfl, Nat.le_of_ble_eq_true rfl⟩ dX8_with_43 (fun σ5 H locs hok hz hP hD hS => ?_)
          refine lv_iload_n hx hb dX8_with_46 rfl (lv_at hl 2 rfl) ?_
          refine lv_if_ne (tgt := 56) hx hb dX8_with_47 (by decide) (fun c_47 => ?_) (fun c_47 => ?_)
          · have hok := hok.2 c_47
            refine lv_aload_n hx hb dX8_with_56 rfl (lv_at hl 0 rfl) ?_
            refine xg (ci := 8) S inX8 rfl hK hP cW_0 6 (by decide) rfl kw_5_189 rfl dX8_with_57 ?_
            refine lv_iload_n hx hb dX8_with_60 rfl (lv_at hl 1 rfl) ?_
            refine lv_aload_n hx hb dX8_with_61 rfl (lv_at hl 0 rfl) ?_
            refine xg (ci := 8) S inX8 rfl hK hP cW_0 11 (by decide) rfl kw_5_194 rfl dX8_with_62 ?_
            refine lv_aload_n hx hb dX8_with_65 rfl (lv_at hl 0 rfl) ?_
            refine xg (ci := 8) S inX8 rfl hK hP cW_0 12 (by decide) rfl kw_5_195 rfl dX8_with_66 ?_
            refine lv_aload_n hx hb dX8_with_69 rfl (lv_at hl 0 rfl) ?_
            refine xg (ci := 8) S inX8 rfl hK hP cW_0 8 (by decide) rfl kw_5_191 rfl dX8_with_70 ?_
            exact False.elim hok
          · have hok := hok.1 c_47
            refine lv_aload_n hx hb dX8_with_50 rfl (lv_at hl 0 rfl) ?_
            refine lv_iload_n hx hb dX8_with_51 rfl (lv_at hl 1 rfl) ?_
            refine yVi (As := [.int a1]) (cw := (cW o u cI cZ cJ T)) (ci := 8) S (v_X8_wholeCodeLength l D cI cZ cJ o u T ra ga σ5 a1 _ H.size hok) mi_X8_wholeCodeLength kw_3_151 rfl rfl ⟨Nat.le_of_ble_eq_true rfl, Nat.le_of_ble_eq_true rfl⟩ hP hD hK hS hA hB cW_0 rfl rfl hl.1 (Nat.le_of_ble_eq_true rfl) ⟨Nat.le_of_ble_eq_true rfl, Nat.le_of_ble_eq_true rfl⟩ dX8_with_52 (fun x7 σ6 H locs hok hz hP hD hS => ?_)
            exact yEnd S hr hlocks hP hD hS (Nat.le_of_ble_eq_true rfl) (Nat.le_of_ble_eq_true rfl) dX8_with_55 hok

set_option maxHeartbeats 8000000 in
set_option maxRecDepth 100000 in
theorem v_X5_isFree (l : Launch) (D : va_G) (cI cZ cJ : ClassId) (o : Nat) (u : Nat → Nat) (T : Nat) (ra : Nat → Nat) (ga : SG) (σ : FS) (a1 : Int32) (Φ : Int32 → FS → Prop) (sz : Nat) (hok : (wp_X5_isFree σ a1 Φ)) : Met l yX5_isFree (uW yX5_isFree cX5_isFree 2 (some .boolean)) ({ frames := 0, cells := 0, slots := 0, locals := 0 }) (va_Pc [.ref (u 12), .int a1] (aS ra ga D (tyL cI cZ cJ) (cW o u cI cZ cJ T σ) sz)) (yQi Φ D (cW o u cI cZ cJ T) (va_A (cW o u cI cZ cJ T σ) sz)) 0 0 (va_A (cW o u cI cZ cJ T σ) sz) := by
  refine aStart (lv := [(0, .ref (u 12)), (1, .int a1)]) (Qc := fun A => yQi Φ D (cW o u cI cZ cJ T) A) (by decide) (Nat.le_of_ble_eq_true rfl) rfl ?_
  intro p e s m args below meth c ls A H S hr hlocks hnm hl hK hP hD hS hA hB
  have hx := S.1
  have hb := S.2.1
  refine lv_aload_n hx hb dX5_isFree_0 rfl (lv_at hl 0 rfl) ?_
  refine xg (ci := 5) S inX5 rfl hK hP cW_13 5 (by decide) rfl kw_4_60 rfl dX5_isFree_1 ?_
  refine lv_iload_n hx hb dX5_isFree_4 rfl (lv_at hl 1 rfl) ?_
  have h_5 := hok.1
  have hok := hok.2
  refine xiald (t0 := 0) (v := (g σ 18 a1)) S hK hP cW_18 rfl h_5 rfl dX5_isFree_5 ?_
  refine lv_iconst (v := (-1)) hx hb dX5_isFree_6 (by decide) ?_
  refine lv_icmp_ne (tgt := 24) hx hb dX5_isFree_7 (by decide) (fun c_7 => ?_) (fun c_7 => ?_)
  · have hok := hok.2 c_7
    refine lv_iconst (v := 0) hx hb dX5_isFree_24 (by decide) ?_
    exact yEndZ S hr hlocks hP hD hS (Nat.le_of_ble_eq_true rfl) (Nat.le_of_ble_eq_true rfl) dX5_isFree_25 rfl hok
  · have hok := hok.1 c_7
    refine lv_aload_n hx hb dX5_isFree_10 rfl (lv_at hl 0 rfl) ?_
    refine xg (ci := 5) S inX5 rfl hK hP cW_13 6 (by decide) rfl kw_4_64 rfl dX5_isFree_11 ?_
    refine lv_iload_n hx hb dX5_isFree_14 rfl (lv_at hl 1 rfl) ?_
    have h_15 := hok.1
    have hok := hok.2
    refine xiald (t0 := 0) (v := (g σ 19 a1)) S hK hP cW_19 rfl h_15 rfl dX5_isFree_15 ?_
    refine lv_iconst (v := (-1)) hx hb dX5_isFree_16 (by decide) ?_
    refine lv_icmp_ne (tgt := 24) hx hb dX5_isFree_17 (by decide) (fun c_17 => ?_) (fun c_17 => ?_)
    · have hok := hok.2 c_17
      refine lv_iconst (v := 0) hx hb dX5_isFree_24 (by decide) ?_
      exact yEndZ S hr hlocks hP hD hS (Nat.le_of_ble_eq_true rfl) (Nat.le_of_ble_eq_true rfl) dX5_isFree_25 rfl hok
    · have hok := hok.1 c_17
      refine lv_iconst (v := 1) hx hb dX5_isFree_20 (by decide) ?_
      refine lv_goto (tgt := 25) hx hb dX5_isFree_21 (by decide) ?_
      exact yEndZ S hr hlocks hP hD hS (Nat.le_of_ble_eq_true rfl) (Nat.le_of_ble_eq_true rfl) dX5_isFree_25 rfl hok

set_option maxHeartbeats 8000000 in
set_option maxRecDepth 100000 in
theorem v_X5_isStatement (l : Launch) (D : va_G) (cI cZ cJ : ClassId) (o : Nat) (u : Nat → Nat) (T : Nat) (ra : Nat → Nat) (ga : SG) (σ : FS) (a1 : Int32) (Φ : Int32 → FS → Prop) (sz : Nat) (hok : (wp_X5_isStatement σ a1 Φ)) : Met l yX5_isStatement (uW yX5_isStatement cX5_isStatement 2 (some .boolean)) ({ frames := 0, cells := 0, slots := 0, locals := 0 }) (va_Pc [.ref (u 12), .int a1] (aS ra ga D (tyL cI cZ cJ) (cW o u cI cZ cJ T σ) sz)) (yQi Φ D (cW o u cI cZ cJ T) (va_A (cW o u cI cZ cJ T σ) sz)) 0 0 (va_A (cW o u cI cZ cJ T σ) sz) := by
  refine aStart (lv := [(0, .ref (u 12)), (1, .int a1)]) (Qc := fun A => yQi Φ D (cW o u cI cZ cJ T) A) (by decide) (Nat.le_of_ble_eq_true rfl) rfl ?_
  intro p e s m args below meth c ls A H S hr hlocks hnm hl hK hP hD hS hA hB
  have hx := S.1
  have hb := S.2.1
  refine lv_aload_n hx hb dX5_isStatement_0 rfl (lv_at hl 0 rfl) ?_
  refine xg (ci := 5) S inX5 rfl hK hP cW_13 1 (by decide) rfl kw_4_41 rfl dX5_isStatement_1 ?_
  refine lv_iload_n hx hb dX5_isStatement_4 rfl (lv_at hl 1 rfl) ?_
  have h_5 := hok.1
  have hok := hok.2
  refine xiald (t0 := 0) (v := (g σ 14 a1)) S hK hP cW_14 rfl h_5 rfl dX5_isStatement_5 ?_
  refine lv_bipush (v := 12) hx hb dX5_isStatement_6 (by decide) ?_
  refine lv_icmp_lt (tgt := 15) hx hb dX5_isStatement_8 (by decide) (fun c_8 => ?_) (fun c_8 => ?_)
  · have hok := hok.1 c_8
    refine lv_iconst (v := 0) hx hb dX5_isStatement_15 (by decide) ?_
    exact yEndZ S hr hlocks hP hD hS (Nat.le_of_ble_eq_true rfl) (Nat.le_of_ble_eq_true rfl) dX5_isStatement_16 rfl hok
  · have hok := hok.2 c_8
    refine lv_iconst (v := 1) hx hb dX5_isStatement_11 (by decide) ?_
    refine lv_goto (tgt := 16) hx hb dX5_isStatement_12 (by decide) ?_
    exact yEndZ S hr hlocks hP hD hS (Nat.le_of_ble_eq_true rfl) (Nat.le_of_ble_eq_true rfl) dX5_isStatement_16 rfl hok

set_option maxHeartbeats 8000000 in
set_option maxRecDepth 100000 in
theorem v_X5_isPartFor (l : Launch) (D : va_G) (cI cZ cJ : ClassId) (o : Nat) (u : Nat → Nat) (T : Nat) (ra : Nat → Nat) (ga : SG) (σ : FS) (a1 : Int32) (a2 : Int32) (Φ : Int32 → FS → Prop) (sz : Nat) (hok : (wp_X5_isPartFor σ a1 a2 Φ)) : Met l yX5_isPartFor (uW yX5_isPartFor cX5_isPartFor 3 (some .boolean)) ({ frames := 1, cells := 0, slots := 0, locals := 21 }) (va_Pc [.ref (u 12), .int a1, .int a2] (aS ra ga D (tyL cI cZ cJ) (cW o u cI cZ cJ T σ) sz)) (yQi Φ D (cW o u cI cZ cJ T) (va_A (cW o u cI cZ cJ T σ) sz)) 0 0 (va_A (cW o u cI cZ cJ T σ) sz) := by
  refine aStart (lv := [(0, .ref (u 12)), (1, .int a1), (2, .int a2)]) (Qc := fun A => yQi Φ D (cW o u cI cZ cJ T) A) (by decide) (Nat.le_of_ble_eq_true rfl) rfl ?_
  intro p e s m args below meth c ls A H S hr hlocks hnm hl hK hP hD hS hA hB
  have hx := S.1
  have hb := S.2.1
  refine lv_aload_n hx hb dX5_isPartFor_0 rfl (lv_at hl 0 rfl) ?_
  refine lv_iload_n hx hb dX5_isPartFor_1 rfl (lv_at hl 2 rfl) ?_
  refine yVi (As := [.int a2]) (cw := (cW o u cI cZ cJ T)) (ci := 5) S (v_X5_has l D cI cZ cJ o u T ra ga σ a2 _ H.size hok) mi_X5_has kw_6_90 rfl rfl ⟨Nat.le_of_ble_eq_true rfl, Nat.le_of_ble_eq_true rfl⟩ hP hD hK hS hA hB cW_13 rfl rfl hl.1 (Nat.le_of_ble_eq_true rfl) ⟨Nat.le_of_ble_eq_true rfl, Nat.le_of_ble_eq_true rfl⟩ dX5_isPartFor_2 (fun x2 σ1 H locs hok hz hP hD hS => ?_)
  refine lv_if_eq (tgt := 16) hx hb dX5_isPartFor_5 (by decide) (fun c_5 => ?_) (fun c_5 => ?_)
  · have hok := hok.1 c_5
    refine lv_iconst (v := 0) hx hb dX5_isPartFor_16 (by decide) ?_
    exact yEndZ S hr hlocks hP hD hS (Nat.le_of_ble_eq_true rfl) (Nat.le_of_ble_eq_true rfl) dX5_isPartFor_17 rfl hok
  · have hok := hok.2 c_5
    refine lv_aload_n hx hb dX5_isPartFor_8 rfl (lv_at hl 0 rfl) ?_
    refine lv_iload_n hx hb dX5_isPartFor_9 rfl (lv_at hl 2 rfl) ?_
    refine yVi (As := [.int a2]) (cw := (cW o u cI cZ cJ T)) (ci := 5) S (v_X5_isFree l D cI cZ cJ o u T ra ga σ1 a2 _ H.size hok) mi_X5_isFree kw_6_91 rfl rfl ⟨Nat.le_of_ble_eq_true rfl, Nat.le_of_ble_eq_true rfl⟩ hP hD hK hS hA hB cW_13 rfl rfl hl.1 (Nat.le_of_ble_eq_true rfl) ⟨Nat.le_of_ble_eq_true rfl, Nat.le_of_ble_eq_true rfl⟩ dX5_isPartFor_10 (fun x4 σ3 H locs hok hz hP hD hS => ?_)
    refine lv_if_ne (tgt := 18) hx hb dX5_isPartFor_13 (by decide) (fun c_13 => ?_) (fun c_13 => ?_)
    · have hok := hok.2 c_13
      refine lv_iload_n hx hb dX5_isPartFor_18 rfl (lv_at hl 1 rfl) ?_
      by_cases k_19_0 : a1 = 4
      · have hok := hok.1 k_19_0
        rw [k_19_0]
        refine lv_tableIn (off := 37) (tgt := 56) hx hb dX5_isPartFor_19 (by decide) (by decide) (by decide) (by decide) ?_
        refine lv_aload_n hx hb dX5_isPartFor_56 rfl (lv_at hl 0 rfl) ?_
        refine lv_iload_n hx hb dX5_isPartFor_57 rfl (lv_at hl 2 rfl) ?_
        refine yVi (As := [.int a2]) (cw := (cW o u cI cZ cJ T)) (ci := 5) S (v_X5_isExpression l D cI cZ cJ o u T ra ga σ3 a2 _ H.size hok) mi_X5_isExpression kw_6_92 rfl rfl ⟨Nat.le_of_ble_eq_true rfl, Nat.le_of_ble_eq_true rfl⟩ hP hD hK hS hA hB cW_13 rfl rfl hl.1 (Nat.le_of_ble_eq_true rfl) ⟨Nat.le_of_ble_eq_true rfl, Nat.le_of_ble_eq_true rfl⟩ dX5_isPartFor_58 (fun x6 σ5 H locs hok hz hP hD hS => ?_)
        exact yEndZ S hr hlocks hP hD hS (Nat.le_of_ble_eq_true rfl) (Nat.le_of_ble_eq_true rfl) dX5_isPartFor_61 (bZ_nar hok.1) hok.2
      · have hok := hok.2 k_19_0
        by_cases k_19_1 : a1 = 5
        · have hok := hok.1 k_19_1
          rw [k_19_1]
          refine lv_tableIn (off := 43) (tgt := 62) hx hb dX5_isPartFor_19 (by decide) (by decide) (by decide) (by decide) ?_
          refine lv_aload_n hx hb dX5_isPartFor_62 rfl (lv_at hl 0 rfl) ?_
          refine lv_iload_n hx hb dX5_isPartFor_63 rfl (lv_at hl 2 rfl) ?_
          refine yVi (As := [.int a2]) (cw := (cW o u cI cZ cJ T)) (ci := 5) S (v_X5_isStatement l D cI cZ cJ o u T ra ga σ3 a2 _ H.size hok) mi_X5_isStatement kw_6_93 rfl rfl ⟨Nat.le_of_ble_eq_true rfl, Nat.le_of_ble_eq_true rfl⟩ hP hD hK hS hA hB cW_13 rfl rfl hl.1 (Nat.le_of_ble_eq_true rfl) ⟨Nat.le_of_ble_eq_true rfl, Nat.le_of_ble_eq_true rfl⟩ dX5_isPartFor_64 (fun x8 σ7 H locs hok hz hP hD hS => ?_)
          exact yEndZ S hr hlocks hP hD hS (Nat.le_of_ble_eq_true rfl) (Nat.le_of_ble_eq_true rfl) dX5_isPartFor_67 (bZ_nar hok.1) hok.2
        · have hok := hok.2 k_19_1
          by_cases k_19_2 : a1 = 6
          · have hok := hok.1 k_19_2
            rw [k_19_2]
            refine lv_tableIn (off := 43) (tgt := 62) hx hb dX5_isPartFor_19 (by decide) (by decide) (by decide) (by decide) ?_
            refine lv_aload_n hx hb dX5_isPartFor_62 rfl (lv_at hl 0 rfl) ?_
            refine lv_iload_n hx hb dX5_isPartFor_63 rfl (lv_at hl 2 rfl) ?_
            refine yVi (As := [.int a2]) (cw := (cW o u cI cZ cJ T)) (ci := 5) S (v_X5_isStatement l D cI cZ cJ o u T ra ga σ3 a2 _ H.size hok) mi_X5_isStatement kw_6_93 rfl rfl ⟨Nat.le_of_ble_eq_true rfl, Nat.le_of_ble_eq_true rfl⟩ hP hD hK hS hA hB cW_13 rfl rfl hl.1 (Nat.le_of_ble_eq_true rfl) ⟨Nat.le_of_ble_eq_true rfl, Nat.le_of_ble_eq_true rfl⟩ dX5_isPartFor_64 (fun x10 σ9 H locs hok hz hP hD hS => ?_)
            exact yEndZ S hr hlocks hP hD hS (Nat.le_of_ble_eq_true rfl) (Nat.le_of_ble_eq_true rfl) dX5_isPartFor_67 (bZ_nar hok.1) hok.2
          · have hok := hok.2 k_19_2
            by_cases k_19_3 : a1 = 7
            · have hok := hok.1 k_19_3
              rw [k_19_3]
              refine lv_tableIn (off := 49) (tgt := 68) hx hb dX5_isPartFor_19 (by decide) (by decide) (by decide) (by decide) ?_
              refine lv_aload_n hx hb dX5_isPartFor_68 rfl (lv_at hl 0 rfl) ?_
              refine xg (ci := 5) S inX5 rfl hK hP cW_13 1 (by decide) rfl kw_4_41 rfl dX5_isPartFor_69 ?_
              refine lv_iload_n hx hb dX5_isPartFor_72 rfl (lv_at hl 2 rfl) ?_
              have h_73 := hok.1
              have hok := hok.2
              refine xiald (t0 := 0) (v := (g σ3 14 a2)) S hK hP cW_14 rfl h_73 rfl dX5_isPartFor_73 ?_
              refine lv_bipush (v := 9) hx hb dX5_isPartFor_74 (by decide) ?_
              refine lv_icmp_ne (tgt := 83) hx hb dX5_isPartFor_76 (by decide) (fun c_76 => ?_) (fun c_76 => ?_)
              · have hok := hok.2 c_76
                refine lv_iconst (v := 0) hx hb dX5_isPartFor_83 (by decide) ?_
                exact yEndZ S hr hlocks hP hD hS (Nat.le_of_ble_eq_true rfl) (Nat.le_of_ble_eq_true rfl) dX5_isPartFor_84 rfl hok
              · have hok := hok.1 c_76
                refine lv_iconst (v := 1) hx hb dX5_isPartFor_79 (by decide) ?_
                refine lv_goto (tgt := 84) hx hb dX5_isPartFor_80 (by decide) ?_
                exact yEndZ S hr hlocks hP hD hS (Nat.le_of_ble_eq_true rfl) (Nat.le_of_ble_eq_true rfl) dX5_isPartFor_84 rfl hok
            · have hok := hok.2 k_19_3
              by_cases k_19_4 : a1 = 8
              · have hok := hok.1 k_19_4
                rw [k_19_4]
                refine lv_tableIn (off := 66) (tgt := 85) hx hb dX5_isPartFor_19 (by decide) (by decide) (by decide) (by decide) ?_
                refine lv_aload_n hx hb dX5_isPartFor_85 rfl (lv_at hl 0 rfl) ?_
                refine lv_iload_n hx hb dX5_isPartFor_86 rfl (lv_at hl 2 rfl) ?_
                refine yVi (As := [.int a2]) (cw := (cW o u cI cZ cJ T)) (ci := 5) S (v_X5_isExpression l D cI cZ cJ o u T ra ga σ3 a2 _ H.size hok) mi_X5_isExpression kw_6_92 rfl rfl ⟨Nat.le_of_ble_eq_true rfl, Nat.le_of_ble_eq_true rfl⟩ hP hD hK hS hA hB cW_13 rfl rfl hl.1 (Nat.le_of_ble_eq_true rfl) ⟨Nat.le_of_ble_eq_true rfl, Nat.le_of_ble_eq_true rfl⟩ dX5_isPartFor_87 (fun x12 σ11 H locs hok hz hP hD hS => ?_)
                refine lv_if_ne (tgt := 115) hx hb dX5_isPartFor_90 (by decide) (fun c_90 => ?_) (fun c_90 => ?_)
                · have hok := hok.2 c_90
                  refine lv_iconst (v := 1) hx hb dX5_isPartFor_115 (by decide) ?_
                  refine lv_goto (tgt := 120) hx hb dX5_isPartFor_116 (by decide) ?_
                  exact yEndZ S hr hlocks hP hD hS (Nat.le_of_ble_eq_true rfl) (Nat.le_of_ble_eq_true rfl) dX5_isPartFor_120 rfl hok
                · have hok := hok.1 c_90
                  refine lv_aload_n hx hb dX5_isPartFor_93 rfl (lv_at hl 0 rfl) ?_
                  refine xg (ci := 5) S inX5 rfl hK hP cW_13 1 (by decide) rfl kw_4_41 rfl dX5_isPartFor_94 ?_
                  refine lv_iload_n hx hb dX5_isPartFor_97 rfl (lv_at hl 2 rfl) ?_
                  have h_98 := hok.1
                  have hok := hok.2
                  refine xiald (t0 := 0) (v := (g σ11 14 a2)) S hK hP cW_14 rfl h_98 rfl dX5_isPartFor_98 ?_
                  refine lv_bipush (v := 11) hx hb dX5_isPartFor_99 (by decide) ?_
                  refine lv_icmp_eq (tgt := 115) hx hb dX5_isPartFor_101 (by decide) (fun c_101 => ?_) (fun c_101 => ?_)
                  · have hok := hok.1 c_101
                    refine lv_iconst (v := 1) hx hb dX5_isPartFor_115 (by decide) ?_
                    refine lv_goto (tgt := 120) hx hb dX5_isPartFor_116 (by decide) ?_
                    exact yEndZ S hr hlocks hP hD hS (Nat.le_of_ble_eq_true rfl) (Nat.le_of_ble_eq_true rfl) dX5_isPartFor_120 rfl hok
                  · have hok := hok.2 c_101
                    refine lv_aload_n hx hb dX5_isPartFor_104 rfl (lv_at hl 0 rfl) ?_
                    refine xg (ci := 5) S inX5 rfl hK hP cW_13 1 (by decide) rfl kw_4_41 rfl dX5_isPartFor_105 ?_
                    refine lv_iload_n hx hb dX5_isPartFor_108 rfl (lv_at hl 2 rfl) ?_
                    have h_109 := hok.1
                    have hok := hok.2
                    refine xiald (t0 := 0) (v := (g σ11 14 a2)) S hK hP cW_14 rfl h_109 rfl dX5_isPartFor_109 ?_
                    refine lv_bipush (v := 10) hx hb dX5_isPartFor_110 (by decide) ?_
                    refine lv_icmp_ne (tgt := 119) hx hb dX5_isPartFor_112 (by decide) (fun c_112 => ?_) (fun c_112 => ?_)
                    · have hok := hok.2 c_112
                      refine lv_iconst (v := 0) hx hb dX5_isPartFor_119 (by decide) ?_
                      exact yEndZ S hr hlocks hP hD hS (Nat.le_of_ble_eq_true rfl) (Nat.le_of_ble_eq_true rfl) dX5_isPartFor_120 rfl hok
                    · have hok := hok.1 c_112
                      refine lv_iconst (v := 1) hx hb dX5_isPartFor_115 (by decide) ?_
                      refine lv_goto (tgt := 120) hx hb dX5_isPartFor_116 (by decide) ?_
                      exact yEndZ S hr hlocks hP hD hS (Nat.le_of_ble_eq_true rfl) (Nat.le_of_ble_eq_true rfl) dX5_isPartFor_120 rfl hok
              · have hok := hok.2 k_19_4
                by_cases k_19_5 : a1 = 9
                · have hok := hok.1 k_19_5
                  rw [k_19_5]
                  refine lv_tableIn (off := 102) (tgt := 121) hx hb dX5_isPartFor_19 (by decide) (by decide) (by decide) (by decide) ?_
                  refine lv_aload_n hx hb dX5_isPartFor_121 rfl (lv_at hl 0 rfl) ?_
                  refine xg (ci := 5) S inX5 rfl hK hP cW_13 1 (by decide) rfl kw_4_41 rfl dX5_isPartFor_122 ?_
                  refine lv_iload_n hx hb dX5_isPartFor_125 rfl (lv_at hl 2 rfl) ?_
                  have h_126 := hok.1
                  have hok := hok.2
                  refine xiald (t0 := 0) (v := (g σ3 14 a2)) S hK hP cW_14 rfl h_126 rfl dX5_isPartFor_126 ?_
                  refine lv_bipush (v := 8) hx hb dX5_isPartFor_127 (by decide) ?_
                  refine lv_icmp_ne (tgt := 136) hx hb dX5_isPartFor_129 (by decide) (fun c_129 => ?_) (fun c_129 => ?_)
                  · have hok := hok.2 c_129
                    refine lv_iconst (v := 0) hx hb dX5_isPartFor_136 (by decide) ?_
                    exact yEndZ S hr hlocks hP hD hS (Nat.le_of_ble_eq_true rfl) (Nat.le_of_ble_eq_true rfl) dX5_isPartFor_137 rfl hok
                  · have hok := hok.1 c_129
                    refine lv_iconst (v := 1) hx hb dX5_isPartFor_132 (by decide) ?_
                    refine lv_goto (tgt := 137) hx hb dX5_isPartFor_133 (by decide) ?_
                    exact yEndZ S hr hlocks hP hD hS (Nat.le_of_ble_eq_true rfl) (Nat.le_of_ble_eq_true rfl) dX5_isPartFor_137 rfl hok
                · have hok := hok.2 k_19_5
                  have q_19_0 := sw_ni k_19_0 (z := 4) (by decide)
                  have q_19_1 := sw_ni k_19_1 (z := 5) (by decide)
                  have q_19_2 := sw_ni k_19_2 (z := 6) (by decide)
                  have q_19_3 := sw_ni k_19_3 (z := 7) (by decide)
                  have q_19_4 := sw_ni k_19_4 (z := 8) (by decide)
                  have q_19_5 := sw_ni k_19_5 (z := 9) (by decide)
                  refine lv_tableOut (tgt := 138) hx hb dX5_isPartFor_19 (by omega) (by decide) ?_
                  refine lv_aload_n hx hb dX5_isPartFor_138 rfl (lv_at hl 0 rfl) ?_
                  refine xg (ci := 5) S inX5 rfl hK hP cW_13 1 (by decide) rfl kw_4_41 rfl dX5_isPartFor_139 ?_
                  refine lv_iload_n hx hb dX5_isPartFor_142 rfl (lv_at hl 2 rfl) ?_
                  have h_143 := hok.1
                  have hok := hok.2
                  refine xiald (t0 := 0) (v := (g σ3 14 a2)) S hK hP cW_14 rfl h_143 rfl dX5_isPartFor_143 ?_
                  refine lv_bipush (v := 10) hx hb dX5_isPartFor_144 (by decide) ?_
                  refine lv_icmp_ne (tgt := 153) hx hb dX5_isPartFor_146 (by decide) (fun c_146 => ?_) (fun c_146 => ?_)
                  · have hok := hok.2 c_146
                    refine lv_iconst (v := 0) hx hb dX5_isPartFor_153 (by decide) ?_
                    exact yEndZ S hr hlocks hP hD hS (Nat.le_of_ble_eq_true rfl) (Nat.le_of_ble_eq_true rfl) dX5_isPartFor_154 rfl hok
                  · have hok := hok.1 c_146
                    refine lv_iconst (v := 1) hx hb dX5_isPartFor_149 (by decide) ?_
                    refine lv_goto (tgt := 154) hx hb dX5_isPartFor_150 (by decide) ?_
                    exact yEndZ S hr hlocks hP hD hS (Nat.le_of_ble_eq_true rfl) (Nat.le_of_ble_eq_true rfl) dX5_isPartFor_154 rfl hok
    · have hok := hok.1 c_13
      refine lv_iconst (v := 0) hx hb dX5_isPartFor_16 (by decide) ?_
      exact yEndZ S hr hlocks hP hD hS (Nat.le_of_ble_eq_true rfl) (Nat.le_of_ble_eq_true rfl) dX5_isPartFor_17 rfl hok

set_option maxHeartbeats 8000000 in
set_option maxRecDepth 100000 in
theorem v_X5_fills (l : Launch) (D : va_G) (cI cZ cJ : ClassId) (o : Nat) (u : Nat → Nat) (T : Nat) (ra : Nat → Nat) (ga : SG) (σ : FS) (a1 : Int32) (a2 : Int32) (Φ : Int32 → FS → Prop) (sz : Nat) (hok : (wp_X5_fills σ a1 a2 Φ)) : Met l yX5_fills (uW yX5_fills cX5_fills 3 (some .boolean)) ({ frames := 2, cells := 0, slots := 0, locals := 43 }) (va_Pc [.ref (u 12), .int a1, .int a2] (aS ra ga D (tyL cI cZ cJ) (cW o u cI cZ cJ T σ) sz)) (yQi Φ D (cW o u cI cZ cJ T) (va_A (cW o u cI cZ cJ T σ) sz)) 0 0 (va_A (cW o u cI cZ cJ T σ) sz) := by
  refine aStart (lv := [(0, .ref (u 12)), (1, .int a1), (2, .int a2)]) (Qc := fun A => yQi Φ D (cW o u cI cZ cJ T) A) (by decide) (Nat.le_of_ble_eq_true rfl) rfl ?_
  intro p e s m args below meth c ls A H S hr hlocks hnm hl hK hP hD hS hA hB
  have hx := S.1
  have hb := S.2.1
  refine lv_iload_n hx hb dX5_fills_0 rfl (lv_at hl 1 rfl) ?_
  by_cases k_1_0 : a1 = 0
  · have hok := hok.1 k_1_0
    rw [k_1_0]
    refine lv_tableIn (off := 47) (tgt := 48) hx hb dX5_fills_1 (by decide) (by decide) (by decide) (by decide) ?_
    refine lv_iload_n hx hb dX5_fills_48 rfl (lv_at hl 2 rfl) ?_
    refine lv_if_ne (tgt := 56) hx hb dX5_fills_49 (by decide) (fun c_49 => ?_) (fun c_49 => ?_)
    · have hok := hok.2 c_49
      refine lv_iconst (v := 0) hx hb dX5_fills_56 (by decide) ?_
      exact yEndZ S hr hlocks hP hD hS (Nat.le_of_ble_eq_true rfl) (Nat.le_of_ble_eq_true rfl) dX5_fills_57 rfl hok
    · have hok := hok.1 c_49
      refine lv_iconst (v := 1) hx hb dX5_fills_52 (by decide) ?_
      refine lv_goto (tgt := 57) hx hb dX5_fills_53 (by decide) ?_
      exact yEndZ S hr hlocks hP hD hS (Nat.le_of_ble_eq_true rfl) (Nat.le_of_ble_eq_true rfl) dX5_fills_57 rfl hok
  · have hok := hok.2 k_1_0
    by_cases k_1_1 : a1 = 1
    · have hok := hok.1 k_1_1
      rw [k_1_1]
      refine lv_tableIn (off := 57) (tgt := 58) hx hb dX5_fills_1 (by decide) (by decide) (by decide) (by decide) ?_
      refine lv_iload_n hx hb dX5_fills_58 rfl (lv_at hl 2 rfl) ?_
      refine lv_sipush (v := (-999)) hx hb dX5_fills_59 (by decide) ?_
      refine lv_icmp_lt (tgt := 76) hx hb dX5_fills_62 (by decide) (fun c_62 => ?_) (fun c_62 => ?_)
      · have hok := hok.1 c_62
        refine lv_iconst (v := 0) hx hb dX5_fills_76 (by decide) ?_
        exact yEndZ S hr hlocks hP hD hS (Nat.le_of_ble_eq_true rfl) (Nat.le_of_ble_eq_true rfl) dX5_fills_77 rfl hok
      · have hok := hok.2 c_62
        refine lv_iload_n hx hb dX5_fills_65 rfl (lv_at hl 2 rfl) ?_
        refine lv_sipush (v := 999) hx hb dX5_fills_66 (by decide) ?_
        refine lv_icmp_gt (tgt := 76) hx hb dX5_fills_69 (by decide) (fun c_69 => ?_) (fun c_69 => ?_)
        · have hok := hok.1 c_69
          refine lv_iconst (v := 0) hx hb dX5_fills_76 (by decide) ?_
          exact yEndZ S hr hlocks hP hD hS (Nat.le_of_ble_eq_true rfl) (Nat.le_of_ble_eq_true rfl) dX5_fills_77 rfl hok
        · have hok := hok.2 c_69
          refine lv_iconst (v := 1) hx hb dX5_fills_72 (by decide) ?_
          refine lv_goto (tgt := 77) hx hb dX5_fills_73 (by decide) ?_
          exact yEndZ S hr hlocks hP hD hS (Nat.le_of_ble_eq_true rfl) (Nat.le_of_ble_eq_true rfl) dX5_fills_77 rfl hok
    · have hok := hok.2 k_1_1
      by_cases k_1_2 : a1 = 2
      · have hok := hok.1 k_1_2
        rw [k_1_2]
        refine lv_tableIn (off := 77) (tgt := 78) hx hb dX5_fills_1 (by decide) (by decide) (by decide) (by decide) ?_
        refine lv_iload_n hx hb dX5_fills_78 rfl (lv_at hl 2 rfl) ?_
        refine yNi (As := [.int a2]) (cw := (cW o u cI cZ cJ T)) S (v_X8_isName l D cI cZ cJ o u T ra ga σ a2 _ H.size hok) ms_X8_isName hB.n5 rfl rfl ⟨Nat.le_of_ble_eq_true rfl, Nat.le_of_ble_eq_true rfl⟩ hP hD hK hS hA hB hl.1 (Nat.le_of_ble_eq_true rfl) ⟨Nat.le_of_ble_eq_true rfl, Nat.le_of_ble_eq_true rfl⟩ dX5_fills_79 (fun x2 σ1 H locs hok hz hP hD hS => ?_)
        exact yEndZ S hr hlocks hP hD hS (Nat.le_of_ble_eq_true rfl) (Nat.le_of_ble_eq_true rfl) dX5_fills_82 (bZ_nar hok.1) hok.2
      · have hok := hok.2 k_1_2
        by_cases k_1_3 : a1 = 3
        · have hok := hok.1 k_1_3
          rw [k_1_3]
          refine lv_tableIn (off := 82) (tgt := 83) hx hb dX5_fills_1 (by decide) (by decide) (by decide) (by decide) ?_
          refine lv_iload_n hx hb dX5_fills_83 rfl (lv_at hl 2 rfl) ?_
          refine lv_if_lt (tgt := 97) hx hb dX5_fills_84 (by decide) (fun c_84 => ?_) (fun c_84 => ?_)
          · have hok := hok.1 c_84
            refine lv_iconst (v := 0) hx hb dX5_fills_97 (by decide) ?_
            exact yEndZ S hr hlocks hP hD hS (Nat.le_of_ble_eq_true rfl) (Nat.le_of_ble_eq_true rfl) dX5_fills_98 rfl hok
          · have hok := hok.2 c_84
            refine lv_iload_n hx hb dX5_fills_87 rfl (lv_at hl 2 rfl) ?_
            refine lv_bipush (v := 10) hx hb dX5_fills_88 (by decide) ?_
            refine lv_icmp_ge (tgt := 97) hx hb dX5_fills_90 (by decide) (fun c_90 => ?_) (fun c_90 => ?_)
            · have hok := hok.1 c_90
              refine lv_iconst (v := 0) hx hb dX5_fills_97 (by decide) ?_
              exact yEndZ S hr hlocks hP hD hS (Nat.le_of_ble_eq_true rfl) (Nat.le_of_ble_eq_true rfl) dX5_fills_98 rfl hok
            · have hok := hok.2 c_90
              refine lv_iconst (v := 1) hx hb dX5_fills_93 (by decide) ?_
              refine lv_goto (tgt := 98) hx hb dX5_fills_94 (by decide) ?_
              exact yEndZ S hr hlocks hP hD hS (Nat.le_of_ble_eq_true rfl) (Nat.le_of_ble_eq_true rfl) dX5_fills_98 rfl hok
        · have hok := hok.2 k_1_3
          by_cases k_1_4 : a1 = 4
          · have hok := hok.1 k_1_4
            rw [k_1_4]
            refine lv_tableIn (off := 118) (tgt := 119) hx hb dX5_fills_1 (by decide) (by decide) (by decide) (by decide) ?_
            refine lv_aload_n hx hb dX5_fills_119 rfl (lv_at hl 0 rfl) ?_
            refine lv_iload_n hx hb dX5_fills_120 rfl (lv_at hl 1 rfl) ?_
            refine lv_iload_n hx hb dX5_fills_121 rfl (lv_at hl 2 rfl) ?_
            refine yVi (As := [.int a1, .int a2]) (cw := (cW o u cI cZ cJ T)) (ci := 5) S (v_X5_isPartFor l D cI cZ cJ o u T ra ga σ a1 a2 _ H.size hok) mi_X5_isPartFor kw_6_86 rfl rfl ⟨Nat.le_of_ble_eq_true rfl, Nat.le_of_ble_eq_true rfl⟩ hP hD hK hS hA hB cW_13 rfl rfl hl.1 (Nat.le_of_ble_eq_true rfl) ⟨Nat.le_of_ble_eq_true rfl, Nat.le_of_ble_eq_true rfl⟩ dX5_fills_122 (fun x4 σ3 H locs hok hz hP hD hS => ?_)
            exact yEndZ S hr hlocks hP hD hS (Nat.le_of_ble_eq_true rfl) (Nat.le_of_ble_eq_true rfl) dX5_fills_125 (bZ_nar hok.1) hok.2
          · have hok := hok.2 k_1_4
            by_cases k_1_5 : a1 = 5
            · have hok := hok.1 k_1_5
              rw [k_1_5]
              refine lv_tableIn (off := 118) (tgt := 119) hx hb dX5_fills_1 (by decide) (by decide) (by decide) (by decide) ?_
              refine lv_aload_n hx hb dX5_fills_119 rfl (lv_at hl 0 rfl) ?_
              refine lv_iload_n hx hb dX5_fills_120 rfl (lv_at hl 1 rfl) ?_
              refine lv_iload_n hx hb dX5_fills_121 rfl (lv_at hl 2 rfl) ?_
              refine yVi (As := [.int a1, .int a2]) (cw := (cW o u cI cZ cJ T)) (ci := 5) S (v_X5_isPartFor l D cI cZ cJ o u T ra ga σ a1 a2 _ H.size hok) mi_X5_isPartFor kw_6_86 rfl rfl ⟨Nat.le_of_ble_eq_true rfl, Nat.le_of_ble_eq_true rfl⟩ hP hD hK hS hA hB cW_13 rfl rfl hl.1 (Nat.le_of_ble_eq_true rfl) ⟨Nat.le_of_ble_eq_true rfl, Nat.le_of_ble_eq_true rfl⟩ dX5_fills_122 (fun x6 σ5 H locs hok hz hP hD hS => ?_)
              exact yEndZ S hr hlocks hP hD hS (Nat.le_of_ble_eq_true rfl) (Nat.le_of_ble_eq_true rfl) dX5_fills_125 (bZ_nar hok.1) hok.2
            · have hok := hok.2 k_1_5
              by_cases k_1_6 : a1 = 6
              · have hok := hok.1 k_1_6
                rw [k_1_6]
                refine lv_tableIn (off := 98) (tgt := 99) hx hb dX5_fills_1 (by decide) (by decide) (by decide) (by decide) ?_
                refine lv_iload_n hx hb dX5_fills_99 rfl (lv_at hl 2 rfl) ?_
                refine lv_iconst (v := (-1)) hx hb dX5_fills_100 (by decide) ?_
                refine lv_icmp_eq (tgt := 113) hx hb dX5_fills_101 (by decide) (fun c_101 => ?_) (fun c_101 => ?_)
                · have hok := hok.1 c_101
                  refine lv_iconst (v := 1) hx hb dX5_fills_113 (by decide) ?_
                  refine lv_goto (tgt := 118) hx hb dX5_fills_114 (by decide) ?_
                  exact yEndZ S hr hlocks hP hD hS (Nat.le_of_ble_eq_true rfl) (Nat.le_of_ble_eq_true rfl) dX5_fills_118 rfl hok
                · have hok := hok.2 c_101
                  refine lv_aload_n hx hb dX5_fills_104 rfl (lv_at hl 0 rfl) ?_
                  refine lv_iload_n hx hb dX5_fills_105 rfl (lv_at hl 1 rfl) ?_
                  refine lv_iload_n hx hb dX5_fills_106 rfl (lv_at hl 2 rfl) ?_
                  refine yVi (As := [.int a1, .int a2]) (cw := (cW o u cI cZ cJ T)) (ci := 5) S (v_X5_isPartFor l D cI cZ cJ o u T ra ga σ a1 a2 _ H.size hok) mi_X5_isPartFor kw_6_86 rfl rfl ⟨Nat.le_of_ble_eq_true rfl, Nat.le_of_ble_eq_true rfl⟩ hP hD hK hS hA hB cW_13 rfl rfl hl.1 (Nat.le_of_ble_eq_true rfl) ⟨Nat.le_of_ble_eq_true rfl, Nat.le_of_ble_eq_true rfl⟩ dX5_fills_107 (fun x8 σ7 H locs hok hz hP hD hS => ?_)
                  refine lv_if_eq (tgt := 117) hx hb dX5_fills_110 (by decide) (fun c_110 => ?_) (fun c_110 => ?_)
                  · have hok := hok.1 c_110
                    refine lv_iconst (v := 0) hx hb dX5_fills_117 (by decide) ?_
                    exact yEndZ S hr hlocks hP hD hS (Nat.le_of_ble_eq_true rfl) (Nat.le_of_ble_eq_true rfl) dX5_fills_118 rfl hok
                  · have hok := hok.2 c_110
                    refine lv_iconst (v := 1) hx hb dX5_fills_113 (by decide) ?_
                    refine lv_goto (tgt := 118) hx hb dX5_fills_114 (by decide) ?_
                    exact yEndZ S hr hlocks hP hD hS (Nat.le_of_ble_eq_true rfl) (Nat.le_of_ble_eq_true rfl) dX5_fills_118 rfl hok
              · have hok := hok.2 k_1_6
                by_cases k_1_7 : a1 = 7
                · have hok := hok.1 k_1_7
                  rw [k_1_7]
                  refine lv_tableIn (off := 98) (tgt := 99) hx hb dX5_fills_1 (by decide) (by decide) (by decide) (by decide) ?_
                  refine lv_iload_n hx hb dX5_fills_99 rfl (lv_at hl 2 rfl) ?_
                  refine lv_iconst (v := (-1)) hx hb dX5_fills_100 (by decide) ?_
                  refine lv_icmp_eq (tgt := 113) hx hb dX5_fills_101 (by decide) (fun c_101 => ?_) (fun c_101 => ?_)
                  · have hok := hok.1 c_101
                    refine lv_iconst (v := 1) hx hb dX5_fills_113 (by decide) ?_
                    refine lv_goto (tgt := 118) hx hb dX5_fills_114 (by decide) ?_
                    exact yEndZ S hr hlocks hP hD hS (Nat.le_of_ble_eq_true rfl) (Nat.le_of_ble_eq_true rfl) dX5_fills_118 rfl hok
                  · have hok := hok.2 c_101
                    refine lv_aload_n hx hb dX5_fills_104 rfl (lv_at hl 0 rfl) ?_
                    refine lv_iload_n hx hb dX5_fills_105 rfl (lv_at hl 1 rfl) ?_
                    refine lv_iload_n hx hb dX5_fills_106 rfl (lv_at hl 2 rfl) ?_
                    refine yVi (As := [.int a1, .int a2]) (cw := (cW o u cI cZ cJ T)) (ci := 5) S (v_X5_isPartFor l D cI cZ cJ o u T ra ga σ a1 a2 _ H.size hok) mi_X5_isPartFor kw_6_86 rfl rfl ⟨Nat.le_of_ble_eq_true rfl, Nat.le_of_ble_eq_true rfl⟩ hP hD hK hS hA hB cW_13 rfl rfl hl.1 (Nat.le_of_ble_eq_true rfl) ⟨Nat.le_of_ble_eq_true rfl, Nat.le_of_ble_eq_true rfl⟩ dX5_fills_107 (fun x10 σ9 H locs hok hz hP hD hS => ?_)
                    refine lv_if_eq (tgt := 117) hx hb dX5_fills_110 (by decide) (fun c_110 => ?_) (fun c_110 => ?_)
                    · have hok := hok.1 c_110
                      refine lv_iconst (v := 0) hx hb dX5_fills_117 (by decide) ?_
                      exact yEndZ S hr hlocks hP hD hS (Nat.le_of_ble_eq_true rfl) (Nat.le_of_ble_eq_true rfl) dX5_fills_118 rfl hok
                    · have hok := hok.2 c_110
                      refine lv_iconst (v := 1) hx hb dX5_fills_113 (by decide) ?_
                      refine lv_goto (tgt := 118) hx hb dX5_fills_114 (by decide) ?_
                      exact yEndZ S hr hlocks hP hD hS (Nat.le_of_ble_eq_true rfl) (Nat.le_of_ble_eq_true rfl) dX5_fills_118 rfl hok
                · have hok := hok.2 k_1_7
                  have q_1_0 := sw_ni k_1_0 (z := 0) (by decide)
                  have q_1_1 := sw_ni k_1_1 (z := 1) (by decide)
                  have q_1_2 := sw_ni k_1_2 (z := 2) (by decide)
                  have q_1_3 := sw_ni k_1_3 (z := 3) (by decide)
                  have q_1_4 := sw_ni k_1_4 (z := 4) (by decide)
                  have q_1_5 := sw_ni k_1_5 (z := 5) (by decide)
                  have q_1_6 := sw_ni k_1_6 (z := 6) (by decide)
                  have q_1_7 := sw_ni k_1_7 (z := 7) (by decide)
                  refine lv_tableOut (tgt := 119) hx hb dX5_fills_1 (by omega) (by decide) ?_
                  refine lv_aload_n hx hb dX5_fills_119 rfl (lv_at hl 0 rfl) ?_
                  refine lv_iload_n hx hb dX5_fills_120 rfl (lv_at hl 1 rfl) ?_
                  refine lv_iload_n hx hb dX5_fills_121 rfl (lv_at hl 2 rfl) ?_
                  refine yVi (As := [.int a1, .int a2]) (cw := (cW o u cI cZ cJ T)) (ci := 5) S (v_X5_isPartFor l D cI cZ cJ o u T ra ga σ a1 a2 _ H.size hok) mi_X5_isPartFor kw_6_86 rfl rfl ⟨Nat.le_of_ble_eq_true rfl, Nat.le_of_ble_eq_true rfl⟩ hP hD hK hS hA hB cW_13 rfl rfl hl.1 (Nat.le_of_ble_eq_true rfl) ⟨Nat.le_of_ble_eq_true rfl, Nat.le_of_ble_eq_true rfl⟩ dX5_fills_122 (fun x12 σ11 H locs hok hz hP hD hS => ?_)
                  exact yEndZ S hr hlocks hP hD hS (Nat.le_of_ble_eq_true rfl) (Nat.le_of_ble_eq_true rfl) dX5_fills_125 (bZ_nar hok.1) hok.2

set_option maxHeartbeats 8000000 in
set_option maxRecDepth 100000 in
theorem v_X5_isSamePart (l : Launch) (D : va_G) (cI cZ cJ : ClassId) (o : Nat) (u : Nat → Nat) (T : Nat) (ra : Nat → Nat) (ga : SG) (σ : FS) (a1 : Int32) (a2 : Int32) (a3 : Int32) (a4 : Int32) (Φ : Int32 → FS → Prop) (sz : Nat) (hok : (wp_X5_isSamePart σ a1 a2 a3 a4 Φ)) : Met l yX5_isSamePart (uW yX5_isSamePart cX5_isSamePart 4 (some .boolean)) ({ frames := 0, cells := 0, slots := 0, locals := 0 }) (va_Pc [.int a1, .int a2, .int a3, .int a4] (aS ra ga D (tyL cI cZ cJ) (cW o u cI cZ cJ T σ) sz)) (yQi Φ D (cW o u cI cZ cJ T) (va_A (cW o u cI cZ cJ T σ) sz)) 0 0 (va_A (cW o u cI cZ cJ T σ) sz) := by
  refine aStart (lv := [(0, .int a1), (1, .int a2), (2, .int a3), (3, .int a4)]) (Qc := fun A => yQi Φ D (cW o u cI cZ cJ T) A) (by decide) (Nat.le_of_ble_eq_true rfl) rfl ?_
  intro p e s m args below meth c ls A H S hr hlocks hnm hl hK hP hD hS hA hB
  have hx := S.1
  have hb := S.2.1
  refine lv_iload_n hx hb dX5_isSamePart_0 rfl (lv_at hl 0 rfl) ?_
  refine lv_iconst (v := 4) hx hb dX5_isSamePart_1 (by decide) ?_
  refine lv_icmp_lt (tgt := 24) hx hb dX5_isSamePart_2 (by decide) (fun c_2 => ?_) (fun c_2 => ?_)
  · have hok := hok.1 c_2
    refine lv_iconst (v := 0) hx hb dX5_isSamePart_24 (by decide) ?_
    exact yEndZ S hr hlocks hP hD hS (Nat.le_of_ble_eq_true rfl) (Nat.le_of_ble_eq_true rfl) dX5_isSamePart_25 rfl hok
  · have hok := hok.2 c_2
    refine lv_iload_n hx hb dX5_isSamePart_5 rfl (lv_at hl 2 rfl) ?_
    refine lv_iconst (v := 4) hx hb dX5_isSamePart_6 (by decide) ?_
    refine lv_icmp_lt (tgt := 24) hx hb dX5_isSamePart_7 (by decide) (fun c_7 => ?_) (fun c_7 => ?_)
    · have hok := hok.1 c_7
      refine lv_iconst (v := 0) hx hb dX5_isSamePart_24 (by decide) ?_
      exact yEndZ S hr hlocks hP hD hS (Nat.le_of_ble_eq_true rfl) (Nat.le_of_ble_eq_true rfl) dX5_isSamePart_25 rfl hok
    · have hok := hok.2 c_7
      refine lv_iload_n hx hb dX5_isSamePart_10 rfl (lv_at hl 1 rfl) ?_
      refine lv_iload_n hx hb dX5_isSamePart_11 rfl (lv_at hl 3 rfl) ?_
      refine lv_icmp_ne (tgt := 24) hx hb dX5_isSamePart_12 (by decide) (fun c_12 => ?_) (fun c_12 => ?_)
      · have hok := hok.2 c_12
        refine lv_iconst (v := 0) hx hb dX5_isSamePart_24 (by decide) ?_
        exact yEndZ S hr hlocks hP hD hS (Nat.le_of_ble_eq_true rfl) (Nat.le_of_ble_eq_true rfl) dX5_isSamePart_25 rfl hok
      · have hok := hok.1 c_12
        refine lv_iload_n hx hb dX5_isSamePart_15 rfl (lv_at hl 1 rfl) ?_
        refine lv_iconst (v := (-1)) hx hb dX5_isSamePart_16 (by decide) ?_
        refine lv_icmp_eq (tgt := 24) hx hb dX5_isSamePart_17 (by decide) (fun c_17 => ?_) (fun c_17 => ?_)
        · have hok := hok.1 c_17
          refine lv_iconst (v := 0) hx hb dX5_isSamePart_24 (by decide) ?_
          exact yEndZ S hr hlocks hP hD hS (Nat.le_of_ble_eq_true rfl) (Nat.le_of_ble_eq_true rfl) dX5_isSamePart_25 rfl hok
        · have hok := hok.2 c_17
          refine lv_iconst (v := 1) hx hb dX5_isSamePart_20 (by decide) ?_
          refine lv_goto (tgt := 25) hx hb dX5_isSamePart_21 (by decide) ?_
          exact yEndZ S hr hlocks hP hD hS (Nat.le_of_ble_eq_true rfl) (Nat.le_of_ble_eq_true rfl) dX5_isSamePart_25 rfl hok

set_option maxHeartbeats 8000000 in
set_option maxRecDepth 100000 in
theorem v_X5_suits (l : Launch) (D : va_G) (cI cZ cJ : ClassId) (o : Nat) (u : Nat → Nat) (T : Nat) (ra : Nat → Nat) (ga : SG) (σ : FS) (a1 : Int32) (a2 : Int32) (a3 : Int32) (a4 : Int32) (Φ : Int32 → FS → Prop) (sz : Nat) (hok : (wp_X5_suits σ a1 a2 a3 a4 Φ)) : Met l yX5_suits (uW yX5_suits cX5_suits 5 (some .boolean)) ({ frames := 3, cells := 0, slots := 0, locals := 65 }) (va_Pc [.ref (u 12), .int a1, .int a2, .int a3, .int a4] (aS ra ga D (tyL cI cZ cJ) (cW o u cI cZ cJ T σ) sz)) (yQi Φ D (cW o u cI cZ cJ T) (va_A (cW o u cI cZ cJ T σ) sz)) 0 0 (va_A (cW o u cI cZ cJ T σ) sz) := by
  refine aStart (lv := [(0, .ref (u 12)), (1, .int a1), (2, .int a2), (3, .int a3), (4, .int a4)]) (Qc := fun A => yQi Φ D (cW o u cI cZ cJ T) A) (by decide) (Nat.le_of_ble_eq_true rfl) rfl ?_
  intro p e s m args below meth c ls A H S hr hlocks hnm hl hK hP hD hS hA hB
  have hx := S.1
  have hb := S.2.1
  refine lv_iload_n hx hb dX5_suits_0 rfl (lv_at hl 1 rfl) ?_
  refine lv_if_lt (tgt := 10) hx hb dX5_suits_1 (by decide) (fun c_1 => ?_) (fun c_1 => ?_)
  · have hok := hok.1 c_1
    refine lv_iconst (v := 0) hx hb dX5_suits_10 (by decide) ?_
    exact yEndZ S hr hlocks hP hD hS (Nat.le_of_ble_eq_true rfl) (Nat.le_of_ble_eq_true rfl) dX5_suits_11 rfl hok
  · have hok := hok.2 c_1
    refine lv_iload_n hx hb dX5_suits_4 rfl (lv_at hl 1 rfl) ?_
    refine lv_bipush (v := 21) hx hb dX5_suits_5 (by decide) ?_
    refine lv_icmp_le (tgt := 12) hx hb dX5_suits_7 (by decide) (fun c_7 => ?_) (fun c_7 => ?_)
    · have hok := hok.1 c_7
      refine lv_aload_n hx hb dX5_suits_12 rfl (lv_at hl 0 rfl) ?_
      refine xgs S hB.z0 hS kw_1_144 rfl dX5_suits_13 ?_
      refine lv_iload_n hx hb dX5_suits_16 rfl (lv_at hl 1 rfl) ?_
      have h_17 := hok.1
      have hok := hok.2
      refine xti (v := (tROLE_A (a1 : Int32).toNatClampNeg)) S hB.t0 hS h_17 rfl dX5_suits_17 ?_
      refine lv_iload_n hx hb dX5_suits_18 rfl (lv_at hl 2 rfl) ?_
      refine yVi (As := [.int (tROLE_A (a1 : Int32).toNatClampNeg), .int a2]) (cw := (cW o u cI cZ cJ T)) (ci := 5) S (v_X5_fills l D cI cZ cJ o u T ra ga σ (tROLE_A (a1 : Int32).toNatClampNeg) a2 _ H.size hok) mi_X5_fills kw_6_81 rfl rfl ⟨Nat.le_of_ble_eq_true rfl, Nat.le_of_ble_eq_true rfl⟩ hP hD hK hS hA hB cW_13 rfl rfl hl.1 (Nat.le_of_ble_eq_true rfl) ⟨Nat.le_of_ble_eq_true rfl, Nat.le_of_ble_eq_true rfl⟩ dX5_suits_19 (fun x2 σ1 H locs hok hz hP hD hS => ?_)
      refine lv_if_eq (tgt := 112) hx hb dX5_suits_22 (by decide) (fun c_22 => ?_) (fun c_22 => ?_)
      · have hok := hok.1 c_22
        refine lv_iconst (v := 0) hx hb dX5_suits_112 (by decide) ?_
        exact yEndZ S hr hlocks hP hD hS (Nat.le_of_ble_eq_true rfl) (Nat.le_of_ble_eq_true rfl) dX5_suits_113 rfl hok
      · have hok := hok.2 c_22
        refine lv_aload_n hx hb dX5_suits_25 rfl (lv_at hl 0 rfl) ?_
        refine xgs S hB.z1 hS kw_2_44 rfl dX5_suits_26 ?_
        refine lv_iload_n hx hb dX5_suits_29 rfl (lv_at hl 1 rfl) ?_
        have h_30 := hok.1
        have hok := hok.2
        refine xti (v := (tROLE_B (a1 : Int32).toNatClampNeg)) S hB.t1 hS h_30 rfl dX5_suits_30 ?_
        refine lv_iload_n hx hb dX5_suits_31 rfl (lv_at hl 3 rfl) ?_
        refine yVi (As := [.int (tROLE_B (a1 : Int32).toNatClampNeg), .int a3]) (cw := (cW o u cI cZ cJ T)) (ci := 5) S (v_X5_fills l D cI cZ cJ o u T ra ga σ1 (tROLE_B (a1 : Int32).toNatClampNeg) a3 _ H.size hok) mi_X5_fills kw_6_81 rfl rfl ⟨Nat.le_of_ble_eq_true rfl, Nat.le_of_ble_eq_true rfl⟩ hP hD hK hS hA hB cW_13 rfl rfl hl.1 (Nat.le_of_ble_eq_true rfl) ⟨Nat.le_of_ble_eq_true rfl, Nat.le_of_ble_eq_true rfl⟩ dX5_suits_32 (fun x4 σ3 H locs hok hz hP hD hS => ?_)
        refine lv_if_eq (tgt := 112) hx hb dX5_suits_35 (by decide) (fun c_35 => ?_) (fun c_35 => ?_)
        · have hok := hok.1 c_35
          refine lv_iconst (v := 0) hx hb dX5_suits_112 (by decide) ?_
          exact yEndZ S hr hlocks hP hD hS (Nat.le_of_ble_eq_true rfl) (Nat.le_of_ble_eq_true rfl) dX5_suits_113 rfl hok
        · have hok := hok.2 c_35
          refine lv_aload_n hx hb dX5_suits_38 rfl (lv_at hl 0 rfl) ?_
          refine xgs S hB.z2 hS kw_2_38 rfl dX5_suits_39 ?_
          refine lv_iload_n hx hb dX5_suits_42 rfl (lv_at hl 1 rfl) ?_
          have h_43 := hok.1
          have hok := hok.2
          refine xti (v := (tROLE_C (a1 : Int32).toNatClampNeg)) S hB.t2 hS h_43 rfl dX5_suits_43 ?_
          refine lv_iload hx hb dX5_suits_44 (lv_at hl 4 rfl) ?_
          refine yVi (As := [.int (tROLE_C (a1 : Int32).toNatClampNeg), .int a4]) (cw := (cW o u cI cZ cJ T)) (ci := 5) S (v_X5_fills l D cI cZ cJ o u T ra ga σ3 (tROLE_C (a1 : Int32).toNatClampNeg) a4 _ H.size hok) mi_X5_fills kw_6_81 rfl rfl ⟨Nat.le_of_ble_eq_true rfl, Nat.le_of_ble_eq_true rfl⟩ hP hD hK hS hA hB cW_13 rfl rfl hl.1 (Nat.le_of_ble_eq_true rfl) ⟨Nat.le_of_ble_eq_true rfl, Nat.le_of_ble_eq_true rfl⟩ dX5_suits_46 (fun x6 σ5 H locs hok hz hP hD hS => ?_)
          refine lv_if_eq (tgt := 112) hx hb dX5_suits_49 (by decide) (fun c_49 => ?_) (fun c_49 => ?_)
          · have hok := hok.1 c_49
            refine lv_iconst (v := 0) hx hb dX5_suits_112 (by decide) ?_
            exact yEndZ S hr hlocks hP hD hS (Nat.le_of_ble_eq_true rfl) (Nat.le_of_ble_eq_true rfl) dX5_suits_113 rfl hok
          · have hok := hok.2 c_49
            refine xgs S hB.z0 hS kw_1_144 rfl dX5_suits_52 ?_
            refine lv_iload_n hx hb dX5_suits_55 rfl (lv_at hl 1 rfl) ?_
            have h_56 := hok.1
            have hok := hok.2
            refine xti (v := (tROLE_A (a1 : Int32).toNatClampNeg)) S hB.t0 hS h_56 rfl dX5_suits_56 ?_
            refine lv_iload_n hx hb dX5_suits_57 rfl (lv_at hl 2 rfl) ?_
            refine xgs S hB.z1 hS kw_2_44 rfl dX5_suits_58 ?_
            refine lv_iload_n hx hb dX5_suits_61 rfl (lv_at hl 1 rfl) ?_
            have h_62 := hok.1
            have hok := hok.2
            refine xti (v := (tROLE_B (a1 : Int32).toNatClampNeg)) S hB.t1 hS h_62 rfl dX5_suits_62 ?_
            refine lv_iload_n hx hb dX5_suits_63 rfl (lv_at hl 3 rfl) ?_
            refine ySi (As := [.int (tROLE_A (a1 : Int32).toNatClampNeg), .int a2, .int (tROLE_B (a1 : Int32).toNatClampNeg), .int a3]) (cw := (cW o u cI cZ cJ T)) S (v_X5_isSamePart l D cI cZ cJ o u T ra ga σ5 (tROLE_A (a1 : Int32).toNatClampNeg) a2 (tROLE_B (a1 : Int32).toNatClampNeg) a3 _ H.size hok) ms_X5_isSamePart kw_6_94 rfl rfl ⟨Nat.le_of_ble_eq_true rfl, Nat.le_of_ble_eq_true rfl⟩ hP hD hK hS hA hB hl.1 (Nat.le_of_ble_eq_true rfl) ⟨Nat.le_of_ble_eq_true rfl, Nat.le_of_ble_eq_true rfl⟩ dX5_suits_64 (fun x8 σ7 H locs hok hz hP hD hS => ?_)
            refine lv_if_ne (tgt := 112) hx hb dX5_suits_67 (by decide) (fun c_67 => ?_) (fun c_67 => ?_)
            · have hok := hok.2 c_67
              refine lv_iconst (v := 0) hx hb dX5_suits_112 (by decide) ?_
              exact yEndZ S hr hlocks hP hD hS (Nat.le_of_ble_eq_true rfl) (Nat.le_of_ble_eq_true rfl) dX5_suits_113 rfl hok
            · have hok := hok.1 c_67
              refine xgs S hB.z0 hS kw_1_144 rfl dX5_suits_70 ?_
              refine lv_iload_n hx hb dX5_suits_73 rfl (lv_at hl 1 rfl) ?_
              have h_74 := hok.1
              have hok := hok.2
              refine xti (v := (tROLE_A (a1 : Int32).toNatClampNeg)) S hB.t0 hS h_74 rfl dX5_suits_74 ?_
              refine lv_iload_n hx hb dX5_suits_75 rfl (lv_at hl 2 rfl) ?_
              refine xgs S hB.z2 hS kw_2_38 rfl dX5_suits_76 ?_
              refine lv_iload_n hx hb dX5_suits_79 rfl (lv_at hl 1 rfl) ?_
              have h_80 := hok.1
              have hok := hok.2
              refine xti (v := (tROLE_C (a1 : Int32).toNatClampNeg)) S hB.t2 hS h_80 rfl dX5_suits_80 ?_
              refine lv_iload hx hb dX5_suits_81 (lv_at hl 4 rfl) ?_
              refine ySi (As := [.int (tROLE_A (a1 : Int32).toNatClampNeg), .int a2, .int (tROLE_C (a1 : Int32).toNatClampNeg), .int a4]) (cw := (cW o u cI cZ cJ T)) S (v_X5_isSamePart l D cI cZ cJ o u T ra ga σ7 (tROLE_A (a1 : Int32).toNatClampNeg) a2 (tROLE_C (a1 : Int32).toNatClampNeg) a4 _ H.size hok) ms_X5_isSamePart kw_6_94 rfl rfl ⟨Nat.le_of_ble_eq_true rfl, Nat.le_of_ble_eq_true rfl⟩ hP hD hK hS hA hB hl.1 (Nat.le_of_ble_eq_true rfl) ⟨Nat.le_of_ble_eq_true rfl, Nat.le_of_ble_eq_true rfl⟩ dX5_suits_83 (fun x10 σ9 H locs hok hz hP hD hS => ?_)
              refine lv_if_ne (tgt := 112) hx hb dX5_suits_86 (by decide) (fun c_86 => ?_) (fun c_86 => ?_)
              · have hok := hok.2 c_86
                refine lv_iconst (v := 0) hx hb dX5_suits_112 (by decide) ?_
                exact yEndZ S hr hlocks hP hD hS (Nat.le_of_ble_eq_true rfl) (Nat.le_of_ble_eq_true rfl) dX5_suits_113 rfl hok
              · have hok := hok.1 c_86
                refine xgs S hB.z1 hS kw_2_44 rfl dX5_suits_89 ?_
                refine lv_iload_n hx hb dX5_suits_92 rfl (lv_at hl 1 rfl) ?_
                have h_93 := hok.1
                have hok := hok.2
                refine xti (v := (tROLE_B (a1 : Int32).toNatClampNeg)) S hB.t1 hS h_93 rfl dX5_suits_93 ?_
                refine lv_iload_n hx hb dX5_suits_94 rfl (lv_at hl 3 rfl) ?_
                refine xgs S hB.z2 hS kw_2_38 rfl dX5_suits_95 ?_
                refine lv_iload_n hx hb dX5_suits_98 rfl (lv_at hl 1 rfl) ?_
                have h_99 := hok.1
                have hok := hok.2
                refine xti (v := (tROLE_C (a1 : Int32).toNatClampNeg)) S hB.t2 hS h_99 rfl dX5_suits_99 ?_
                refine lv_iload hx hb dX5_suits_100 (lv_at hl 4 rfl) ?_
                refine ySi (As := [.int (tROLE_B (a1 : Int32).toNatClampNeg), .int a3, .int (tROLE_C (a1 : Int32).toNatClampNeg), .int a4]) (cw := (cW o u cI cZ cJ T)) S (v_X5_isSamePart l D cI cZ cJ o u T ra ga σ9 (tROLE_B (a1 : Int32).toNatClampNeg) a3 (tROLE_C (a1 : Int32).toNatClampNeg) a4 _ H.size hok) ms_X5_isSamePart kw_6_94 rfl rfl ⟨Nat.le_of_ble_eq_true rfl, Nat.le_of_ble_eq_true rfl⟩ hP hD hK hS hA hB hl.1 (Nat.le_of_ble_eq_true rfl) ⟨Nat.le_of_ble_eq_true rfl, Nat.le_of_ble_eq_true rfl⟩ dX5_suits_102 (fun x12 σ11 H locs hok hz hP hD hS => ?_)
                refine lv_if_ne (tgt := 112) hx hb dX5_suits_105 (by decide) (fun c_105 => ?_) (fun c_105 => ?_)
                · have hok := hok.2 c_105
                  refine lv_iconst (v := 0) hx hb dX5_suits_112 (by decide) ?_
                  exact yEndZ S hr hlocks hP hD hS (Nat.le_of_ble_eq_true rfl) (Nat.le_of_ble_eq_true rfl) dX5_suits_113 rfl hok
                · have hok := hok.1 c_105
                  refine lv_iconst (v := 1) hx hb dX5_suits_108 (by decide) ?_
                  refine lv_goto (tgt := 113) hx hb dX5_suits_109 (by decide) ?_
                  exact yEndZ S hr hlocks hP hD hS (Nat.le_of_ble_eq_true rfl) (Nat.le_of_ble_eq_true rfl) dX5_suits_113 rfl hok
    · have hok := hok.2 c_7
      refine lv_iconst (v := 0) hx hb dX5_suits_10 (by decide) ?_
      exact yEndZ S hr hlocks hP hD hS (Nat.le_of_ble_eq_true rfl) (Nat.le_of_ble_eq_true rfl) dX5_suits_11 rfl hok

set_option maxHeartbeats 8000000 in
set_option maxRecDepth 100000 in
theorem v_X5_claim (l : Launch) (D : va_G) (cI cZ cJ : ClassId) (o : Nat) (u : Nat → Nat) (T : Nat) (ra : Nat → Nat) (ga : SG) (σ : FS) (a1 : Int32) (a2 : Int32) (Φ : FS → Prop) (sz : Nat) (hok : (wp_X5_claim σ a1 a2 Φ)) : Met l yX5_claim (uW yX5_claim cX5_claim 3 none) ({ frames := 0, cells := 0, slots := 0, locals := 0 }) (va_Pc [.ref (u 12), .int a1, .int a2] (aS ra ga D (tyL cI cZ cJ) (cW o u cI cZ cJ T σ) sz)) (yQv Φ D (cW o u cI cZ cJ T) (va_A (cW o u cI cZ cJ T σ) sz)) 0 0 (va_A (cW o u cI cZ cJ T σ) sz) := by
  refine aStart (lv := [(0, .ref (u 12)), (1, .int a1), (2, .int a2)]) (Qc := fun A => yQv Φ D (cW o u cI cZ cJ T) A) (by decide) (Nat.le_of_ble_eq_true rfl) rfl ?_
  intro p e s m args below meth c ls A H S hr hlocks hnm hl hK hP hD hS hA hB
  have hx := S.1
  have hb := S.2.1
  refine lv_iload_n hx hb dX5_claim_0 rfl (lv_at hl 1 rfl) ?_
  refine lv_iconst (v := (-1)) hx hb dX5_claim_1 (by decide) ?_
  refine lv_icmp_eq (tgt := 12) hx hb dX5_claim_2 (by decide) (fun c_2 => ?_) (fun c_2 => ?_)
  · have hok := hok.1 c_2
    exact yEndv S hr hlocks hP hD hS (Nat.le_of_ble_eq_true rfl) (Nat.le_of_ble_eq_true rfl) dX5_claim_12 hok
  · have hok := hok.2 c_2
    refine lv_aload_n hx hb dX5_claim_5 rfl (lv_at hl 0 rfl) ?_
    refine xg (ci := 5) S inX5 rfl hK hP cW_13 5 (by decide) rfl kw_4_60 rfl dX5_claim_6 ?_
    refine lv_iload_n hx hb dX5_claim_9 rfl (lv_at hl 1 rfl) ?_
    refine lv_iload_n hx hb dX5_claim_10 rfl (lv_at hl 2 rfl) ?_
    have h_11 := hok.1
    have hok := hok.2
    refine yiast (t0 := 0) (cw := (cW o u cI cZ cJ T)) S hK hP hD hS cW_18 rfl h_11 dX5_claim_11 cWa_18 (fun σ1 H locs eσ1 hP hD hS => ?_)
    have hok := hok σ1 eσ1
    exact yEndv S hr hlocks hP hD hS (Nat.le_of_ble_eq_true rfl) (Nat.le_of_ble_eq_true rfl) dX5_claim_12 hok

set_option maxHeartbeats 8000000 in
set_option maxRecDepth 100000 in
theorem v_X5_add (l : Launch) (D : va_G) (cI cZ cJ : ClassId) (o : Nat) (u : Nat → Nat) (T : Nat) (ra : Nat → Nat) (ga : SG) (σ : FS) (a1 : Int32) (a2 : Int32) (a3 : Int32) (a4 : Int32) (Φ : Int32 → FS → Prop) (sz : Nat) (hok : (wp_X5_add σ a1 a2 a3 a4 Φ)) : Met l yX5_add (uW yX5_add cX5_add 6 (some .int)) ({ frames := 1, cells := 0, slots := 0, locals := 22 }) (va_Pc [.ref (u 12), .int a1, .int a2, .int a3, .int a4] (aS ra ga D (tyL cI cZ cJ) (cW o u cI cZ cJ T σ) sz)) (yQi Φ D (cW o u cI cZ cJ T) (va_A (cW o u cI cZ cJ T σ) sz)) 0 0 (va_A (cW o u cI cZ cJ T σ) sz) := by
  refine aStart (lv := [(0, .ref (u 12)), (1, .int a1), (2, .int a2), (3, .int a3), (4, .int a4)]) (Qc := fun A => yQi Φ D (cW o u cI cZ cJ T) A) (by decide) (Nat.le_of_ble_eq_true rfl) rfl ?_
  intro p e s m args below meth c ls A H S hr hlocks hnm hl hK hP hD hS hA hB
  have hx := S.1
  have hb := S.2.1
  refine lv_aload_n hx hb dX5_add_0 rfl (lv_at hl 0 rfl) ?_
  refine xg (ci := 5) S inX5 rfl hK hP cW_13 0 (by decide) rfl kw_4_37 rfl dX5_add_1 ?_
  refine lv_topi (fun x1 ex1 => ?_)
  have hok := hok x1 ex1
  refine lv_istore (lv' := [(5, .int x1), (0, .ref (u 12)), (1, .int a1), (2, .int a2), (3, .int a3), (4, .int a4)]) hx hb dX5_add_4 hl (by decide) rfl (fun ls hl => ?_)
  refine lv_aload_n hx hb dX5_add_6 rfl (lv_at hl 1 rfl) ?_
  refine lv_dup hx hb dX5_add_7 rfl ?_
  refine xg (ci := 5) S inX5 rfl hK hP cW_13 0 (by decide) rfl kw_4_37 rfl dX5_add_8 ?_
  refine lv_iconst (v := 1) hx hb dX5_add_11 (by decide) ?_
  refine xiadd (v := (σ.1 13 0) + 1) S dX5_add_12 rfl ?_
  refine yp (ci := 5) (v := .int ((σ.1 13 0) + 1)) (cw := (cW o u cI cZ cJ T)) S inX5 tyX5 tyX5_ok nmX5 rfl hK hP hD hS cW_13 0 (by decide) kw_4_37 rfl rfl rfl rfl (Nat.le_of_ble_eq_true rfl) dX5_add_13 cWp_13_0 (fun σ2 H locs eσ2 hP hD hS => ?_)
  have hok := hok σ2 eσ2
  refine lv_aload_n hx hb dX5_add_16 rfl (lv_at hl 1 rfl) ?_
  refine xg (ci := 5) S inX5 rfl hK hP cW_13 1 (by decide) rfl kw_4_41 rfl dX5_add_17 ?_
  refine lv_iload hx hb dX5_add_20 (lv_at hl 0 rfl) ?_
  refine lv_iload_n hx hb dX5_add_22 rfl (lv_at hl 2 rfl) ?_
  have h_23 := hok.1
  have hok := hok.2
  refine yiast (t0 := 0) (cw := (cW o u cI cZ cJ T)) S hK hP hD hS cW_14 rfl h_23 dX5_add_23 cWa_14 (fun σ3 H locs eσ3 hP hD hS => ?_)
  have hok := hok σ3 eσ3
  refine lv_aload_n hx hb dX5_add_24 rfl (lv_at hl 1 rfl) ?_
  refine xg (ci := 5) S inX5 rfl hK hP cW_13 2 (by decide) rfl kw_4_46 rfl dX5_add_25 ?_
  refine lv_iload hx hb dX5_add_28 (lv_at hl 0 rfl) ?_
  refine lv_iload_n hx hb dX5_add_30 rfl (lv_at hl 3 rfl) ?_
  have h_31 := hok.1
  have hok := hok.2
  refine yiast (t0 := 0) (cw := (cW o u cI cZ cJ T)) S hK hP hD hS cW_15 rfl h_31 dX5_add_31 cWa_15 (fun σ4 H locs eσ4 hP hD hS => ?_)
  have hok := hok σ4 eσ4
  refine lv_aload_n hx hb dX5_add_32 rfl (lv_at hl 1 rfl) ?_
  refine xg (ci := 5) S inX5 rfl hK hP cW_13 3 (by decide) rfl kw_4_50 rfl dX5_add_33 ?_
  refine lv_iload hx hb dX5_add_36 (lv_at hl 0 rfl) ?_
  refine lv_iload_n hx hb dX5_add_38 rfl (lv_at hl 4 rfl) ?_
  have h_39 := hok.1
  have hok := hok.2
  refine yiast (t0 := 0) (cw := (cW o u cI cZ cJ T)) S hK hP hD hS cW_16 rfl h_39 dX5_add_39 cWa_16 (fun σ5 H locs eσ5 hP hD hS => ?_)
  have hok := hok σ5 eσ5
  refine lv_aload_n hx hb dX5_add_40 rfl (lv_at hl 1 rfl) ?_
  refine xg (ci := 5) S inX5 rfl hK hP cW_13 4 (by decide) rfl kw_4_55 rfl dX5_add_41 ?_
  refine lv_iload hx hb dX5_add_44 (lv_at hl 0 rfl) ?_
  refine lv_iload hx hb dX5_add_46 (lv_at hl 5 rfl) ?_
  have h_48 := hok.1
  have hok := hok.2
  refine yiast (t0 := 0) (cw := (cW o u cI cZ cJ T)) S hK hP hD hS cW_17 rfl h_48 dX5_add_48 cWa_17 (fun σ6 H locs eσ6 hP hD hS => ?_)
  have hok := hok σ6 eσ6
  refine lv_aload_n hx hb dX5_add_49 rfl (lv_at hl 1 rfl) ?_
  refine xg (ci := 5) S inX5 rfl hK hP cW_13 5 (by decide) rfl kw_4_60 rfl dX5_add_50 ?_
  refine lv_iload hx hb dX5_add_53 (lv_at hl 0 rfl) ?_
  refine lv_iconst (v := (-1)) hx hb dX5_add_55 (by decide) ?_
  have h_56 := hok.1
  have hok := hok.2
  refine yiast (t0 := 0) (cw := (cW o u cI cZ cJ T)) S hK hP hD hS cW_18 rfl h_56 dX5_add_56 cWa_18 (fun σ7 H locs eσ7 hP hD hS => ?_)
  have hok := hok σ7 eσ7
  refine lv_aload_n hx hb dX5_add_57 rfl (lv_at hl 1 rfl) ?_
  refine xg (ci := 5) S inX5 rfl hK hP cW_13 6 (by decide) rfl kw_4_64 rfl dX5_add_58 ?_
  refine lv_iload hx hb dX5_add_61 (lv_at hl 0 rfl) ?_
  refine lv_iconst (v := (-1)) hx hb dX5_add_63 (by decide) ?_
  have h_64 := hok.1
  have hok := hok.2
  refine yiast (t0 := 0) (cw := (cW o u cI cZ cJ T)) S hK hP hD hS cW_19 rfl h_64 dX5_add_64 cWa_19 (fun σ8 H locs eσ8 hP hD hS => ?_)
  have hok := hok σ8 eσ8
  refine lv_aload_n hx hb dX5_add_65 rfl (lv_at hl 1 rfl) ?_
  refine lv_aload_n hx hb dX5_add_66 rfl (lv_at hl 1 rfl) ?_
  refine lv_iload hx hb dX5_add_67 (lv_at hl 0 rfl) ?_
  refine yVi (As := [.int x1]) (cw := (cW o u cI cZ cJ T)) (ci := 5) S (v_X5_partA l D cI cZ cJ o u T ra ga σ8 x1 _ H.size hok) mi_X5_partA kw_6_101 rfl rfl ⟨Nat.le_of_ble_eq_true rfl, Nat.le_of_ble_eq_true rfl⟩ hP hD hK hS hA hB cW_13 rfl rfl hl.1 (Nat.le_of_ble_eq_true rfl) ⟨Nat.le_of_ble_eq_true rfl, Nat.le_of_ble_eq_true rfl⟩ dX5_add_69 (fun x10 σ9 H locs hok hz hP hD hS => ?_)
  refine lv_iload hx hb dX5_add_72 (lv_at hl 0 rfl) ?_
  refine yVv (As := [.int x10, .int x1]) (cw := (cW o u cI cZ cJ T)) (ci := 5) S (v_X5_claim l D cI cZ cJ o u T ra ga σ9 x10 x1 _ H.size hok) mi_X5_claim kw_6_102 rfl rfl ⟨Nat.le_of_ble_eq_true rfl, Nat.le_of_ble_eq_true rfl⟩ hP hD hK hS hA hB cW_13 rfl rfl hl.1 (Nat.le_of_ble_eq_true rfl) ⟨Nat.le_of_ble_eq_true rfl, Nat.le_of_ble_eq_true rfl⟩ dX5_add_74 (fun σ11 H locs hok hz hP hD hS => ?_)
  refine lv_aload_n hx hb dX5_add_77 rfl (lv_at hl 1 rfl) ?_
  refine lv_aload_n hx hb dX5_add_78 rfl (lv_at hl 1 rfl) ?_
  refine lv_iload hx hb dX5_add_79 (lv_at hl 0 rfl) ?_
  refine yVi (As := [.int x1]) (cw := (cW o u cI cZ cJ T)) (ci := 5) S (v_X5_partB l D cI cZ cJ o u T ra ga σ11 x1 _ H.size hok) mi_X5_partB kw_6_106 rfl rfl ⟨Nat.le_of_ble_eq_true rfl, Nat.le_of_ble_eq_true rfl⟩ hP hD hK hS hA hB cW_13 rfl rfl hl.1 (Nat.le_of_ble_eq_true rfl) ⟨Nat.le_of_ble_eq_true rfl, Nat.le_of_ble_eq_true rfl⟩ dX5_add_81 (fun x13 σ12 H locs hok hz hP hD hS => ?_)
  refine lv_iload hx hb dX5_add_84 (lv_at hl 0 rfl) ?_
  refine yVv (As := [.int x13, .int x1]) (cw := (cW o u cI cZ cJ T)) (ci := 5) S (v_X5_claim l D cI cZ cJ o u T ra ga σ12 x13 x1 _ H.size hok) mi_X5_claim kw_6_102 rfl rfl ⟨Nat.le_of_ble_eq_true rfl, Nat.le_of_ble_eq_true rfl⟩ hP hD hK hS hA hB cW_13 rfl rfl hl.1 (Nat.le_of_ble_eq_true rfl) ⟨Nat.le_of_ble_eq_true rfl, Nat.le_of_ble_eq_true rfl⟩ dX5_add_86 (fun σ14 H locs hok hz hP hD hS => ?_)
  refine lv_aload_n hx hb dX5_add_89 rfl (lv_at hl 1 rfl) ?_
  refine lv_aload_n hx hb dX5_add_90 rfl (lv_at hl 1 rfl) ?_
  refine lv_iload hx hb dX5_add_91 (lv_at hl 0 rfl) ?_
  refine yVi (As := [.int x1]) (cw := (cW o u cI cZ cJ T)) (ci := 5) S (v_X5_partC l D cI cZ cJ o u T ra ga σ14 x1 _ H.size hok) mi_X5_partC kw_6_107 rfl rfl ⟨Nat.le_of_ble_eq_true rfl, Nat.le_of_ble_eq_true rfl⟩ hP hD hK hS hA hB cW_13 rfl rfl hl.1 (Nat.le_of_ble_eq_true rfl) ⟨Nat.le_of_ble_eq_true rfl, Nat.le_of_ble_eq_true rfl⟩ dX5_add_93 (fun x16 σ15 H locs hok hz hP hD hS => ?_)
  refine lv_iload hx hb dX5_add_96 (lv_at hl 0 rfl) ?_
  refine yVv (As := [.int x16, .int x1]) (cw := (cW o u cI cZ cJ T)) (ci := 5) S (v_X5_claim l D cI cZ cJ o u T ra ga σ15 x16 x1 _ H.size hok) mi_X5_claim kw_6_102 rfl rfl ⟨Nat.le_of_ble_eq_true rfl, Nat.le_of_ble_eq_true rfl⟩ hP hD hK hS hA hB cW_13 rfl rfl hl.1 (Nat.le_of_ble_eq_true rfl) ⟨Nat.le_of_ble_eq_true rfl, Nat.le_of_ble_eq_true rfl⟩ dX5_add_98 (fun σ17 H locs hok hz hP hD hS => ?_)
  refine lv_iload hx hb dX5_add_101 (lv_at hl 0 rfl) ?_
  exact yEnd S hr hlocks hP hD hS (Nat.le_of_ble_eq_true rfl) (Nat.le_of_ble_eq_true rfl) dX5_add_103 hok

set_option maxHeartbeats 8000000 in
set_option maxRecDepth 100000 in
theorem v_X8_node (l : Launch) (D : va_G) (cI cZ cJ : ClassId) (o : Nat) (u : Nat → Nat) (T : Nat) (ra : Nat → Nat) (ga : SG) (σ : FS) (a1 : Int32) (a2 : Int32) (a3 : Int32) (a4 : Int32) (Φ : Int32 → FS → Prop) (sz : Nat) (hok : (wp_X8_node σ a1 a2 a3 a4 Φ)) : Met l yX8_node (uW yX8_node cX8_node 5 (some .int)) ({ frames := 4, cells := 0, slots := 0, locals := 89 }) (va_Pc [.ref o, .int a1, .int a2, .int a3, .int a4] (aS ra ga D (tyL cI cZ cJ) (cW o u cI cZ cJ T σ) sz)) (yQi Φ D (cW o u cI cZ cJ T) (va_A (cW o u cI cZ cJ T σ) sz)) 0 0 (va_A (cW o u cI cZ cJ T σ) sz) := by
  refine aStart (lv := [(0, .ref o), (1, .int a1), (2, .int a2), (3, .int a3), (4, .int a4)]) (Qc := fun A => yQi Φ D (cW o u cI cZ cJ T) A) (by decide) (Nat.le_of_ble_eq_true rfl) rfl ?_
  intro p e s m args below meth c ls A H S hr hlocks hnm hl hK hP hD hS hA hB
  have hx := S.1
  have hb := S.2.1
  refine lv_aload_n hx hb dX8_node_0 rfl (lv_at hl 0 rfl) ?_
  refine xg (ci := 8) S inX8 rfl hK hP cW_0 1 (by decide) rfl kw_5_184 rfl dX8_node_1 ?_
  refine lv_iload_n hx hb dX8_node_4 rfl (lv_at hl 1 rfl) ?_
  refine lv_iload_n hx hb dX8_node_5 rfl (lv_at hl 2 rfl) ?_
  refine lv_iload_n hx hb dX8_node_6 rfl (lv_at hl 3 rfl) ?_
  refine lv_iload hx hb dX8_node_7 (lv_at hl 4 rfl) ?_
  refine yVi (As := [.int a1, .int a2, .int a3, .int a4]) (cw := (cW o u cI cZ cJ T)) (ci := 5) S (v_X5_suits l D cI cZ cJ o u T ra ga σ a1 a2 a3 a4 _ H.size hok) mi_X5_suits kw_6_77 rfl rfl ⟨Nat.le_of_ble_eq_true rfl, Nat.le_of_ble_eq_true rfl⟩ hP hD hK hS hA hB cW_13 rfl rfl hl.1 (Nat.le_of_ble_eq_true rfl) ⟨Nat.le_of_ble_eq_true rfl, Nat.le_of_ble_eq_true rfl⟩ dX8_node_9 (fun x2 σ1 H locs hok hz hP hD hS => ?_)
  refine ySv (As := [.int x2]) (cw := (cW o u cI cZ cJ T)) S (v_X8_needArgument l D cI cZ cJ o u T ra ga σ1 x2 _ H.size hok) ms_X8_needArgument kw_1_104 rfl rfl ⟨Nat.le_of_ble_eq_true rfl, Nat.le_of_ble_eq_true rfl⟩ hP hD hK hS hA hB hl.1 (Nat.le_of_ble_eq_true rfl) ⟨Nat.le_of_ble_eq_true rfl, Nat.le_of_ble_eq_true rfl⟩ dX8_node_12 (fun σ3 H locs hok hz hP hD hS => ?_)
  refine lv_aload_n hx hb dX8_node_15 rfl (lv_at hl 0 rfl) ?_
  refine xg (ci := 8) S inX8 rfl hK hP cW_0 1 (by decide) rfl kw_5_184 rfl dX8_node_16 ?_
  refine xg (ci := 5) S inX5 rfl hK hP cW_13 0 (by decide) rfl kw_4_40 rfl dX8_node_19 ?_
  refine lv_bipush (v := 110) hx hb dX8_node_22 (by decide) ?_
  refine lv_icmp_ge (tgt := 31) hx hb dX8_node_24 (by decide) (fun c_24 => ?_) (fun c_24 => ?_)
  · have hok := hok.1 c_24
    refine lv_iconst (v := 0) hx hb dX8_node_31 (by decide) ?_
    exact False.elim hok
  · have hok := hok.2 c_24
    refine lv_iconst (v := 1) hx hb dX8_node_27 (by decide) ?_
    refine lv_goto (tgt := 32) hx hb dX8_node_28 (by decide) ?_
    refine ySv (As := [.int 1]) (cw := (cW o u cI cZ cJ T)) S (v_X8_needState l D cI cZ cJ o u T ra ga σ3 1 _ H.size hok) ms_X8_needState kw_2_163 rfl rfl ⟨Nat.le_of_ble_eq_true rfl, Nat.le_of_ble_eq_true rfl⟩ hP hD hK hS hA hB hl.1 (Nat.le_of_ble_eq_true rfl) ⟨Nat.le_of_ble_eq_true rfl, Nat.le_of_ble_eq_true rfl⟩ dX8_node_32 (fun σ4 H locs hok hz hP hD hS => ?_)
    refine lv_aload_n hx hb dX8_node_35 rfl (lv_at hl 0 rfl) ?_
    refine lv_iconst (v := 1) hx hb dX8_node_36 (by decide) ?_
    refine yp (ci := 8) (v := .int 1) (cw := (cW o u cI cZ cJ T)) S inX8 tyX8 tyX8_ok nmX8 rfl hK hP hD hS cW_0 9 (by decide) kw_5_192 rfl rfl rfl rfl (Nat.le_of_ble_eq_true rfl) dX8_node_37 cWp_0_9 (fun σ5 H locs eσ5 hP hD hS => ?_)
    have hok := hok σ5 eσ5
    refine lv_aload_n hx hb dX8_node_40 rfl (lv_at hl 0 rfl) ?_
    refine xg (ci := 8) S inX8 rfl hK hP cW_0 1 (by decide) rfl kw_5_184 rfl dX8_node_41 ?_
    refine lv_iload_n hx hb dX8_node_44 rfl (lv_at hl 1 rfl) ?_
    refine lv_iload_n hx hb dX8_node_45 rfl (lv_at hl 2 rfl) ?_
    refine lv_iload_n hx hb dX8_node_46 rfl (lv_at hl 3 rfl) ?_
    refine lv_iload hx hb dX8_node_47 (lv_at hl 4 rfl) ?_
    refine yVi (As := [.int a1, .int a2, .int a3, .int a4]) (cw := (cW o u cI cZ cJ T)) (ci := 5) S (v_X5_add l D cI cZ cJ o u T ra ga σ5 a1 a2 a3 a4 _ H.size hok) mi_X5_add kw_6_97 rfl rfl ⟨Nat.le_of_ble_eq_true rfl, Nat.le_of_ble_eq_true rfl⟩ hP hD hK hS hA hB cW_13 rfl rfl hl.1 (Nat.le_of_ble_eq_true rfl) ⟨Nat.le_of_ble_eq_true rfl, Nat.le_of_ble_eq_true rfl⟩ dX8_node_49 (fun x7 σ6 H locs hok hz hP hD hS => ?_)
    exact yEnd S hr hlocks hP hD hS (Nat.le_of_ble_eq_true rfl) (Nat.le_of_ble_eq_true rfl) dX8_node_52 hok

set_option maxHeartbeats 8000000 in
set_option maxRecDepth 100000 in
theorem v_X8_body (l : Launch) (D : va_G) (cI cZ cJ : ClassId) (o : Nat) (u : Nat → Nat) (T : Nat) (ra : Nat → Nat) (ga : SG) (σ : FS) (a1 : Int32) (a2 : Int32) (Φ : Int32 → FS → Prop) (sz : Nat) (hok : (wp_X8_body σ a1 a2 Φ)) : Met l yX8_body (uW yX8_body cX8_body 4 (some .int)) ({ frames := 2, cells := 0, slots := 0, locals := 42 }) (va_Pc [.ref o, .int a1, .int a2] (aS ra ga D (tyL cI cZ cJ) (cW o u cI cZ cJ T σ) sz)) (yQi Φ D (cW o u cI cZ cJ T) (va_A (cW o u cI cZ cJ T σ) sz)) 0 0 (va_A (cW o u cI cZ cJ T σ) sz) := by
  refine aStart (lv := [(0, .ref o), (1, .int a1), (2, .int a2)]) (Qc := fun A => yQi Φ D (cW o u cI cZ cJ T) A) (by decide) (Nat.le_of_ble_eq_true rfl) rfl ?_
  intro p e s m args below meth c ls A H S hr hlocks hnm hl hK hP hD hS hA hB
  have hx := S.1
  have hb := S.2.1
  refine lv_aload_n hx hb dX8_body_0 rfl (lv_at hl 0 rfl) ?_
  refine lv_iload_n hx hb dX8_body_1 rfl (lv_at hl 1 rfl) ?_
  refine yVv (As := [.int a1]) (cw := (cW o u cI cZ cJ T)) (ci := 8) S (v_X8_needProcedure l D cI cZ cJ o u T ra ga σ a1 _ H.size hok) mi_X8_needProcedure kw_1_25 rfl rfl ⟨Nat.le_of_ble_eq_true rfl, Nat.le_of_ble_eq_true rfl⟩ hP hD hK hS hA hB cW_0 rfl rfl hl.1 (Nat.le_of_ble_eq_true rfl) ⟨Nat.le_of_ble_eq_true rfl, Nat.le_of_ble_eq_true rfl⟩ dX8_body_2 (fun σ1 H locs hok hz hP hD hS => ?_)
  refine lv_aload_n hx hb dX8_body_5 rfl (lv_at hl 0 rfl) ?_
  refine lv_iload_n hx hb dX8_body_6 rfl (lv_at hl 2 rfl) ?_
  refine yVv (As := [.int a2]) (cw := (cW o u cI cZ cJ T)) (ci := 8) S (v_X8_needNode l D cI cZ cJ o u T ra ga σ1 a2 _ H.size hok) mi_X8_needNode kw_2_146 rfl rfl ⟨Nat.le_of_ble_eq_true rfl, Nat.le_of_ble_eq_true rfl⟩ hP hD hK hS hA hB cW_0 rfl rfl hl.1 (Nat.le_of_ble_eq_true rfl) ⟨Nat.le_of_ble_eq_true rfl, Nat.le_of_ble_eq_true rfl⟩ dX8_body_7 (fun σ2 H locs hok hz hP hD hS => ?_)
  refine lv_aload_n hx hb dX8_body_10 rfl (lv_at hl 0 rfl) ?_
  refine xg (ci := 8) S inX8 rfl hK hP cW_0 1 (by decide) rfl kw_5_184 rfl dX8_body_11 ?_
  refine lv_iload_n hx hb dX8_body_14 rfl (lv_at hl 2 rfl) ?_
  refine yVi (As := [.int a2]) (cw := (cW o u cI cZ cJ T)) (ci := 5) S (v_X5_isStatement l D cI cZ cJ o u T ra ga σ2 a2 _ H.size hok) mi_X5_isStatement kw_2_155 rfl rfl ⟨Nat.le_of_ble_eq_true rfl, Nat.le_of_ble_eq_true rfl⟩ hP hD hK hS hA hB cW_13 rfl rfl hl.1 (Nat.le_of_ble_eq_true rfl) ⟨Nat.le_of_ble_eq_true rfl, Nat.le_of_ble_eq_true rfl⟩ dX8_body_15 (fun x4 σ3 H locs hok hz hP hD hS => ?_)
  refine ySv (As := [.int x4]) (cw := (cW o u cI cZ cJ T)) S (v_X8_needArgument l D cI cZ cJ o u T ra ga σ3 x4 _ H.size hok) ms_X8_needArgument kw_1_104 rfl rfl ⟨Nat.le_of_ble_eq_true rfl, Nat.le_of_ble_eq_true rfl⟩ hP hD hK hS hA hB hl.1 (Nat.le_of_ble_eq_true rfl) ⟨Nat.le_of_ble_eq_true rfl, Nat.le_of_ble_eq_true rfl⟩ dX8_body_18 (fun σ5 H locs hok hz hP hD hS => ?_)
  refine lv_aload_n hx hb dX8_body_21 rfl (lv_at hl 0 rfl) ?_
  refine xg (ci := 8) S inX8 rfl hK hP cW_0 1 (by decide) rfl kw_5_184 rfl dX8_body_22 ?_
  refine lv_iload_n hx hb dX8_body_25 rfl (lv_at hl 2 rfl) ?_
  refine yVi (As := [.int a2]) (cw := (cW o u cI cZ cJ T)) (ci := 5) S (v_X5_isFree l D cI cZ cJ o u T ra ga σ5 a2 _ H.size hok) mi_X5_isFree kw_2_159 rfl rfl ⟨Nat.le_of_ble_eq_true rfl, Nat.le_of_ble_eq_true rfl⟩ hP hD hK hS hA hB cW_13 rfl rfl hl.1 (Nat.le_of_ble_eq_true rfl) ⟨Nat.le_of_ble_eq_true rfl, Nat.le_of_ble_eq_true rfl⟩ dX8_body_26 (fun x7 σ6 H locs hok hz hP hD hS => ?_)
  refine ySv (As := [.int x7]) (cw := (cW o u cI cZ cJ T)) S (v_X8_needState l D cI cZ cJ o u T ra ga σ6 x7 _ H.size hok) ms_X8_needState kw_2_163 rfl rfl ⟨Nat.le_of_ble_eq_true rfl, Nat.le_of_ble_eq_true rfl⟩ hP hD hK hS hA hB hl.1 (Nat.le_of_ble_eq_true rfl) ⟨Nat.le_of_ble_eq_true rfl, Nat.le_of_ble_eq_true rfl⟩ dX8_body_29 (fun σ8 H locs hok hz hP hD hS => ?_)
  refine lv_aload_n hx hb dX8_body_32 rfl (lv_at hl 0 rfl) ?_
  refine lv_iconst (v := 1) hx hb dX8_body_33 (by decide) ?_
  refine yp (ci := 8) (v := .int 1) (cw := (cW o u cI cZ cJ T)) S inX8 tyX8 tyX8_ok nmX8 rfl hK hP hD hS cW_0 9 (by decide) kw_5_192 rfl rfl rfl rfl (Nat.le_of_ble_eq_true rfl) dX8_body_34 cWp_0_9 (fun σ9 H locs eσ9 hP hD hS => ?_)
  have hok := hok σ9 eσ9
  refine lv_aload_n hx hb dX8_body_37 rfl (lv_at hl 0 rfl) ?_
  refine xg (ci := 8) S inX8 rfl hK hP cW_0 0 (by decide) rfl kw_5_183 rfl dX8_body_38 ?_
  refine xg (ci := 1) S inX1 rfl hK hP cW_1 6 (by decide) rfl kw_3_233 rfl dX8_body_41 ?_
  refine lv_iload_n hx hb dX8_body_44 rfl (lv_at hl 1 rfl) ?_
  have h_45 := hok.1
  have hok := hok.2
  refine xiald (t0 := 0) (v := (g σ9 7 a1)) S hK hP cW_7 rfl h_45 rfl dX8_body_45 ?_
  refine lv_topi (fun x10 ex10 => ?_)
  have hok := hok x10 ex10
  refine lv_istore_n (lv' := [(3, .int x10), (0, .ref o), (1, .int a1), (2, .int a2)]) hx hb dX8_body_46 rfl hl (by decide) rfl (fun ls hl => ?_)
  refine lv_iload_n hx hb dX8_body_47 rfl (lv_at hl 0 rfl) ?_
  refine lv_iconst (v := (-1)) hx hb dX8_body_48 (by decide) ?_
  refine lv_icmp_eq (tgt := 62) hx hb dX8_body_49 (by decide) (fun c_49 => ?_) (fun c_49 => ?_)
  · have hok := hok.1 c_49
    refine lv_aload_n hx hb dX8_body_62 rfl (lv_at hl 1 rfl) ?_
    refine xg (ci := 8) S inX8 rfl hK hP cW_0 0 (by decide) rfl kw_5_183 rfl dX8_body_63 ?_
    refine xg (ci := 1) S inX1 rfl hK hP cW_1 6 (by decide) rfl kw_3_233 rfl dX8_body_66 ?_
    refine lv_iload_n hx hb dX8_body_69 rfl (lv_at hl 2 rfl) ?_
    refine lv_iload_n hx hb dX8_body_70 rfl (lv_at hl 3 rfl) ?_
    have h_71 := hok.1
    have hok := hok.2
    refine yiast (t0 := 0) (cw := (cW o u cI cZ cJ T)) S hK hP hD hS cW_7 rfl h_71 dX8_body_71 cWa_7 (fun σ11 H locs eσ11 hP hD hS => ?_)
    have hok := hok σ11 eσ11
    refine lv_aload_n hx hb dX8_body_72 rfl (lv_at hl 1 rfl) ?_
    refine xg (ci := 8) S inX8 rfl hK hP cW_0 1 (by decide) rfl kw_5_184 rfl dX8_body_73 ?_
    refine xg (ci := 5) S inX5 rfl hK hP cW_13 6 (by decide) rfl kw_4_66 rfl dX8_body_76 ?_
    refine lv_iload_n hx hb dX8_body_79 rfl (lv_at hl 3 rfl) ?_
    refine lv_iload_n hx hb dX8_body_80 rfl (lv_at hl 2 rfl) ?_
    have h_81 := hok.1
    have hok := hok.2
    refine yiast (t0 := 0) (cw := (cW o u cI cZ cJ T)) S hK hP hD hS cW_19 rfl h_81 dX8_body_81 cWa_19 (fun σ12 H locs eσ12 hP hD hS => ?_)
    have hok := hok σ12 eσ12
    refine lv_iload_n hx hb dX8_body_82 rfl (lv_at hl 0 rfl) ?_
    exact yEnd S hr hlocks hP hD hS (Nat.le_of_ble_eq_true rfl) (Nat.le_of_ble_eq_true rfl) dX8_body_83 hok
  · have hok := hok.2 c_49
    refine lv_aload_n hx hb dX8_body_52 rfl (lv_at hl 1 rfl) ?_
    refine xg (ci := 8) S inX8 rfl hK hP cW_0 1 (by decide) rfl kw_5_184 rfl dX8_body_53 ?_
    refine xg (ci := 5) S inX5 rfl hK hP cW_13 6 (by decide) rfl kw_4_66 rfl dX8_body_56 ?_
    refine lv_iload_n hx hb dX8_body_59 rfl (lv_at hl 0 rfl) ?_
    refine lv_iconst (v := (-1)) hx hb dX8_body_60 (by decide) ?_
    have h_61 := hok.1
    have hok := hok.2
    refine yiast (t0 := 0) (cw := (cW o u cI cZ cJ T)) S hK hP hD hS cW_19 rfl h_61 dX8_body_61 cWa_19 (fun σ13 H locs eσ13 hP hD hS => ?_)
    have hok := hok σ13 eσ13
    refine lv_aload_n hx hb dX8_body_62 rfl (lv_at hl 1 rfl) ?_
    refine xg (ci := 8) S inX8 rfl hK hP cW_0 0 (by decide) rfl kw_5_183 rfl dX8_body_63 ?_
    refine xg (ci := 1) S inX1 rfl hK hP cW_1 6 (by decide) rfl kw_3_233 rfl dX8_body_66 ?_
    refine lv_iload_n hx hb dX8_body_69 rfl (lv_at hl 2 rfl) ?_
    refine lv_iload_n hx hb dX8_body_70 rfl (lv_at hl 3 rfl) ?_
    have h_71 := hok.1
    have hok := hok.2
    refine yiast (t0 := 0) (cw := (cW o u cI cZ cJ T)) S hK hP hD hS cW_7 rfl h_71 dX8_body_71 cWa_7 (fun σ14 H locs eσ14 hP hD hS => ?_)
    have hok := hok σ14 eσ14
    refine lv_aload_n hx hb dX8_body_72 rfl (lv_at hl 1 rfl) ?_
    refine xg (ci := 8) S inX8 rfl hK hP cW_0 1 (by decide) rfl kw_5_184 rfl dX8_body_73 ?_
    refine xg (ci := 5) S inX5 rfl hK hP cW_13 6 (by decide) rfl kw_4_66 rfl dX8_body_76 ?_
    refine lv_iload_n hx hb dX8_body_79 rfl (lv_at hl 3 rfl) ?_
    refine lv_iload_n hx hb dX8_body_80 rfl (lv_at hl 2 rfl) ?_
    have h_81 := hok.1
    have hok := hok.2
    refine yiast (t0 := 0) (cw := (cW o u cI cZ cJ T)) S hK hP hD hS cW_19 rfl h_81 dX8_body_81 cWa_19 (fun σ15 H locs eσ15 hP hD hS => ?_)
    have hok := hok σ15 eσ15
    refine lv_iload_n hx hb dX8_body_82 rfl (lv_at hl 0 rfl) ?_
    exact yEnd S hr hlocks hP hD hS (Nat.le_of_ble_eq_true rfl) (Nat.le_of_ble_eq_true rfl) dX8_body_83 hok

set_option maxHeartbeats 8000000 in
set_option maxRecDepth 100000 in
theorem v_X8_isSizeOf (l : Launch) (D : va_G) (cI cZ cJ : ClassId) (o : Nat) (u : Nat → Nat) (T : Nat) (ra : Nat → Nat) (ga : SG) (σ : FS) (a1 : Int32) (a2 : Int32) (Φ : Int32 → FS → Prop) (sz : Nat) (hok : (wp_X8_isSizeOf σ a1 a2 Φ)) : Met l yX8_isSizeOf (uW yX8_isSizeOf cX8_isSizeOf 2 (some .boolean)) ({ frames := 0, cells := 0, slots := 0, locals := 0 }) (va_Pc [.int a1, .int a2] (aS ra ga D (tyL cI cZ cJ) (cW o u cI cZ cJ T σ) sz)) (yQi Φ D (cW o u cI cZ cJ T) (va_A (cW o u cI cZ cJ T σ) sz)) 0 0 (va_A (cW o u cI cZ cJ T σ) sz) := by
  refine aStart (lv := [(0, .int a1), (1, .int a2)]) (Qc := fun A => yQi Φ D (cW o u cI cZ cJ T) A) (by decide) (Nat.le_of_ble_eq_true rfl) rfl ?_
  intro p e s m args below meth c ls A H S hr hlocks hnm hl hK hP hD hS hA hB
  have hx := S.1
  have hb := S.2.1
  refine lv_iload_n hx hb dX8_isSizeOf_0 rfl (lv_at hl 0 rfl) ?_
  refine lv_bipush (v := 6) hx hb dX8_isSizeOf_1 (by decide) ?_
  refine xiadd (v := a1 + 6) S dX8_isSizeOf_3 rfl ?_
  refine lv_topi (fun x1 ex1 => ?_)
  have hok := hok x1 ex1
  by_cases k_4_0 : x1 = 6
  · have hok := hok.1 k_4_0
    rw [k_4_0]
    refine lv_tableIn (off := 32) (tgt := 36) hx hb dX8_isSizeOf_4 (by decide) (by decide) (by decide) (by decide) ?_
    refine lv_iload_n hx hb dX8_isSizeOf_36 rfl (lv_at hl 1 rfl) ?_
    refine lv_if_ne (tgt := 44) hx hb dX8_isSizeOf_37 (by decide) (fun c_37 => ?_) (fun c_37 => ?_)
    · have hok := hok.2 c_37
      refine lv_iconst (v := 0) hx hb dX8_isSizeOf_44 (by decide) ?_
      exact yEndZ S hr hlocks hP hD hS (Nat.le_of_ble_eq_true rfl) (Nat.le_of_ble_eq_true rfl) dX8_isSizeOf_45 rfl hok
    · have hok := hok.1 c_37
      refine lv_iconst (v := 1) hx hb dX8_isSizeOf_40 (by decide) ?_
      refine lv_goto (tgt := 45) hx hb dX8_isSizeOf_41 (by decide) ?_
      exact yEndZ S hr hlocks hP hD hS (Nat.le_of_ble_eq_true rfl) (Nat.le_of_ble_eq_true rfl) dX8_isSizeOf_45 rfl hok
  · have hok := hok.2 k_4_0
    by_cases k_4_1 : x1 = 7
    · have hok := hok.1 k_4_1
      rw [k_4_1]
      refine lv_tableIn (off := 42) (tgt := 46) hx hb dX8_isSizeOf_4 (by decide) (by decide) (by decide) (by decide) ?_
      refine lv_iload_n hx hb dX8_isSizeOf_46 rfl (lv_at hl 1 rfl) ?_
      refine lv_iconst (v := 1) hx hb dX8_isSizeOf_47 (by decide) ?_
      refine lv_icmp_lt (tgt := 61) hx hb dX8_isSizeOf_48 (by decide) (fun c_48 => ?_) (fun c_48 => ?_)
      · have hok := hok.1 c_48
        refine lv_iconst (v := 0) hx hb dX8_isSizeOf_61 (by decide) ?_
        exact yEndZ S hr hlocks hP hD hS (Nat.le_of_ble_eq_true rfl) (Nat.le_of_ble_eq_true rfl) dX8_isSizeOf_62 rfl hok
      · have hok := hok.2 c_48
        refine lv_iload_n hx hb dX8_isSizeOf_51 rfl (lv_at hl 1 rfl) ?_
        refine lv_bipush (v := 8) hx hb dX8_isSizeOf_52 (by decide) ?_
        refine lv_icmp_gt (tgt := 61) hx hb dX8_isSizeOf_54 (by decide) (fun c_54 => ?_) (fun c_54 => ?_)
        · have hok := hok.1 c_54
          refine lv_iconst (v := 0) hx hb dX8_isSizeOf_61 (by decide) ?_
          exact yEndZ S hr hlocks hP hD hS (Nat.le_of_ble_eq_true rfl) (Nat.le_of_ble_eq_true rfl) dX8_isSizeOf_62 rfl hok
        · have hok := hok.2 c_54
          refine lv_iconst (v := 1) hx hb dX8_isSizeOf_57 (by decide) ?_
          refine lv_goto (tgt := 62) hx hb dX8_isSizeOf_58 (by decide) ?_
          exact yEndZ S hr hlocks hP hD hS (Nat.le_of_ble_eq_true rfl) (Nat.le_of_ble_eq_true rfl) dX8_isSizeOf_62 rfl hok
    · have hok := hok.2 k_4_1
      by_cases k_4_2 : x1 = 8
      · have hok := hok.1 k_4_2
        rw [k_4_2]
        refine lv_tableIn (off := 32) (tgt := 36) hx hb dX8_isSizeOf_4 (by decide) (by decide) (by decide) (by decide) ?_
        refine lv_iload_n hx hb dX8_isSizeOf_36 rfl (lv_at hl 1 rfl) ?_
        refine lv_if_ne (tgt := 44) hx hb dX8_isSizeOf_37 (by decide) (fun c_37 => ?_) (fun c_37 => ?_)
        · have hok := hok.2 c_37
          refine lv_iconst (v := 0) hx hb dX8_isSizeOf_44 (by decide) ?_
          exact yEndZ S hr hlocks hP hD hS (Nat.le_of_ble_eq_true rfl) (Nat.le_of_ble_eq_true rfl) dX8_isSizeOf_45 rfl hok
        · have hok := hok.1 c_37
          refine lv_iconst (v := 1) hx hb dX8_isSizeOf_40 (by decide) ?_
          refine lv_goto (tgt := 45) hx hb dX8_isSizeOf_41 (by decide) ?_
          exact yEndZ S hr hlocks hP hD hS (Nat.le_of_ble_eq_true rfl) (Nat.le_of_ble_eq_true rfl) dX8_isSizeOf_45 rfl hok
      · have hok := hok.2 k_4_2
        by_cases k_4_3 : x1 = 9
        · have hok := hok.1 k_4_3
          rw [k_4_3]
          refine lv_tableIn (off := 59) (tgt := 63) hx hb dX8_isSizeOf_4 (by decide) (by decide) (by decide) (by decide) ?_
          refine lv_iload_n hx hb dX8_isSizeOf_63 rfl (lv_at hl 1 rfl) ?_
          refine lv_bipush (v := (-99)) hx hb dX8_isSizeOf_64 (by decide) ?_
          refine lv_icmp_lt (tgt := 79) hx hb dX8_isSizeOf_66 (by decide) (fun c_66 => ?_) (fun c_66 => ?_)
          · have hok := hok.1 c_66
            refine lv_iconst (v := 0) hx hb dX8_isSizeOf_79 (by decide) ?_
            exact yEndZ S hr hlocks hP hD hS (Nat.le_of_ble_eq_true rfl) (Nat.le_of_ble_eq_true rfl) dX8_isSizeOf_80 rfl hok
          · have hok := hok.2 c_66
            refine lv_iload_n hx hb dX8_isSizeOf_69 rfl (lv_at hl 1 rfl) ?_
            refine lv_bipush (v := 99) hx hb dX8_isSizeOf_70 (by decide) ?_
            refine lv_icmp_gt (tgt := 79) hx hb dX8_isSizeOf_72 (by decide) (fun c_72 => ?_) (fun c_72 => ?_)
            · have hok := hok.1 c_72
              refine lv_iconst (v := 0) hx hb dX8_isSizeOf_79 (by decide) ?_
              exact yEndZ S hr hlocks hP hD hS (Nat.le_of_ble_eq_true rfl) (Nat.le_of_ble_eq_true rfl) dX8_isSizeOf_80 rfl hok
            · have hok := hok.2 c_72
              refine lv_iconst (v := 1) hx hb dX8_isSizeOf_75 (by decide) ?_
              refine lv_goto (tgt := 80) hx hb dX8_isSizeOf_76 (by decide) ?_
              exact yEndZ S hr hlocks hP hD hS (Nat.le_of_ble_eq_true rfl) (Nat.le_of_ble_eq_true rfl) dX8_isSizeOf_80 rfl hok
        · have hok := hok.2 k_4_3
          have q_4_0 := sw_ni k_4_0 (z := 6) (by decide)
          have q_4_1 := sw_ni k_4_1 (z := 7) (by decide)
          have q_4_2 := sw_ni k_4_2 (z := 8) (by decide)
          have q_4_3 := sw_ni k_4_3 (z := 9) (by decide)
          refine lv_tableOut (tgt := 81) hx hb dX8_isSizeOf_4 (by omega) (by decide) ?_
          refine lv_iconst (v := 0) hx hb dX8_isSizeOf_81 (by decide) ?_
          exact yEndZ S hr hlocks hP hD hS (Nat.le_of_ble_eq_true rfl) (Nat.le_of_ble_eq_true rfl) dX8_isSizeOf_82 rfl hok

set_option maxHeartbeats 8000000 in
set_option maxRecDepth 100000 in
theorem v_X1_takesVariable (l : Launch) (D : va_G) (cI cZ cJ : ClassId) (o : Nat) (u : Nat → Nat) (T : Nat) (ra : Nat → Nat) (ga : SG) (σ : FS) (a1 : Int32) (a2 : Int32) (Φ : Int32 → FS → Prop) (sz : Nat) (hok : (wp_X1_takesVariable σ a1 a2 Φ)) : Met l yX1_takesVariable (uW yX1_takesVariable cX1_takesVariable 3 (some .boolean)) ({ frames := 1, cells := 0, slots := 0, locals := 22 }) (va_Pc [.ref (u 0), .int a1, .int a2] (aS ra ga D (tyL cI cZ cJ) (cW o u cI cZ cJ T σ) sz)) (yQi Φ D (cW o u cI cZ cJ T) (va_A (cW o u cI cZ cJ T σ) sz)) 0 0 (va_A (cW o u cI cZ cJ T σ) sz) := by
  refine aStart (lv := [(0, .ref (u 0)), (1, .int a1), (2, .int a2)]) (Qc := fun A => yQi Φ D (cW o u cI cZ cJ T) A) (by decide) (Nat.le_of_ble_eq_true rfl) rfl ?_
  intro p e s m args below meth c ls A H S hr hlocks hnm hl hK hP hD hS hA hB
  have hx := S.1
  have hb := S.2.1
  refine lv_aload_n hx hb dX1_takesVariable_0 rfl (lv_at hl 0 rfl) ?_
  refine xg (ci := 1) S inX1 rfl hK hP cW_1 4 (by decide) rfl kw_3_227 rfl dX1_takesVariable_1 ?_
  refine lv_iload_n hx hb dX1_takesVariable_4 rfl (lv_at hl 1 rfl) ?_
  have h_5 := hok.1
  have hok := hok.2
  refine xiald (t0 := 0) (v := (g σ 5 a1)) S hK hP cW_5 rfl h_5 rfl dX1_takesVariable_5 ?_
  refine lv_bipush (v := 6) hx hb dX1_takesVariable_6 (by decide) ?_
  refine lv_icmp_ge (tgt := 24) hx hb dX1_takesVariable_8 (by decide) (fun c_8 => ?_) (fun c_8 => ?_)
  · have hok := hok.1 c_8
    refine lv_iconst (v := 0) hx hb dX1_takesVariable_24 (by decide) ?_
    exact yEndZ S hr hlocks hP hD hS (Nat.le_of_ble_eq_true rfl) (Nat.le_of_ble_eq_true rfl) dX1_takesVariable_25 rfl hok
  · have hok := hok.2 c_8
    refine lv_aload_n hx hb dX1_takesVariable_11 rfl (lv_at hl 0 rfl) ?_
    refine lv_iload_n hx hb dX1_takesVariable_12 rfl (lv_at hl 1 rfl) ?_
    refine lv_iload_n hx hb dX1_takesVariable_13 rfl (lv_at hl 2 rfl) ?_
    refine yVi (As := [.int a1, .int a2]) (cw := (cW o u cI cZ cJ T)) (ci := 1) S (v_X1_declares l D cI cZ cJ o u T ra ga σ a1 a2 _ H.size hok) mi_X1_declares kw_1_150 rfl rfl ⟨Nat.le_of_ble_eq_true rfl, Nat.le_of_ble_eq_true rfl⟩ hP hD hK hS hA hB cW_1 rfl rfl hl.1 (Nat.le_of_ble_eq_true rfl) ⟨Nat.le_of_ble_eq_true rfl, Nat.le_of_ble_eq_true rfl⟩ dX1_takesVariable_14 (fun x2 σ1 H locs hok hz hP hD hS => ?_)
    refine lv_if_ne (tgt := 24) hx hb dX1_takesVariable_17 (by decide) (fun c_17 => ?_) (fun c_17 => ?_)
    · have hok := hok.2 c_17
      refine lv_iconst (v := 0) hx hb dX1_takesVariable_24 (by decide) ?_
      exact yEndZ S hr hlocks hP hD hS (Nat.le_of_ble_eq_true rfl) (Nat.le_of_ble_eq_true rfl) dX1_takesVariable_25 rfl hok
    · have hok := hok.1 c_17
      refine lv_iconst (v := 1) hx hb dX1_takesVariable_20 (by decide) ?_
      refine lv_goto (tgt := 25) hx hb dX1_takesVariable_21 (by decide) ?_
      exact yEndZ S hr hlocks hP hD hS (Nat.le_of_ble_eq_true rfl) (Nat.le_of_ble_eq_true rfl) dX1_takesVariable_25 rfl hok

set_option maxHeartbeats 8000000 in
set_option maxRecDepth 100000 in
theorem v_X1_declare (l : Launch) (D : va_G) (cI cZ cJ : ClassId) (o : Nat) (u : Nat → Nat) (T : Nat) (ra : Nat → Nat) (ga : SG) (σ : FS) (a1 : Int32) (a2 : Int32) (a3 : Int32) (a4 : Int32) (Φ : FS → Prop) (sz : Nat) (hok : (wp_X1_declare σ a1 a2 a3 a4 Φ)) : Met l yX1_declare (uW yX1_declare cX1_declare 6 none) ({ frames := 0, cells := 0, slots := 0, locals := 0 }) (va_Pc [.ref (u 0), .int a1, .int a2, .int a3, .int a4] (aS ra ga D (tyL cI cZ cJ) (cW o u cI cZ cJ T σ) sz)) (yQv Φ D (cW o u cI cZ cJ T) (va_A (cW o u cI cZ cJ T σ) sz)) 0 0 (va_A (cW o u cI cZ cJ T σ) sz) := by
  refine aStart (lv := [(0, .ref (u 0)), (1, .int a1), (2, .int a2), (3, .int a3), (4, .int a4)]) (Qc := fun A => yQv Φ D (cW o u cI cZ cJ T) A) (by decide) (Nat.le_of_ble_eq_true rfl) rfl ?_
  intro p e s m args below meth c ls A H S hr hlocks hnm hl hK hP hD hS hA hB
  have hx := S.1
  have hb := S.2.1
  refine lv_iload_n hx hb dX1_declare_0 rfl (lv_at hl 1 rfl) ?_
  refine lv_bipush (v := 16) hx hb dX1_declare_1 (by decide) ?_
  refine ximul (v := a1 * 16) S dX1_declare_3 rfl ?_
  refine lv_iload_n hx hb dX1_declare_4 rfl (lv_at hl 2 rfl) ?_
  refine xiadd (v := (a1 * 16) + a2) S dX1_declare_5 rfl ?_
  refine lv_topi (fun x1 ex1 => ?_)
  have hok := hok x1 ex1
  refine lv_istore (lv' := [(5, .int x1), (0, .ref (u 0)), (1, .int a1), (2, .int a2), (3, .int a3), (4, .int a4)]) hx hb dX1_declare_6 hl (by decide) rfl (fun ls hl => ?_)
  refine lv_aload_n hx hb dX1_declare_8 rfl (lv_at hl 1 rfl) ?_
  refine xg (ci := 1) S inX1 rfl hK hP cW_1 7 (by decide) rfl kw_3_235 rfl dX1_declare_9 ?_
  refine lv_iload hx hb dX1_declare_12 (lv_at hl 0 rfl) ?_
  refine lv_iload_n hx hb dX1_declare_14 rfl (lv_at hl 4 rfl) ?_
  have h_15 := hok.1
  have hok := hok.2
  refine yiast (t0 := 0) (cw := (cW o u cI cZ cJ T)) S hK hP hD hS cW_8 rfl h_15 dX1_declare_15 cWa_8 (fun σ2 H locs eσ2 hP hD hS => ?_)
  have hok := hok σ2 eσ2
  refine lv_aload_n hx hb dX1_declare_16 rfl (lv_at hl 1 rfl) ?_
  refine xg (ci := 1) S inX1 rfl hK hP cW_1 8 (by decide) rfl kw_3_237 rfl dX1_declare_17 ?_
  refine lv_iload hx hb dX1_declare_20 (lv_at hl 0 rfl) ?_
  refine lv_iconst (v := (-1)) hx hb dX1_declare_22 (by decide) ?_
  have h_23 := hok.1
  have hok := hok.2
  refine yiast (t0 := 0) (cw := (cW o u cI cZ cJ T)) S hK hP hD hS cW_9 rfl h_23 dX1_declare_23 cWa_9 (fun σ3 H locs eσ3 hP hD hS => ?_)
  have hok := hok σ3 eσ3
  refine lv_aload_n hx hb dX1_declare_24 rfl (lv_at hl 1 rfl) ?_
  refine xg (ci := 1) S inX1 rfl hK hP cW_1 9 (by decide) rfl kw_3_239 rfl dX1_declare_25 ?_
  refine lv_iload hx hb dX1_declare_28 (lv_at hl 0 rfl) ?_
  refine lv_iload hx hb dX1_declare_30 (lv_at hl 5 rfl) ?_
  have h_32 := hok.1
  have hok := hok.2
  refine yiast (t0 := 0) (cw := (cW o u cI cZ cJ T)) S hK hP hD hS cW_10 rfl h_32 dX1_declare_32 cWa_10 (fun σ4 H locs eσ4 hP hD hS => ?_)
  have hok := hok σ4 eσ4
  exact yEndv S hr hlocks hP hD hS (Nat.le_of_ble_eq_true rfl) (Nat.le_of_ble_eq_true rfl) dX1_declare_33 hok

set_option maxHeartbeats 8000000 in
set_option maxRecDepth 100000 in
theorem v_X1_declarePlace (l : Launch) (D : va_G) (cI cZ cJ : ClassId) (o : Nat) (u : Nat → Nat) (T : Nat) (ra : Nat → Nat) (ga : SG) (σ : FS) (a1 : Int32) (a2 : Int32) (a3 : Int32) (a4 : Int32) (Φ : Int32 → FS → Prop) (sz : Nat) (hok : (wp_X1_declarePlace σ a1 a2 a3 a4 Φ)) : Met l yX1_declarePlace (uW yX1_declarePlace cX1_declarePlace 6 (some .int)) ({ frames := 1, cells := 0, slots := 0, locals := 25 }) (va_Pc [.ref (u 0), .int a1, .int a2, .int a3, .int a4] (aS ra ga D (tyL cI cZ cJ) (cW o u cI cZ cJ T σ) sz)) (yQi Φ D (cW o u cI cZ cJ T) (va_A (cW o u cI cZ cJ T σ) sz)) 0 0 (va_A (cW o u cI cZ cJ T σ) sz) := by
  refine aStart (lv := [(0, .ref (u 0)), (1, .int a1), (2, .int a2), (3, .int a3), (4, .int a4)]) (Qc := fun A => yQi Φ D (cW o u cI cZ cJ T) A) (by decide) (Nat.le_of_ble_eq_true rfl) rfl ?_
  intro p e s m args below meth c ls A H S hr hlocks hnm hl hK hP hD hS hA hB
  have hx := S.1
  have hb := S.2.1
  refine lv_aload_n hx hb dX1_declarePlace_0 rfl (lv_at hl 0 rfl) ?_
  refine xg (ci := 1) S inX1 rfl hK hP cW_1 5 (by decide) rfl kw_3_229 rfl dX1_declarePlace_1 ?_
  refine lv_iload_n hx hb dX1_declarePlace_4 rfl (lv_at hl 1 rfl) ?_
  have h_5 := hok.1
  have hok := hok.2
  refine xiald (t0 := 0) (v := (g σ 6 a1)) S hK hP cW_6 rfl h_5 rfl dX1_declarePlace_5 ?_
  refine lv_topi (fun x1 ex1 => ?_)
  have hok := hok x1 ex1
  refine lv_istore (lv' := [(5, .int x1), (0, .ref (u 0)), (1, .int a1), (2, .int a2), (3, .int a3), (4, .int a4)]) hx hb dX1_declarePlace_6 hl (by decide) rfl (fun ls hl => ?_)
  refine lv_aload_n hx hb dX1_declarePlace_8 rfl (lv_at hl 1 rfl) ?_
  refine xg (ci := 1) S inX1 rfl hK hP cW_1 5 (by decide) rfl kw_3_229 rfl dX1_declarePlace_9 ?_
  refine lv_iload_n hx hb dX1_declarePlace_12 rfl (lv_at hl 2 rfl) ?_
  refine lv_dup2_11 hx hb dX1_declarePlace_13 rfl rfl ?_
  have h_14 := hok.1
  have hok := hok.2
  refine xiald (t0 := 0) (v := (g σ 6 a1)) S hK hP cW_6 rfl h_14 rfl dX1_declarePlace_14 ?_
  refine lv_iconst (v := 1) hx hb dX1_declarePlace_15 (by decide) ?_
  refine xiadd (v := (g σ 6 a1) + 1) S dX1_declarePlace_16 rfl ?_
  have h_17 := hok.1
  have hok := hok.2
  refine yiast (t0 := 0) (cw := (cW o u cI cZ cJ T)) S hK hP hD hS cW_6 rfl h_17 dX1_declarePlace_17 cWa_6 (fun σ2 H locs eσ2 hP hD hS => ?_)
  have hok := hok σ2 eσ2
  refine lv_aload_n hx hb dX1_declarePlace_18 rfl (lv_at hl 1 rfl) ?_
  refine lv_iload_n hx hb dX1_declarePlace_19 rfl (lv_at hl 2 rfl) ?_
  refine lv_iload_n hx hb dX1_declarePlace_20 rfl (lv_at hl 3 rfl) ?_
  refine lv_iload_n hx hb dX1_declarePlace_21 rfl (lv_at hl 4 rfl) ?_
  refine lv_iload hx hb dX1_declarePlace_22 (lv_at hl 5 rfl) ?_
  refine yVv (As := [.int a1, .int a2, .int a3, .int a4]) (cw := (cW o u cI cZ cJ T)) (ci := 1) S (v_X1_declare l D cI cZ cJ o u T ra ga σ2 a1 a2 a3 a4 _ H.size hok) mi_X1_declare kw_6_61 rfl rfl ⟨Nat.le_of_ble_eq_true rfl, Nat.le_of_ble_eq_true rfl⟩ hP hD hK hS hA hB cW_1 rfl rfl hl.1 (Nat.le_of_ble_eq_true rfl) ⟨Nat.le_of_ble_eq_true rfl, Nat.le_of_ble_eq_true rfl⟩ dX1_declarePlace_24 (fun σ3 H locs hok hz hP hD hS => ?_)
  refine lv_aload_n hx hb dX1_declarePlace_27 rfl (lv_at hl 1 rfl) ?_
  refine xg (ci := 1) S inX1 rfl hK hP cW_1 8 (by decide) rfl kw_3_237 rfl dX1_declarePlace_28 ?_
  refine lv_iload_n hx hb dX1_declarePlace_31 rfl (lv_at hl 2 rfl) ?_
  refine lv_bipush (v := 16) hx hb dX1_declarePlace_32 (by decide) ?_
  refine ximul (v := a1 * 16) S dX1_declarePlace_34 rfl ?_
  refine lv_iload_n hx hb dX1_declarePlace_35 rfl (lv_at hl 3 rfl) ?_
  refine xiadd (v := (a1 * 16) + a2) S dX1_declarePlace_36 rfl ?_
  refine lv_iload hx hb dX1_declarePlace_37 (lv_at hl 0 rfl) ?_
  have h_39 := hok.1
  have hok := hok.2
  refine yiast (t0 := 0) (cw := (cW o u cI cZ cJ T)) S hK hP hD hS cW_9 rfl h_39 dX1_declarePlace_39 cWa_9 (fun σ4 H locs eσ4 hP hD hS => ?_)
  have hok := hok σ4 eσ4
  refine lv_aload_n hx hb dX1_declarePlace_40 rfl (lv_at hl 1 rfl) ?_
  refine xg (ci := 1) S inX1 rfl hK hP cW_1 10 (by decide) rfl kw_4_1 rfl dX1_declarePlace_41 ?_
  refine lv_iload_n hx hb dX1_declarePlace_44 rfl (lv_at hl 2 rfl) ?_
  refine lv_bipush (v := 10) hx hb dX1_declarePlace_45 (by decide) ?_
  refine ximul (v := a1 * 10) S dX1_declarePlace_47 rfl ?_
  refine lv_iload hx hb dX1_declarePlace_48 (lv_at hl 0 rfl) ?_
  refine xiadd (v := (a1 * 10) + x1) S dX1_declarePlace_50 rfl ?_
  refine lv_iload_n hx hb dX1_declarePlace_51 rfl (lv_at hl 4 rfl) ?_
  have h_52 := hok.1
  have hok := hok.2
  refine yiast (t0 := 0) (cw := (cW o u cI cZ cJ T)) S hK hP hD hS cW_11 rfl h_52 dX1_declarePlace_52 cWa_11 (fun σ5 H locs eσ5 hP hD hS => ?_)
  have hok := hok σ5 eσ5
  refine lv_aload_n hx hb dX1_declarePlace_53 rfl (lv_at hl 1 rfl) ?_
  refine xg (ci := 1) S inX1 rfl hK hP cW_1 11 (by decide) rfl kw_4_4 rfl dX1_declarePlace_54 ?_
  refine lv_iload_n hx hb dX1_declarePlace_57 rfl (lv_at hl 2 rfl) ?_
  refine lv_bipush (v := 10) hx hb dX1_declarePlace_58 (by decide) ?_
  refine ximul (v := a1 * 10) S dX1_declarePlace_60 rfl ?_
  refine lv_iload hx hb dX1_declarePlace_61 (lv_at hl 0 rfl) ?_
  refine xiadd (v := (a1 * 10) + x1) S dX1_declarePlace_63 rfl ?_
  refine lv_iload hx hb dX1_declarePlace_64 (lv_at hl 5 rfl) ?_
  have h_66 := hok.1
  have hok := hok.2
  refine yiast (t0 := 0) (cw := (cW o u cI cZ cJ T)) S hK hP hD hS cW_12 rfl h_66 dX1_declarePlace_66 cWa_12 (fun σ6 H locs eσ6 hP hD hS => ?_)
  have hok := hok σ6 eσ6
  refine lv_iload hx hb dX1_declarePlace_67 (lv_at hl 0 rfl) ?_
  exact yEnd S hr hlocks hP hD hS (Nat.le_of_ble_eq_true rfl) (Nat.le_of_ble_eq_true rfl) dX1_declarePlace_69 hok

set_option maxHeartbeats 8000000 in
set_option maxRecDepth 100000 in
theorem v_X1_addVariable (l : Launch) (D : va_G) (cI cZ cJ : ClassId) (o : Nat) (u : Nat → Nat) (T : Nat) (ra : Nat → Nat) (ga : SG) (σ : FS) (a1 : Int32) (a2 : Int32) (a3 : Int32) (a4 : Int32) (Φ : Int32 → FS → Prop) (sz : Nat) (hok : (wp_X1_addVariable σ a1 a2 a3 a4 Φ)) : Met l yX1_addVariable (uW yX1_addVariable cX1_addVariable 5 (some .int)) ({ frames := 2, cells := 0, slots := 0, locals := 50 }) (va_Pc [.ref (u 0), .int a1, .int a2, .int a3, .int a4] (aS ra ga D (tyL cI cZ cJ) (cW o u cI cZ cJ T σ) sz)) (yQi Φ D (cW o u cI cZ cJ T) (va_A (cW o u cI cZ cJ T σ) sz)) 0 0 (va_A (cW o u cI cZ cJ T σ) sz) := by
  refine aStart (lv := [(0, .ref (u 0)), (1, .int a1), (2, .int a2), (3, .int a3), (4, .int a4)]) (Qc := fun A => yQi Φ D (cW o u cI cZ cJ T) A) (by decide) (Nat.le_of_ble_eq_true rfl) rfl ?_
  intro p e s m args below meth c ls A H S hr hlocks hnm hl hK hP hD hS hA hB
  have hx := S.1
  have hb := S.2.1
  refine lv_aload_n hx hb dX1_addVariable_0 rfl (lv_at hl 0 rfl) ?_
  refine xg (ci := 1) S inX1 rfl hK hP cW_1 4 (by decide) rfl kw_3_227 rfl dX1_addVariable_1 ?_
  refine lv_iload_n hx hb dX1_addVariable_4 rfl (lv_at hl 1 rfl) ?_
  refine lv_dup2_11 hx hb dX1_addVariable_5 rfl rfl ?_
  have h_6 := hok.1
  have hok := hok.2
  refine xiald (t0 := 0) (v := (g σ 5 a1)) S hK hP cW_5 rfl h_6 rfl dX1_addVariable_6 ?_
  refine lv_iconst (v := 1) hx hb dX1_addVariable_7 (by decide) ?_
  refine xiadd (v := (g σ 5 a1) + 1) S dX1_addVariable_8 rfl ?_
  have h_9 := hok.1
  have hok := hok.2
  refine yiast (t0 := 0) (cw := (cW o u cI cZ cJ T)) S hK hP hD hS cW_5 rfl h_9 dX1_addVariable_9 cWa_5 (fun σ1 H locs eσ1 hP hD hS => ?_)
  have hok := hok σ1 eσ1
  refine lv_iload_n hx hb dX1_addVariable_10 rfl (lv_at hl 3 rfl) ?_
  refine lv_bipush (v := 9) hx hb dX1_addVariable_11 (by decide) ?_
  refine lv_icmp_ne (tgt := 27) hx hb dX1_addVariable_13 (by decide) (fun c_13 => ?_) (fun c_13 => ?_)
  · have hok := hok.2 c_13
    refine lv_aload_n hx hb dX1_addVariable_27 rfl (lv_at hl 0 rfl) ?_
    refine lv_iload_n hx hb dX1_addVariable_28 rfl (lv_at hl 1 rfl) ?_
    refine lv_iload_n hx hb dX1_addVariable_29 rfl (lv_at hl 2 rfl) ?_
    refine lv_iload_n hx hb dX1_addVariable_30 rfl (lv_at hl 3 rfl) ?_
    refine lv_iload hx hb dX1_addVariable_31 (lv_at hl 4 rfl) ?_
    refine yVi (As := [.int a1, .int a2, .int a3, .int a4]) (cw := (cW o u cI cZ cJ T)) (ci := 1) S (v_X1_declarePlace l D cI cZ cJ o u T ra ga σ1 a1 a2 a3 a4 _ H.size hok) mi_X1_declarePlace kw_6_65 rfl rfl ⟨Nat.le_of_ble_eq_true rfl, Nat.le_of_ble_eq_true rfl⟩ hP hD hK hS hA hB cW_1 rfl rfl hl.1 (Nat.le_of_ble_eq_true rfl) ⟨Nat.le_of_ble_eq_true rfl, Nat.le_of_ble_eq_true rfl⟩ dX1_addVariable_33 (fun x3 σ2 H locs hok hz hP hD hS => ?_)
    exact yEnd S hr hlocks hP hD hS (Nat.le_of_ble_eq_true rfl) (Nat.le_of_ble_eq_true rfl) dX1_addVariable_36 hok
  · have hok := hok.1 c_13
    refine lv_aload_n hx hb dX1_addVariable_16 rfl (lv_at hl 0 rfl) ?_
    refine lv_iload_n hx hb dX1_addVariable_17 rfl (lv_at hl 1 rfl) ?_
    refine lv_iload_n hx hb dX1_addVariable_18 rfl (lv_at hl 2 rfl) ?_
    refine lv_iload_n hx hb dX1_addVariable_19 rfl (lv_at hl 3 rfl) ?_
    refine lv_iload hx hb dX1_addVariable_20 (lv_at hl 4 rfl) ?_
    refine yVv (As := [.int a1, .int a2, .int a3, .int a4]) (cw := (cW o u cI cZ cJ T)) (ci := 1) S (v_X1_declare l D cI cZ cJ o u T ra ga σ1 a1 a2 a3 a4 _ H.size hok) mi_X1_declare kw_6_61 rfl rfl ⟨Nat.le_of_ble_eq_true rfl, Nat.le_of_ble_eq_true rfl⟩ hP hD hK hS hA hB cW_1 rfl rfl hl.1 (Nat.le_of_ble_eq_true rfl) ⟨Nat.le_of_ble_eq_true rfl, Nat.le_of_ble_eq_true rfl⟩ dX1_addVariable_22 (fun σ4 H locs hok hz hP hD hS => ?_)
    refine lv_iconst (v := (-1)) hx hb dX1_addVariable_25 (by decide) ?_
    exact yEnd S hr hlocks hP hD hS (Nat.le_of_ble_eq_true rfl) (Nat.le_of_ble_eq_true rfl) dX1_addVariable_26 hok

set_option maxHeartbeats 8000000 in
set_option maxRecDepth 100000 in
theorem v_X8_variable (l : Launch) (D : va_G) (cI cZ cJ : ClassId) (o : Nat) (u : Nat → Nat) (T : Nat) (ra : Nat → Nat) (ga : SG) (σ : FS) (a1 : Int32) (a2 : Int32) (a3 : Int32) (a4 : Int32) (Φ : Int32 → FS → Prop) (sz : Nat) (hok : (wp_X8_variable σ a1 a2 a3 a4 Φ)) : Met l yX8_variable (uW yX8_variable cX8_variable 5 (some .int)) ({ frames := 3, cells := 0, slots := 0, locals := 74 }) (va_Pc [.ref o, .int a1, .int a2, .int a3, .int a4] (aS ra ga D (tyL cI cZ cJ) (cW o u cI cZ cJ T σ) sz)) (yQi Φ D (cW o u cI cZ cJ T) (va_A (cW o u cI cZ cJ T σ) sz)) 0 0 (va_A (cW o u cI cZ cJ T σ) sz) := by
  refine aStart (lv := [(0, .ref o), (1, .int a1), (2, .int a2), (3, .int a3), (4, .int a4)]) (Qc := fun A => yQi Φ D (cW o u cI cZ cJ T) A) (by decide) (Nat.le_of_ble_eq_true rfl) rfl ?_
  intro p e s m args below meth c ls A H S hr hlocks hnm hl hK hP hD hS hA hB
  have hx := S.1
  have hb := S.2.1
  refine lv_aload_n hx hb dX8_variable_0 rfl (lv_at hl 0 rfl) ?_
  refine lv_iload_n hx hb dX8_variable_1 rfl (lv_at hl 1 rfl) ?_
  refine yVv (As := [.int a1]) (cw := (cW o u cI cZ cJ T)) (ci := 8) S (v_X8_needProcedure l D cI cZ cJ o u T ra ga σ a1 _ H.size hok) mi_X8_needProcedure kw_1_25 rfl rfl ⟨Nat.le_of_ble_eq_true rfl, Nat.le_of_ble_eq_true rfl⟩ hP hD hK hS hA hB cW_0 rfl rfl hl.1 (Nat.le_of_ble_eq_true rfl) ⟨Nat.le_of_ble_eq_true rfl, Nat.le_of_ble_eq_true rfl⟩ dX8_variable_2 (fun σ1 H locs hok hz hP hD hS => ?_)
  refine lv_iload_n hx hb dX8_variable_5 rfl (lv_at hl 2 rfl) ?_
  refine ySi (As := [.int a2]) (cw := (cW o u cI cZ cJ T)) S (v_X8_isName l D cI cZ cJ o u T ra ga σ1 a2 _ H.size hok) ms_X8_isName kw_3_181 rfl rfl ⟨Nat.le_of_ble_eq_true rfl, Nat.le_of_ble_eq_true rfl⟩ hP hD hK hS hA hB hl.1 (Nat.le_of_ble_eq_true rfl) ⟨Nat.le_of_ble_eq_true rfl, Nat.le_of_ble_eq_true rfl⟩ dX8_variable_6 (fun x3 σ2 H locs hok hz hP hD hS => ?_)
  refine lv_if_eq (tgt := 25) hx hb dX8_variable_9 (by decide) (fun c_9 => ?_) (fun c_9 => ?_)
  · have hok := hok.1 c_9
    refine lv_iconst (v := 0) hx hb dX8_variable_25 (by decide) ?_
    exact False.elim hok
  · have hok := hok.2 c_9
    refine lv_iload_n hx hb dX8_variable_12 rfl (lv_at hl 3 rfl) ?_
    refine lv_iload hx hb dX8_variable_13 (lv_at hl 4 rfl) ?_
    refine ySi (As := [.int a3, .int a4]) (cw := (cW o u cI cZ cJ T)) S (v_X8_isSizeOf l D cI cZ cJ o u T ra ga σ2 a3 a4 _ H.size hok) ms_X8_isSizeOf kw_6_50 rfl rfl ⟨Nat.le_of_ble_eq_true rfl, Nat.le_of_ble_eq_true rfl⟩ hP hD hK hS hA hB hl.1 (Nat.le_of_ble_eq_true rfl) ⟨Nat.le_of_ble_eq_true rfl, Nat.le_of_ble_eq_true rfl⟩ dX8_variable_15 (fun x5 σ4 H locs hok hz hP hD hS => ?_)
    refine lv_if_eq (tgt := 25) hx hb dX8_variable_18 (by decide) (fun c_18 => ?_) (fun c_18 => ?_)
    · have hok := hok.1 c_18
      refine lv_iconst (v := 0) hx hb dX8_variable_25 (by decide) ?_
      exact False.elim hok
    · have hok := hok.2 c_18
      refine lv_iconst (v := 1) hx hb dX8_variable_21 (by decide) ?_
      refine lv_goto (tgt := 26) hx hb dX8_variable_22 (by decide) ?_
      refine ySv (As := [.int 1]) (cw := (cW o u cI cZ cJ T)) S (v_X8_needArgument l D cI cZ cJ o u T ra ga σ4 1 _ H.size hok) ms_X8_needArgument kw_1_104 rfl rfl ⟨Nat.le_of_ble_eq_true rfl, Nat.le_of_ble_eq_true rfl⟩ hP hD hK hS hA hB hl.1 (Nat.le_of_ble_eq_true rfl) ⟨Nat.le_of_ble_eq_true rfl, Nat.le_of_ble_eq_true rfl⟩ dX8_variable_26 (fun σ6 H locs hok hz hP hD hS => ?_)
      refine lv_aload_n hx hb dX8_variable_29 rfl (lv_at hl 0 rfl) ?_
      refine xg (ci := 8) S inX8 rfl hK hP cW_0 0 (by decide) rfl kw_5_183 rfl dX8_variable_30 ?_
      refine lv_iload_n hx hb dX8_variable_33 rfl (lv_at hl 1 rfl) ?_
      refine lv_iload_n hx hb dX8_variable_34 rfl (lv_at hl 2 rfl) ?_
      refine yVi (As := [.int a1, .int a2]) (cw := (cW o u cI cZ cJ T)) (ci := 1) S (v_X1_takesVariable l D cI cZ cJ o u T ra ga σ6 a1 a2 _ H.size hok) mi_X1_takesVariable kw_6_53 rfl rfl ⟨Nat.le_of_ble_eq_true rfl, Nat.le_of_ble_eq_true rfl⟩ hP hD hK hS hA hB cW_1 rfl rfl hl.1 (Nat.le_of_ble_eq_true rfl) ⟨Nat.le_of_ble_eq_true rfl, Nat.le_of_ble_eq_true rfl⟩ dX8_variable_35 (fun x8 σ7 H locs hok hz hP hD hS => ?_)
      refine ySv (As := [.int x8]) (cw := (cW o u cI cZ cJ T)) S (v_X8_needState l D cI cZ cJ o u T ra ga σ7 x8 _ H.size hok) ms_X8_needState kw_2_163 rfl rfl ⟨Nat.le_of_ble_eq_true rfl, Nat.le_of_ble_eq_true rfl⟩ hP hD hK hS hA hB hl.1 (Nat.le_of_ble_eq_true rfl) ⟨Nat.le_of_ble_eq_true rfl, Nat.le_of_ble_eq_true rfl⟩ dX8_variable_38 (fun σ9 H locs hok hz hP hD hS => ?_)
      refine lv_aload_n hx hb dX8_variable_41 rfl (lv_at hl 0 rfl) ?_
      refine lv_iconst (v := 1) hx hb dX8_variable_42 (by decide) ?_
      refine yp (ci := 8) (v := .int 1) (cw := (cW o u cI cZ cJ T)) S inX8 tyX8 tyX8_ok nmX8 rfl hK hP hD hS cW_0 9 (by decide) kw_5_192 rfl rfl rfl rfl (Nat.le_of_ble_eq_true rfl) dX8_variable_43 cWp_0_9 (fun σ10 H locs eσ10 hP hD hS => ?_)
      have hok := hok σ10 eσ10
      refine lv_aload_n hx hb dX8_variable_46 rfl (lv_at hl 0 rfl) ?_
      refine xg (ci := 8) S inX8 rfl hK hP cW_0 0 (by decide) rfl kw_5_183 rfl dX8_variable_47 ?_
      refine lv_iload_n hx hb dX8_variable_50 rfl (lv_at hl 1 rfl) ?_
      refine lv_iload_n hx hb dX8_variable_51 rfl (lv_at hl 2 rfl) ?_
      refine lv_iload_n hx hb dX8_variable_52 rfl (lv_at hl 3 rfl) ?_
      refine lv_bipush (v := 6) hx hb dX8_variable_53 (by decide) ?_
      refine xiadd (v := a3 + 6) S dX8_variable_55 rfl ?_
      refine lv_iload hx hb dX8_variable_56 (lv_at hl 4 rfl) ?_
      refine yVi (As := [.int a1, .int a2, .int (a3 + 6), .int a4]) (cw := (cW o u cI cZ cJ T)) (ci := 1) S (v_X1_addVariable l D cI cZ cJ o u T ra ga σ10 a1 a2 (a3 + 6) a4 _ H.size hok) mi_X1_addVariable kw_6_57 rfl rfl ⟨Nat.le_of_ble_eq_true rfl, Nat.le_of_ble_eq_true rfl⟩ hP hD hK hS hA hB cW_1 rfl rfl hl.1 (Nat.le_of_ble_eq_true rfl) ⟨Nat.le_of_ble_eq_true rfl, Nat.le_of_ble_eq_true rfl⟩ dX8_variable_58 (fun x12 σ11 H locs hok hz hP hD hS => ?_)
      exact yEnd S hr hlocks hP hD hS (Nat.le_of_ble_eq_true rfl) (Nat.le_of_ble_eq_true rfl) dX8_variable_61 hok
