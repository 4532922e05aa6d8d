set_option maxHeartbeats 8000000 in
set_option maxRecDepth 100000 in
theorem v_X3_execute_84 (l : Launch) (D : va_G) (cI cZ cJ : ClassId) (o : Nat) (u : Nat → Nat) (T : Nat) (ra : Nat → Nat) (ga : SG) (σ : FS) (a1 : Int32) (a2 : Int32) (a3 : Int32) (Φ : FS → Prop) (sz : Nat) (hok : (wp_X3_execute 84 σ a1 a2 a3 Φ)) : Met l yX3_execute (uW yX3_execute cX3_execute 7 none) ({ frames := 6, cells := 0, slots := 0, locals := 144 }) (va_Pc [.ref (u 64), .int a1, .int a2, .int a3, .ref (u 83)] (aS ra ga D (tyL cI cZ cJ) (cW o u cI cZ cJ T σ) sz)) (yQv Φ D (cW o u cI cZ cJ 83) (va_A (cW o u cI cZ cJ T σ) sz)) 0 0 (va_A (cW o u cI cZ cJ T σ) sz) := by
  refine aStart (lv := [(0, .ref (u 64)), (1, .int a1), (2, .int a2), (3, .int a3), (4, .ref (u 83))]) (Qc := fun A => yQv Φ D (cW o u cI cZ cJ 83) A) (by decide) (Nat.le_of_ble_eq_true rfl) rfl ?_
  intro p e s m args below meth c ls A H S hr hlocks hnm hl hK hP hD hS hA hB
  have hx := S.1
  have hb := S.2.1
  refine lv_aload_n hx hb dX3_execute_0 rfl (lv_at hl 0 rfl) ?_
  refine xg (ci := 3) S inX3 rfl hK hP cW_65 3 (by decide) rfl kw_5_132 rfl dX3_execute_1 ?_
  refine lv_iconst (v := 0) hx hb dX3_execute_4 (by decide) ?_
  refine yVv (As := [.int 0]) (cw := (cW o u cI cZ cJ T)) (ci := 0) S (v_X0_layOut_52 l D cI cZ cJ o u T ra ga σ 0 _ H.size hok) mi_X0_layOut kw_2_206 rfl rfl ⟨Nat.le_of_ble_eq_true rfl, Nat.le_of_ble_eq_true rfl⟩ hP hD hK hS hA hB cW_52 rfl rfl hl.1 (Nat.le_of_ble_eq_true rfl) ⟨Nat.le_of_ble_eq_true rfl, Nat.le_of_ble_eq_true rfl⟩ dX3_execute_5 (fun σ1 H locs hok hz hP hD hS => ?_)
  refine lv_aload_n hx hb dX3_execute_8 rfl (lv_at hl 0 rfl) ?_
  refine yVv (As := []) (cw := (cW o u cI cZ cJ T)) (ci := 3) S (v_X3_clear l D cI cZ cJ o u T ra ga σ1 _ H.size hok) mi_X3_clear kw_2_207 rfl rfl ⟨Nat.le_of_ble_eq_true rfl, Nat.le_of_ble_eq_true rfl⟩ hP hD hK hS hA hB cW_65 rfl rfl hl.1 (Nat.le_of_ble_eq_true rfl) ⟨Nat.le_of_ble_eq_true rfl, Nat.le_of_ble_eq_true rfl⟩ dX3_execute_9 (fun σ2 H locs hok hz hP hD hS => ?_)
  refine lv_aload_n hx hb dX3_execute_12 rfl (lv_at hl 0 rfl) ?_
  refine lv_iload_n hx hb dX3_execute_13 rfl (lv_at hl 1 rfl) ?_
  refine yp (ci := 3) (v := .int a1) (cw := (cW o u cI cZ cJ T)) S inX3 tyX3 tyX3_ok nmX3 rfl hK hP hD hS cW_65 10 (by decide) kw_5_139 rfl rfl rfl rfl (Nat.le_of_ble_eq_true rfl) dX3_execute_14 cWp_65_10 (fun σ3 H locs eσ3 hP hD hS => ?_)
  have hok := hok σ3 eσ3
  refine lv_aload_n hx hb dX3_execute_17 rfl (lv_at hl 0 rfl) ?_
  refine lv_iload_n hx hb dX3_execute_18 rfl (lv_at hl 3 rfl) ?_
  refine yp (ci := 3) (v := .int a3) (cw := (cW o u cI cZ cJ T)) S inX3 tyX3 tyX3_ok nmX3 rfl hK hP hD hS cW_65 11 (by decide) kw_5_140 rfl rfl rfl rfl (Nat.le_of_ble_eq_true rfl) dX3_execute_19 cWp_65_11 (fun σ4 H locs eσ4 hP hD hS => ?_)
  have hok := hok σ4 eσ4
  refine lv_aload_n hx hb dX3_execute_22 rfl (lv_at hl 0 rfl) ?_
  refine lv_aload hx hb dX3_execute_23 (lv_at hl 4 rfl) ?_
  refine xp (ci := 3) (v := .ref (u 83)) S inX3 tyX3 tyX3_ok nmX3 rfl hK hP hD hS cW_65 9 (by decide) kw_5_138 rfl rfl rfl rfl (Nat.le_of_ble_eq_true rfl) dX3_execute_25 (fun H locs hP hD hS => ?_)
  have hP : va_P D vwCl (cW o u cI cZ cJ 83 σ4) H := hP
  have hD : va_D A (cW o u cI cZ cJ 83 σ4) := hD
  refine lv_aload_n hx hb dX3_execute_28 rfl (lv_at hl 0 rfl) ?_
  refine xg (ci := 3) S inX3 rfl hK hP cW_65 9 (by decide) rfl kw_5_138 rfl dX3_execute_29 ?_
  refine yVv (As := []) (cw := (cW o u cI cZ cJ 83)) (ci := 6) S (v_X6_start_84 l D cI cZ cJ o u 83 ra ga σ4 _ H.size hok) mi_X6_start kw_2_216 rfl rfl ⟨Nat.le_of_ble_eq_true rfl, Nat.le_of_ble_eq_true rfl⟩ hP hD hK hS hA hB cW_84 rfl rfl hl.1 (Nat.le_of_ble_eq_true rfl) ⟨Nat.le_of_ble_eq_true rfl, Nat.le_of_ble_eq_true rfl⟩ dX3_execute_32 (fun σ5 H locs hok hz hP hD hS => ?_)
  refine lv_aload_n hx hb dX3_execute_35 rfl (lv_at hl 0 rfl) ?_
  refine lv_iconst (v := (-1)) hx hb dX3_execute_36 (by decide) ?_
  refine lv_aload_n hx hb dX3_execute_37 rfl (lv_at hl 0 rfl) ?_
  refine xg (ci := 3) S inX3 rfl hK hP cW_65 14 (by decide) rfl kw_5_143 rfl dX3_execute_38 ?_
  refine yVv (As := [.int (-1), .int (σ5.1 65 14)]) (cw := (cW o u cI cZ cJ 83)) (ci := 3) S (v_X3_keepReturn l D cI cZ cJ o u 83 ra ga σ5 (-1) (σ5.1 65 14) _ H.size hok) mi_X3_keepReturn kw_2_220 rfl rfl ⟨Nat.le_of_ble_eq_true rfl, Nat.le_of_ble_eq_true rfl⟩ hP hD hK hS hA hB cW_65 rfl rfl hl.1 (Nat.le_of_ble_eq_true rfl) ⟨Nat.le_of_ble_eq_true rfl, Nat.le_of_ble_eq_true rfl⟩ dX3_execute_41 (fun σ6 H locs hok hz hP hD hS => ?_)
  refine lv_aload_n hx hb dX3_execute_44 rfl (lv_at hl 0 rfl) ?_
  refine lv_iconst (v := 0) hx hb dX3_execute_45 (by decide) ?_
  refine lv_iconst (v := (-1)) hx hb dX3_execute_46 (by decide) ?_
  refine yVv (As := [.int 0, .int (-1)]) (cw := (cW o u cI cZ cJ 83)) (ci := 3) S (v_X3_call_t84 l D cI cZ cJ o u ra ga σ6 0 (-1) _ H.size hok) mi_X3_call kw_3_14 rfl rfl ⟨Nat.le_of_ble_eq_true rfl, Nat.le_of_ble_eq_true rfl⟩ hP hD hK hS hA hB cW_65 rfl rfl hl.1 (Nat.le_of_ble_eq_true rfl) ⟨Nat.le_of_ble_eq_true rfl, Nat.le_of_ble_eq_true rfl⟩ dX3_execute_47 (fun σ7 H locs hok hz hP hD hS => ?_)
  refine lv_iconst (v := 0) hx hb dX3_execute_50 (by decide) ?_
  refine lv_istore (lv' := [(5, .int 0), (0, .ref (u 64)), (1, .int a1), (2, .int a2), (3, .int a3), (4, .ref (u 83))]) hx hb dX3_execute_51 hl (by decide) rfl (fun ls hl => ?_)
  have lp53 : ∀ (K : FS → Int32 → Prop), (∀ (τ0 : FS) (l5_0 : Int32) (H : Heap) (locs : List Loc) (ls : Array Slot), K τ0 l5_0 → lv_has ls 7 [(5, .int l5_0), (0, .ref (u 64)), (1, .int a1), (2, .int a2), (3, .int a3), (4, .ref (u 83))] → va_P D vwCl (cW o u cI cZ cJ 83 τ0) H → va_D A (cW o u cI cZ cJ 83 τ0) → va_S A s.heap H locs → W p l e ({ frames := 6, cells := 0, slots := 0, locals := 144 }) s m args below meth c H locs 0 0 (MQ below (yQv Φ D (cW o u cI cZ cJ 83) A) args s 0 0 A) (F0 m 138 ls [])) → ∀ (n0 : Nat) (τ0 : FS) (l5_0 : Int32) (H : Heap) (locs : List Loc) (ls : Array Slot), wp_X3_execute_53 84 a1 a2 a3 Φ K n0 τ0 l5_0 → lv_has ls 7 [(5, .int l5_0), (0, .ref (u 64)), (1, .int a1), (2, .int a2), (3, .int a3), (4, .ref (u 83))] → va_P D vwCl (cW o u cI cZ cJ 83 τ0) H → va_D A (cW o u cI cZ cJ 83 τ0) → va_S A s.heap H locs → W p l e ({ frames := 6, cells := 0, slots := 0, locals := 144 }) s m args below meth c H locs 0 0 (MQ below (yQv Φ D (cW o u cI cZ cJ 83) A) args s 0 0 A) (F0 m 53 ls []) := by
    intro K hk n0
    induction n0 with
    | zero => intro τ0 l5_0 H locs ls hok; exact False.elim hok
    | succ n0 ih53 =>
      intro τ0 l5_0 H locs ls hok hl hP hD hS
      refine lv_iload hx hb dX3_execute_53 (lv_at hl 0 rfl) ?_
      refine lv_ldc hx hb S.2.2.2.1 (S.2.2.2.2 _ kw_3_30) dX3_execute_55 ?_
      refine lv_icmp_ge (tgt := 138) hx hb dX3_execute_57 (by decide) (fun c_57 => ?_) (fun c_57 => ?_)
      · have hok := hok.1 c_57
        exact hk τ0 l5_0 H locs ls hok (lv_sub hl [0, 1, 2, 3, 4, 5] rfl) hP hD hS
      · have hok := hok.2 c_57
        refine lv_aload_n hx hb dX3_execute_60 rfl (lv_at hl 1 rfl) ?_
        refine xg (ci := 3) S inX3 rfl hK hP cW_65 16 (by decide) rfl kw_5_145 rfl dX3_execute_61 ?_
        refine lv_if_ne (tgt := 138) hx hb dX3_execute_64 (by decide) (fun c_64 => ?_) (fun c_64 => ?_)
        · have hok := hok.2 c_64
          exact hk τ0 l5_0 H locs ls hok (lv_sub hl [0, 1, 2, 3, 4, 5] rfl) hP hD hS
        · have hok := hok.1 c_64
          refine lv_aload_n hx hb dX3_execute_67 rfl (lv_at hl 1 rfl) ?_
          refine xg (ci := 3) S inX3 rfl hK hP cW_65 12 (by decide) rfl kw_5_141 rfl dX3_execute_68 ?_
          refine lv_topi (fun x8 ex8 => ?_)
          have hok := hok x8 ex8
          refine lv_istore (lv' := [(6, .int x8), (5, .int l5_0), (0, .ref (u 64)), (1, .int a1), (2, .int a2), (3, .int a3), (4, .ref (u 83))]) hx hb dX3_execute_71 hl (by decide) rfl (fun ls hl => ?_)
          refine lv_iload hx hb dX3_execute_73 (lv_at hl 0 rfl) ?_
          refine lv_if_lt (tgt := 90) hx hb dX3_execute_75 (by decide) (fun c_75 => ?_) (fun c_75 => ?_)
          · have hok := hok.1 c_75
            refine lv_aload_n hx hb dX3_execute_90 rfl (lv_at hl 2 rfl) ?_
            refine lv_iconst (v := 1) hx hb dX3_execute_91 (by decide) ?_
            refine yp (ci := 3) (v := .int 1) (cw := (cW o u cI cZ cJ 83)) S inX3 tyX3 tyX3_ok nmX3 rfl hK hP hD hS cW_65 16 (by decide) kw_5_145 rfl rfl rfl rfl (Nat.le_of_ble_eq_true rfl) dX3_execute_92 cWp_65_16 (fun σ9 H locs eσ9 hP hD hS => ?_)
            have hok := hok σ9 eσ9
            refine lv_goto (tgt := 132) hx hb dX3_execute_95 (by decide) ?_
            refine lv_iinc (v := l5_0 + 1) (lv' := [(5, .int (l5_0 + 1)), (6, .int x8), (0, .ref (u 64)), (1, .int a1), (2, .int a2), (3, .int a3), (4, .ref (u 83))]) hx hb dX3_execute_132 hl (k := 1) rfl rfl (by decide) rfl (fun ls hl => ?_)
            refine lv_goto (tgt := 53) hx hb dX3_execute_135 (by decide) ?_
            exact ih53 σ9 (l5_0 + 1) H locs ls hok (lv_sub hl [0, 2, 3, 4, 5, 6] rfl) hP hD hS
          · have hok := hok.2 c_75
            refine lv_iload hx hb dX3_execute_78 (lv_at hl 0 rfl) ?_
            refine lv_aload_n hx hb dX3_execute_80 rfl (lv_at hl 2 rfl) ?_
            refine xg (ci := 3) S inX3 rfl hK hP cW_65 3 (by decide) rfl kw_5_132 rfl dX3_execute_81 ?_
            refine xg (ci := 0) S inX0 rfl hK hP cW_52 4 (by decide) rfl kw_4_220 rfl dX3_execute_84 ?_
            refine lv_icmp_lt (tgt := 98) hx hb dX3_execute_87 (by decide) (fun c_87 => ?_) (fun c_87 => ?_)
            · have hok := hok.1 c_87
              refine lv_aload_n hx hb dX3_execute_98 rfl (lv_at hl 2 rfl) ?_
              refine lv_iload hx hb dX3_execute_99 (lv_at hl 0 rfl) ?_
              refine lv_iload_n hx hb dX3_execute_101 rfl (lv_at hl 4 rfl) ?_
              refine yVi (As := [.int x8, .int a2]) (cw := (cW o u cI cZ cJ 83)) (ci := 3) S (v_X3_begin_t84 l D cI cZ cJ o u ra ga τ0 x8 a2 _ H.size hok) mi_X3_begin kw_3_31 rfl rfl ⟨Nat.le_of_ble_eq_true rfl, Nat.le_of_ble_eq_true rfl⟩ hP hD hK hS hA hB cW_65 rfl rfl hl.1 (Nat.le_of_ble_eq_true rfl) ⟨Nat.le_of_ble_eq_true rfl, Nat.le_of_ble_eq_true rfl⟩ dX3_execute_102 (fun x11 σ10 H locs hok hz hP hD hS => ?_)
              refine lv_if_eq (tgt := 132) hx hb dX3_execute_105 (by decide) (fun c_105 => ?_) (fun c_105 => ?_)
              · have hok := hok.1 c_105
                refine lv_iinc (v := l5_0 + 1) (lv' := [(5, .int (l5_0 + 1)), (6, .int x8), (0, .ref (u 64)), (1, .int a1), (2, .int a2), (3, .int a3), (4, .ref (u 83))]) hx hb dX3_execute_132 hl (k := 1) rfl rfl (by decide) rfl (fun ls hl => ?_)
                refine lv_goto (tgt := 53) hx hb dX3_execute_135 (by decide) ?_
                exact ih53 σ10 (l5_0 + 1) H locs ls hok (lv_sub hl [0, 2, 3, 4, 5, 6] rfl) hP hD hS
              · have hok := hok.2 c_105
                refine lv_aload_n hx hb dX3_execute_108 rfl (lv_at hl 2 rfl) ?_
                refine lv_iload hx hb dX3_execute_109 (lv_at hl 0 rfl) ?_
                refine lv_iconst (v := 1) hx hb dX3_execute_111 (by decide) ?_
                refine xiadd (v := x8 + 1) S dX3_execute_112 rfl ?_
                refine yp (ci := 3) (v := .int (x8 + 1)) (cw := (cW o u cI cZ cJ 83)) S inX3 tyX3 tyX3_ok nmX3 rfl hK hP hD hS cW_65 12 (by decide) kw_5_141 rfl rfl rfl rfl (Nat.le_of_ble_eq_true rfl) dX3_execute_113 cWp_65_12 (fun σ12 H locs eσ12 hP hD hS => ?_)
                have hok := hok σ12 eσ12
                refine lv_aload_n hx hb dX3_execute_116 rfl (lv_at hl 2 rfl) ?_
                refine lv_iload hx hb dX3_execute_117 (lv_at hl 0 rfl) ?_
                refine lv_aload_n hx hb dX3_execute_119 rfl (lv_at hl 2 rfl) ?_
                refine xg (ci := 3) S inX3 rfl hK hP cW_65 3 (by decide) rfl kw_5_132 rfl dX3_execute_120 ?_
                refine xg (ci := 0) S inX0 rfl hK hP cW_52 7 (by decide) rfl kw_4_228 rfl dX3_execute_123 ?_
                refine lv_iload hx hb dX3_execute_126 (lv_at hl 0 rfl) ?_
                have h_128 := hok.1
                have hok := hok.2
                refine xiald (t0 := 0) (v := (g σ12 55 x8)) S hK hP cW_55 rfl h_128 rfl dX3_execute_128 ?_
                refine yVv (As := [.int x8, .int (g σ12 55 x8)]) (cw := (cW o u cI cZ cJ 83)) (ci := 3) S (v_X3_perform_t84 l D cI cZ cJ o u ra ga σ12 x8 (g σ12 55 x8) _ H.size hok) mi_X3_perform kw_3_39 rfl rfl ⟨Nat.le_of_ble_eq_true rfl, Nat.le_of_ble_eq_true rfl⟩ hP hD hK hS hA hB cW_65 rfl rfl hl.1 (Nat.le_of_ble_eq_true rfl) ⟨Nat.le_of_ble_eq_true rfl, Nat.le_of_ble_eq_true rfl⟩ dX3_execute_129 (fun σ13 H locs hok hz hP hD hS => ?_)
                refine lv_iinc (v := l5_0 + 1) (lv' := [(5, .int (l5_0 + 1)), (6, .int x8), (0, .ref (u 64)), (1, .int a1), (2, .int a2), (3, .int a3), (4, .ref (u 83))]) hx hb dX3_execute_132 hl (k := 1) rfl rfl (by decide) rfl (fun ls hl => ?_)
                refine lv_goto (tgt := 53) hx hb dX3_execute_135 (by decide) ?_
                exact ih53 σ13 (l5_0 + 1) H locs ls hok (lv_sub hl [0, 2, 3, 4, 5, 6] rfl) hP hD hS
            · have hok := hok.2 c_87
              refine lv_aload_n hx hb dX3_execute_90 rfl (lv_at hl 2 rfl) ?_
              refine lv_iconst (v := 1) hx hb dX3_execute_91 (by decide) ?_
              refine yp (ci := 3) (v := .int 1) (cw := (cW o u cI cZ cJ 83)) S inX3 tyX3 tyX3_ok nmX3 rfl hK hP hD hS cW_65 16 (by decide) kw_5_145 rfl rfl rfl rfl (Nat.le_of_ble_eq_true rfl) dX3_execute_92 cWp_65_16 (fun σ14 H locs eσ14 hP hD hS => ?_)
              have hok := hok σ14 eσ14
              refine lv_goto (tgt := 132) hx hb dX3_execute_95 (by decide) ?_
              refine lv_iinc (v := l5_0 + 1) (lv' := [(5, .int (l5_0 + 1)), (6, .int x8), (0, .ref (u 64)), (1, .int a1), (2, .int a2), (3, .int a3), (4, .ref (u 83))]) hx hb dX3_execute_132 hl (k := 1) rfl rfl (by decide) rfl (fun ls hl => ?_)
              refine lv_goto (tgt := 53) hx hb dX3_execute_135 (by decide) ?_
              exact ih53 σ14 (l5_0 + 1) H locs ls hok (lv_sub hl [0, 2, 3, 4, 5, 6] rfl) hP hD hS
  refine lp53 _ ?_ FUEL σ7 0 _ _ _ hok (lv_sub hl [0, 1, 2, 3, 4, 5] rfl) hP hD hS
  intro σ15 x16 H locs ls hok hl hP hD hS
  exact yEndv S hr hlocks hP hD hS (Nat.le_of_ble_eq_true rfl) (Nat.le_of_ble_eq_true rfl) dX3_execute_138 hok

set_option maxHeartbeats 8000000 in
set_option maxRecDepth 100000 in
theorem v_X6_answer_84 (l : Launch) (D : va_G) (cI cZ cJ : ClassId) (o : Nat) (u : Nat → Nat) (T : Nat) (ra : Nat → Nat) (ga : SG) (σ : FS) (a1 : Int32) (Φ : Int32 → FS → Prop) (sz : Nat) (hok : (wp_X6_answer 84 σ a1 Φ)) : Met l yX6_answer (uW yX6_answer cX6_answer 2 (some .int)) ({ frames := 0, cells := 0, slots := 0, locals := 0 }) (va_Pc [.ref (u 83), .int a1] (aS ra ga D (tyL cI cZ cJ) (cW o u cI cZ cJ T σ) sz)) (yQi Φ D (cW o u cI cZ cJ T) (va_A (cW o u cI cZ cJ T σ) sz)) 0 0 (va_A (cW o u cI cZ cJ T σ) sz) := by
  refine aStart (lv := [(0, .ref (u 83)), (1, .int a1)]) (Qc := fun A => yQi Φ D (cW o u cI cZ cJ T) A) (by decide) (Nat.le_of_ble_eq_true rfl) rfl ?_
  intro p e s m args below meth c ls A H S hr hlocks hnm hl hK hP hD hS hA hB
  have hx := S.1
  have hb := S.2.1
  refine lv_iload_n hx hb dX6_answer_0 rfl (lv_at hl 1 rfl) ?_
  by_cases k_1_0 : a1 = 0
  · have hok := hok.1 k_1_0
    rw [k_1_0]
    refine lv_tableIn (off := 51) (tgt := 52) hx hb dX6_answer_1 (by decide) (by decide) (by decide) (by decide) ?_
    refine lv_aload_n hx hb dX6_answer_52 rfl (lv_at hl 0 rfl) ?_
    refine xg (ci := 6) S inX6 rfl hK hP cW_84 0 (by decide) rfl kw_5_71 rfl dX6_answer_53 ?_
    exact yEnd S hr hlocks hP hD hS (Nat.le_of_ble_eq_true rfl) (Nat.le_of_ble_eq_true rfl) dX6_answer_56 hok
  · have hok := hok.2 k_1_0
    by_cases k_1_1 : a1 = 1
    · have hok := hok.1 k_1_1
      rw [k_1_1]
      refine lv_tableIn (off := 56) (tgt := 57) hx hb dX6_answer_1 (by decide) (by decide) (by decide) (by decide) ?_
      refine lv_aload_n hx hb dX6_answer_57 rfl (lv_at hl 0 rfl) ?_
      refine xg (ci := 6) S inX6 rfl hK hP cW_84 1 (by decide) rfl kw_5_74 rfl dX6_answer_58 ?_
      exact yEnd S hr hlocks hP hD hS (Nat.le_of_ble_eq_true rfl) (Nat.le_of_ble_eq_true rfl) dX6_answer_61 hok
    · have hok := hok.2 k_1_1
      by_cases k_1_2 : a1 = 2
      · have hok := hok.1 k_1_2
        rw [k_1_2]
        refine lv_tableIn (off := 61) (tgt := 62) hx hb dX6_answer_1 (by decide) (by decide) (by decide) (by decide) ?_
        refine lv_aload_n hx hb dX6_answer_62 rfl (lv_at hl 0 rfl) ?_
        refine xg (ci := 6) S inX6 rfl hK hP cW_84 2 (by decide) rfl kw_5_76 rfl dX6_answer_63 ?_
        exact yEnd S hr hlocks hP hD hS (Nat.le_of_ble_eq_true rfl) (Nat.le_of_ble_eq_true rfl) dX6_answer_66 hok
      · have hok := hok.2 k_1_2
        by_cases k_1_3 : a1 = 3
        · have hok := hok.1 k_1_3
          rw [k_1_3]
          refine lv_tableIn (off := 66) (tgt := 67) hx hb dX6_answer_1 (by decide) (by decide) (by decide) (by decide) ?_
          refine lv_aload_n hx hb dX6_answer_67 rfl (lv_at hl 0 rfl) ?_
          refine xg (ci := 6) S inX6 rfl hK hP cW_84 3 (by decide) rfl kw_5_78 rfl dX6_answer_68 ?_
          exact yEnd S hr hlocks hP hD hS (Nat.le_of_ble_eq_true rfl) (Nat.le_of_ble_eq_true rfl) dX6_answer_71 hok
        · have hok := hok.2 k_1_3
          by_cases k_1_4 : a1 = 4
          · have hok := hok.1 k_1_4
            rw [k_1_4]
            refine lv_tableIn (off := 71) (tgt := 72) hx hb dX6_answer_1 (by decide) (by decide) (by decide) (by decide) ?_
            refine lv_aload_n hx hb dX6_answer_72 rfl (lv_at hl 0 rfl) ?_
            refine xg (ci := 6) S inX6 rfl hK hP cW_84 4 (by decide) rfl kw_5_80 rfl dX6_answer_73 ?_
            exact yEnd S hr hlocks hP hD hS (Nat.le_of_ble_eq_true rfl) (Nat.le_of_ble_eq_true rfl) dX6_answer_76 hok
          · have hok := hok.2 k_1_4
            by_cases k_1_5 : a1 = 5
            · have hok := hok.1 k_1_5
              rw [k_1_5]
              refine lv_tableIn (off := 76) (tgt := 77) hx hb dX6_answer_1 (by decide) (by decide) (by decide) (by decide) ?_
              refine lv_aload_n hx hb dX6_answer_77 rfl (lv_at hl 0 rfl) ?_
              refine xg (ci := 6) S inX6 rfl hK hP cW_84 5 (by decide) rfl kw_5_81 rfl dX6_answer_78 ?_
              exact yEnd S hr hlocks hP hD hS (Nat.le_of_ble_eq_true rfl) (Nat.le_of_ble_eq_true rfl) dX6_answer_81 hok
            · have hok := hok.2 k_1_5
              by_cases k_1_6 : a1 = 6
              · have hok := hok.1 k_1_6
                rw [k_1_6]
                refine lv_tableIn (off := 81) (tgt := 82) hx hb dX6_answer_1 (by decide) (by decide) (by decide) (by decide) ?_
                refine lv_aload_n hx hb dX6_answer_82 rfl (lv_at hl 0 rfl) ?_
                refine xg (ci := 6) S inX6 rfl hK hP cW_84 6 (by decide) rfl kw_5_83 rfl dX6_answer_83 ?_
                exact yEnd S hr hlocks hP hD hS (Nat.le_of_ble_eq_true rfl) (Nat.le_of_ble_eq_true rfl) dX6_answer_86 hok
              · have hok := hok.2 k_1_6
                by_cases k_1_7 : a1 = 7
                · have hok := hok.1 k_1_7
                  rw [k_1_7]
                  refine lv_tableIn (off := 86) (tgt := 87) hx hb dX6_answer_1 (by decide) (by decide) (by decide) (by decide) ?_
                  refine lv_aload_n hx hb dX6_answer_87 rfl (lv_at hl 0 rfl) ?_
                  refine xg (ci := 6) S inX6 rfl hK hP cW_84 7 (by decide) rfl kw_5_86 rfl dX6_answer_88 ?_
                  exact yEnd S hr hlocks hP hD hS (Nat.le_of_ble_eq_true rfl) (Nat.le_of_ble_eq_true rfl) dX6_answer_91 hok
                · have hok := hok.2 k_1_7
                  by_cases k_1_8 : a1 = 8
                  · have hok := hok.1 k_1_8
                    rw [k_1_8]
                    refine lv_tableIn (off := 91) (tgt := 92) hx hb dX6_answer_1 (by decide) (by decide) (by decide) (by decide) ?_
                    refine lv_aload_n hx hb dX6_answer_92 rfl (lv_at hl 0 rfl) ?_
                    refine xg (ci := 6) S inX6 rfl hK hP cW_84 8 (by decide) rfl kw_5_89 rfl dX6_answer_93 ?_
                    exact yEnd S hr hlocks hP hD hS (Nat.le_of_ble_eq_true rfl) (Nat.le_of_ble_eq_true rfl) dX6_answer_96 hok
                  · have hok := hok.2 k_1_8
                    have q_1_0 := sw_ni k_1_0 (z := 0) (by decide)
                    have q_1_1 := sw_ni k_1_1 (z := 1) (by decide)
                    have q_1_2 := sw_ni k_1_2 (z := 2) (by decide)
                    have q_1_3 := sw_ni k_1_3 (z := 3) (by decide)
                    have q_1_4 := sw_ni k_1_4 (z := 4) (by decide)
                    have q_1_5 := sw_ni k_1_5 (z := 5) (by decide)
                    have q_1_6 := sw_ni k_1_6 (z := 6) (by decide)
                    have q_1_7 := sw_ni k_1_7 (z := 7) (by decide)
                    have q_1_8 := sw_ni k_1_8 (z := 8) (by decide)
                    refine lv_tableOut (tgt := 97) hx hb dX6_answer_1 (by omega) (by decide) ?_
                    refine lv_aload_n hx hb dX6_answer_97 rfl (lv_at hl 0 rfl) ?_
                    refine xg (ci := 6) S inX6 rfl hK hP cW_84 9 (by decide) rfl kw_5_91 rfl dX6_answer_98 ?_
                    exact yEnd S hr hlocks hP hD hS (Nat.le_of_ble_eq_true rfl) (Nat.le_of_ble_eq_true rfl) dX6_answer_101 hok

set_option maxHeartbeats 8000000 in
set_option maxRecDepth 100000 in
theorem v_X8_digest (l : Launch) (D : va_G) (cI cZ cJ : ClassId) (o : Nat) (u : Nat → Nat) (T : Nat) (ra : Nat → Nat) (ga : SG) (σ : FS) (Φ : Int64 → FS → Prop) (sz : Nat) (hok : (wp_X8_digest σ Φ)) : Met l yX8_digest (uW yX8_digest cX8_digest 6 (some .long)) ({ frames := 7, cells := 0, slots := 0, locals := 170 }) (va_Pc [.ref o] (aS ra ga D (tyL cI cZ cJ) (cW o u cI cZ cJ T σ) sz)) (yQl Φ D (cW o u cI cZ cJ 83) (va_A (cW o u cI cZ cJ T σ) sz)) 0 0 (va_A (cW o u cI cZ cJ T σ) sz) := by
  refine aStart (lv := [(0, .ref o)]) (Qc := fun A => yQl Φ D (cW o u cI cZ cJ 83) A) (by decide) (Nat.le_of_ble_eq_true rfl) rfl ?_
  intro p e s m args below meth c ls A H S hr hlocks hnm hl hK hP hD hS hA hB
  have hx := S.1
  have hb := S.2.1
  refine lv_aload_n hx hb dX8_digest_0 rfl (lv_at hl 0 rfl) ?_
  refine yVv (As := []) (cw := (cW o u cI cZ cJ T)) (ci := 8) S (v_X8_refresh l D cI cZ cJ o u T ra ga σ _ H.size hok) mi_X8_refresh kw_1_123 rfl rfl ⟨Nat.le_of_ble_eq_true rfl, Nat.le_of_ble_eq_true rfl⟩ hP hD hK hS hA hB cW_0 rfl rfl hl.1 (Nat.le_of_ble_eq_true rfl) ⟨Nat.le_of_ble_eq_true rfl, Nat.le_of_ble_eq_true rfl⟩ dX8_digest_1 (fun σ1 H locs hok hz hP hD hS => ?_)
  refine lv_ldc2 hx hb S.2.2.2.1 (S.2.2.2.2 _ kw_3_173) dX8_digest_4 ?_
  refine lv_lstore_n (lv' := [(1, .long 58126), (0, .ref o)]) hx hb dX8_digest_7 rfl hl (by decide) rfl (fun ls hl => ?_)
  refine lv_iconst (v := 0) hx hb dX8_digest_8 (by decide) ?_
  refine lv_istore_n (lv' := [(3, .int 0), (1, .long 58126), (0, .ref o)]) hx hb dX8_digest_9 rfl hl (by decide) rfl (fun ls hl => ?_)
  have lp10 : ∀ (K : FS → Int32 → Int64 → Prop), (∀ (τ0 : FS) (l3_0 : Int32) (l1_0 : Int64) (H : Heap) (locs : List Loc) (ls : Array Slot), K τ0 l3_0 l1_0 → lv_has ls 6 [(3, .int l3_0), (1, .long l1_0), (0, .ref o)] → va_P D vwCl (cW o u cI cZ cJ T τ0) H → va_D A (cW o u cI cZ cJ T τ0) → va_S A s.heap H locs → W p l e ({ frames := 7, cells := 0, slots := 0, locals := 170 }) s m args below meth c H locs 0 0 (MQ below (yQl Φ D (cW o u cI cZ cJ 83) A) args s 0 0 A) (F0 m 35 ls [])) → ∀ (n0 : Nat) (τ0 : FS) (l3_0 : Int32) (l1_0 : Int64) (H : Heap) (locs : List Loc) (ls : Array Slot), wp_X8_digest_10 Φ K n0 τ0 l3_0 l1_0 → lv_has ls 6 [(3, .int l3_0), (1, .long l1_0), (0, .ref o)] → va_P D vwCl (cW o u cI cZ cJ T τ0) H → va_D A (cW o u cI cZ cJ T τ0) → va_S A s.heap H locs → W p l e ({ frames := 7, cells := 0, slots := 0, locals := 170 }) s m args below meth c H locs 0 0 (MQ below (yQl Φ D (cW o u cI cZ cJ 83) A) args s 0 0 A) (F0 m 10 ls []) := by
    intro K hk n0
    induction n0 with
    | zero => intro τ0 l3_0 l1_0 H locs ls hok; exact False.elim hok
    | succ n0 ih10 =>
      intro τ0 l3_0 l1_0 H locs ls hok hl hP hD hS
      refine lv_iload_n hx hb dX8_digest_10 rfl (lv_at hl 0 rfl) ?_
      refine lv_bipush (v := 10) hx hb dX8_digest_11 (by decide) ?_
      refine lv_icmp_gt (tgt := 35) hx hb dX8_digest_13 (by decide) (fun c_13 => ?_) (fun c_13 => ?_)
      · have hok := hok.1 c_13
        exact hk τ0 l3_0 l1_0 H locs ls hok (lv_sub hl [0, 1, 2] rfl) hP hD hS
      · have hok := hok.2 c_13
        refine lv_lload_n hx hb dX8_digest_16 rfl (lv_at hl 1 rfl) ?_
        refine lv_ldc2 hx hb S.2.2.2.1 (S.2.2.2.2 _ kw_3_174) dX8_digest_17 ?_
        refine lv_lmul hx hb dX8_digest_20 ?_
        refine lv_aload_n hx hb dX8_digest_21 rfl (lv_at hl 2 rfl) ?_
        refine lv_iload_n hx hb dX8_digest_22 rfl (lv_at hl 0 rfl) ?_
        refine yVi (As := [.int l3_0]) (cw := (cW o u cI cZ cJ T)) (ci := 8) S (v_X8_many l D cI cZ cJ o u T ra ga τ0 l3_0 _ H.size hok) mi_X8_many kw_3_175 rfl rfl ⟨Nat.le_of_ble_eq_true rfl, Nat.le_of_ble_eq_true rfl⟩ hP hD hK hS hA hB cW_0 rfl rfl hl.1 (Nat.le_of_ble_eq_true rfl) ⟨Nat.le_of_ble_eq_true rfl, Nat.le_of_ble_eq_true rfl⟩ dX8_digest_23 (fun x3 σ2 H locs hok hz hP hD hS => ?_)
        refine lv_i2l (v := (x3 : Int32).toInt64) hx hb dX8_digest_26 rfl ?_
        refine lv_ladd hx hb dX8_digest_27 ?_
        refine lv_topl (fun x4 ex4 => ?_)
        have hok := hok x4 ex4
        refine lv_lstore_n (lv' := [(1, .long x4), (3, .int l3_0), (0, .ref o)]) hx hb dX8_digest_28 rfl hl (by decide) rfl (fun ls hl => ?_)
        refine lv_iinc (v := l3_0 + 1) (lv' := [(3, .int (l3_0 + 1)), (1, .long x4), (0, .ref o)]) hx hb dX8_digest_29 hl (k := 1) rfl rfl (by decide) rfl (fun ls hl => ?_)
        refine lv_goto (tgt := 10) hx hb dX8_digest_32 (by decide) ?_
        exact ih10 σ2 (l3_0 + 1) x4 H locs ls hok (lv_sub hl [0, 1, 2] rfl) hP hD hS
  refine lp10 _ ?_ FUEL σ1 0 58126 _ _ _ hok (lv_sub hl [0, 1, 2] rfl) hP hD hS
  intro σ5 x6 x7 H locs ls hok hl hP hD hS
  refine lv_iconst (v := 0) hx hb dX8_digest_35 (by decide) ?_
  refine lv_istore_n (lv' := [(3, .int 0), (1, .long x7), (0, .ref o)]) hx hb dX8_digest_36 rfl hl (by decide) rfl (fun ls hl => ?_)
  have lp37 : ∀ (K : FS → Int32 → Int64 → Prop), (∀ (τ0 : FS) (l3_0 : Int32) (l1_0 : Int64) (H : Heap) (locs : List Loc) (ls : Array Slot), K τ0 l3_0 l1_0 → lv_has ls 6 [(3, .int l3_0), (1, .long l1_0), (0, .ref o)] → va_P D vwCl (cW o u cI cZ cJ T τ0) H → va_D A (cW o u cI cZ cJ T τ0) → va_S A s.heap H locs → W p l e ({ frames := 7, cells := 0, slots := 0, locals := 170 }) s m args below meth c H locs 0 0 (MQ below (yQl Φ D (cW o u cI cZ cJ 83) A) args s 0 0 A) (F0 m 162 ls [])) → ∀ (n0 : Nat) (τ0 : FS) (l3_0 : Int32) (l1_0 : Int64) (H : Heap) (locs : List Loc) (ls : Array Slot), wp_X8_digest_37 Φ K n0 τ0 l3_0 l1_0 → lv_has ls 6 [(3, .int l3_0), (1, .long l1_0), (0, .ref o)] → va_P D vwCl (cW o u cI cZ cJ T τ0) H → va_D A (cW o u cI cZ cJ T τ0) → va_S A s.heap H locs → W p l e ({ frames := 7, cells := 0, slots := 0, locals := 170 }) s m args below meth c H locs 0 0 (MQ below (yQl Φ D (cW o u cI cZ cJ 83) A) args s 0 0 A) (F0 m 37 ls []) := by
    intro K hk n0
    induction n0 with
    | zero => intro τ0 l3_0 l1_0 H locs ls hok; exact False.elim hok
    | succ n0 ih37 =>
      intro τ0 l3_0 l1_0 H locs ls hok hl hP hD hS
      refine lv_iload_n hx hb dX8_digest_37 rfl (lv_at hl 0 rfl) ?_
      refine lv_aload_n hx hb dX8_digest_38 rfl (lv_at hl 2 rfl) ?_
      refine xg (ci := 8) S inX8 rfl hK hP cW_0 0 (by decide) rfl kw_5_183 rfl dX8_digest_39 ?_
      refine xg (ci := 1) S inX1 rfl hK hP cW_1 0 (by decide) rfl kw_3_215 rfl dX8_digest_42 ?_
      refine lv_icmp_ge (tgt := 162) hx hb dX8_digest_45 (by decide) (fun c_45 => ?_) (fun c_45 => ?_)
      · have hok := hok.1 c_45
        exact hk τ0 l3_0 l1_0 H locs ls hok (lv_sub hl [0, 1, 2] rfl) hP hD hS
      · have hok := hok.2 c_45
        refine lv_iconst (v := 0) hx hb dX8_digest_48 (by decide) ?_
        refine lv_istore (lv' := [(4, .int 0), (3, .int l3_0), (1, .long l1_0), (0, .ref o)]) hx hb dX8_digest_49 hl (by decide) rfl (fun ls hl => ?_)
        have lp51 : ∀ (K : FS → Int32 → Int64 → Prop), (∀ (τ1 : FS) (l4_1 : Int32) (l1_1 : Int64) (H : Heap) (locs : List Loc) (ls : Array Slot), K τ1 l4_1 l1_1 → lv_has ls 6 [(4, .int l4_1), (3, .int l3_0), (1, .long l1_1), (0, .ref o)] → va_P D vwCl (cW o u cI cZ cJ T τ1) H → va_D A (cW o u cI cZ cJ T τ1) → va_S A s.heap H locs → W p l e ({ frames := 7, cells := 0, slots := 0, locals := 170 }) s m args below meth c H locs 0 0 (MQ below (yQl Φ D (cW o u cI cZ cJ 83) A) args s 0 0 A) (F0 m 79 ls [])) → ∀ (n1 : Nat) (τ1 : FS) (l4_1 : Int32) (l1_1 : Int64) (H : Heap) (locs : List Loc) (ls : Array Slot), wp_X8_digest_51 l3_0 Φ K n1 τ1 l4_1 l1_1 → lv_has ls 6 [(4, .int l4_1), (3, .int l3_0), (1, .long l1_1), (0, .ref o)] → va_P D vwCl (cW o u cI cZ cJ T τ1) H → va_D A (cW o u cI cZ cJ T τ1) → va_S A s.heap H locs → W p l e ({ frames := 7, cells := 0, slots := 0, locals := 170 }) s m args below meth c H locs 0 0 (MQ below (yQl Φ D (cW o u cI cZ cJ 83) A) args s 0 0 A) (F0 m 51 ls []) := by
          intro K hk n1
          induction n1 with
          | zero => intro τ1 l4_1 l1_1 H locs ls hok; exact False.elim hok
          | succ n1 ih51 =>
            intro τ1 l4_1 l1_1 H locs ls hok hl hP hD hS
            refine lv_iload hx hb dX8_digest_51 (lv_at hl 0 rfl) ?_
            refine lv_bipush (v := 7) hx hb dX8_digest_53 (by decide) ?_
            refine lv_icmp_gt (tgt := 79) hx hb dX8_digest_55 (by decide) (fun c_55 => ?_) (fun c_55 => ?_)
            · have hok := hok.1 c_55
              exact hk τ1 l4_1 l1_1 H locs ls hok (lv_sub hl [0, 1, 2, 3] rfl) hP hD hS
            · have hok := hok.2 c_55
              refine lv_lload_n hx hb dX8_digest_58 rfl (lv_at hl 2 rfl) ?_
              refine lv_ldc2 hx hb S.2.2.2.1 (S.2.2.2.2 _ kw_3_174) dX8_digest_59 ?_
              refine lv_lmul hx hb dX8_digest_62 ?_
              refine lv_aload_n hx hb dX8_digest_63 rfl (lv_at hl 3 rfl) ?_
              refine lv_iload_n hx hb dX8_digest_64 rfl (lv_at hl 1 rfl) ?_
              refine lv_iload hx hb dX8_digest_65 (lv_at hl 0 rfl) ?_
              refine yVi (As := [.int l3_0, .int l4_1]) (cw := (cW o u cI cZ cJ T)) (ci := 8) S (v_X8_ofProcedure l D cI cZ cJ o u T ra ga τ1 l3_0 l4_1 _ H.size hok) mi_X8_ofProcedure kw_3_176 rfl rfl ⟨Nat.le_of_ble_eq_true rfl, Nat.le_of_ble_eq_true rfl⟩ hP hD hK hS hA hB cW_0 rfl rfl hl.1 (Nat.le_of_ble_eq_true rfl) ⟨Nat.le_of_ble_eq_true rfl, Nat.le_of_ble_eq_true rfl⟩ dX8_digest_67 (fun x9 σ8 H locs hok hz hP hD hS => ?_)
              refine lv_i2l (v := (x9 : Int32).toInt64) hx hb dX8_digest_70 rfl ?_
              refine lv_ladd hx hb dX8_digest_71 ?_
              refine lv_topl (fun x10 ex10 => ?_)
              have hok := hok x10 ex10
              refine lv_lstore_n (lv' := [(1, .long x10), (4, .int l4_1), (3, .int l3_0), (0, .ref o)]) hx hb dX8_digest_72 rfl hl (by decide) rfl (fun ls hl => ?_)
              refine lv_iinc (v := l4_1 + 1) (lv' := [(4, .int (l4_1 + 1)), (1, .long x10), (3, .int l3_0), (0, .ref o)]) hx hb dX8_digest_73 hl (k := 1) rfl rfl (by decide) rfl (fun ls hl => ?_)
              refine lv_goto (tgt := 51) hx hb dX8_digest_76 (by decide) ?_
              exact ih51 σ8 (l4_1 + 1) x10 H locs ls hok (lv_sub hl [0, 2, 1, 3] rfl) hP hD hS
        refine lp51 _ ?_ FUEL τ0 0 l1_0 _ _ _ hok (lv_sub hl [0, 1, 2, 3] rfl) hP hD hS
        intro σ11 x12 x13 H locs ls hok hl hP hD hS
        refine lv_iconst (v := 0) hx hb dX8_digest_79 (by decide) ?_
        refine lv_istore (lv' := [(4, .int 0), (3, .int l3_0), (1, .long x13), (0, .ref o)]) hx hb dX8_digest_80 hl (by decide) rfl (fun ls hl => ?_)
        have lp82 : ∀ (K : FS → Int32 → Int64 → Prop), (∀ (τ1 : FS) (l4_1 : Int32) (l1_1 : Int64) (H : Heap) (locs : List Loc) (ls : Array Slot), K τ1 l4_1 l1_1 → lv_has ls 6 [(4, .int l4_1), (3, .int l3_0), (1, .long l1_1), (0, .ref o)] → va_P D vwCl (cW o u cI cZ cJ T τ1) H → va_D A (cW o u cI cZ cJ T τ1) → va_S A s.heap H locs → W p l e ({ frames := 7, cells := 0, slots := 0, locals := 170 }) s m args below meth c H locs 0 0 (MQ below (yQl Φ D (cW o u cI cZ cJ 83) A) args s 0 0 A) (F0 m 110 ls [])) → ∀ (n1 : Nat) (τ1 : FS) (l4_1 : Int32) (l1_1 : Int64) (H : Heap) (locs : List Loc) (ls : Array Slot), wp_X8_digest_82 l3_0 Φ K n1 τ1 l4_1 l1_1 → lv_has ls 6 [(4, .int l4_1), (3, .int l3_0), (1, .long l1_1), (0, .ref o)] → va_P D vwCl (cW o u cI cZ cJ T τ1) H → va_D A (cW o u cI cZ cJ T τ1) → va_S A s.heap H locs → W p l e ({ frames := 7, cells := 0, slots := 0, locals := 170 }) s m args below meth c H locs 0 0 (MQ below (yQl Φ D (cW o u cI cZ cJ 83) A) args s 0 0 A) (F0 m 82 ls []) := by
          intro K hk n1
          induction n1 with
          | zero => intro τ1 l4_1 l1_1 H locs ls hok; exact False.elim hok
          | succ n1 ih82 =>
            intro τ1 l4_1 l1_1 H locs ls hok hl hP hD hS
            refine lv_iload hx hb dX8_digest_82 (lv_at hl 0 rfl) ?_
            refine lv_bipush (v := 7) hx hb dX8_digest_84 (by decide) ?_
            refine lv_icmp_gt (tgt := 110) hx hb dX8_digest_86 (by decide) (fun c_86 => ?_) (fun c_86 => ?_)
            · have hok := hok.1 c_86
              exact hk τ1 l4_1 l1_1 H locs ls hok (lv_sub hl [0, 1, 2, 3] rfl) hP hD hS
            · have hok := hok.2 c_86
              refine lv_lload_n hx hb dX8_digest_89 rfl (lv_at hl 2 rfl) ?_
              refine lv_ldc2 hx hb S.2.2.2.1 (S.2.2.2.2 _ kw_3_174) dX8_digest_90 ?_
              refine lv_lmul hx hb dX8_digest_93 ?_
              refine lv_aload_n hx hb dX8_digest_94 rfl (lv_at hl 3 rfl) ?_
              refine lv_iload_n hx hb dX8_digest_95 rfl (lv_at hl 1 rfl) ?_
              refine lv_iload hx hb dX8_digest_96 (lv_at hl 0 rfl) ?_
              refine yVi (As := [.int l3_0, .int l4_1]) (cw := (cW o u cI cZ cJ T)) (ci := 8) S (v_X8_hiddenBy l D cI cZ cJ o u T ra ga τ1 l3_0 l4_1 _ H.size hok) mi_X8_hiddenBy kw_3_177 rfl rfl ⟨Nat.le_of_ble_eq_true rfl, Nat.le_of_ble_eq_true rfl⟩ hP hD hK hS hA hB cW_0 rfl rfl hl.1 (Nat.le_of_ble_eq_true rfl) ⟨Nat.le_of_ble_eq_true rfl, Nat.le_of_ble_eq_true rfl⟩ dX8_digest_98 (fun x15 σ14 H locs hok hz hP hD hS => ?_)
              refine lv_i2l (v := (x15 : Int32).toInt64) hx hb dX8_digest_101 rfl ?_
              refine lv_ladd hx hb dX8_digest_102 ?_
              refine lv_topl (fun x16 ex16 => ?_)
              have hok := hok x16 ex16
              refine lv_lstore_n (lv' := [(1, .long x16), (4, .int l4_1), (3, .int l3_0), (0, .ref o)]) hx hb dX8_digest_103 rfl hl (by decide) rfl (fun ls hl => ?_)
              refine lv_iinc (v := l4_1 + 1) (lv' := [(4, .int (l4_1 + 1)), (1, .long x16), (3, .int l3_0), (0, .ref o)]) hx hb dX8_digest_104 hl (k := 1) rfl rfl (by decide) rfl (fun ls hl => ?_)
              refine lv_goto (tgt := 82) hx hb dX8_digest_107 (by decide) ?_
              exact ih82 σ14 (l4_1 + 1) x16 H locs ls hok (lv_sub hl [0, 2, 1, 3] rfl) hP hD hS
        refine lp82 _ ?_ FUEL σ11 0 x13 _ _ _ hok (lv_sub hl [0, 1, 2, 3] rfl) hP hD hS
        intro σ17 x18 x19 H locs ls hok hl hP hD hS
        refine lv_aload_n hx hb dX8_digest_110 rfl (lv_at hl 3 rfl) ?_
        refine lv_iload_n hx hb dX8_digest_111 rfl (lv_at hl 1 rfl) ?_
        refine yVi (As := [.int l3_0]) (cw := (cW o u cI cZ cJ T)) (ci := 8) S (v_X8_codeLength l D cI cZ cJ o u T ra ga σ17 l3_0 _ H.size hok) mi_X8_codeLength kw_2_54 rfl rfl ⟨Nat.le_of_ble_eq_true rfl, Nat.le_of_ble_eq_true rfl⟩ hP hD hK hS hA hB cW_0 rfl rfl hl.1 (Nat.le_of_ble_eq_true rfl) ⟨Nat.le_of_ble_eq_true rfl, Nat.le_of_ble_eq_true rfl⟩ dX8_digest_112 (fun x21 σ20 H locs hok hz hP hD hS => ?_)
        refine lv_istore (lv' := [(4, .int x21), (3, .int l3_0), (1, .long x19), (0, .ref o)]) hx hb dX8_digest_115 hl (by decide) rfl (fun ls hl => ?_)
        refine lv_iconst (v := 0) hx hb dX8_digest_117 (by decide) ?_
        refine lv_istore (lv' := [(5, .int 0), (4, .int x21), (3, .int l3_0), (1, .long x19), (0, .ref o)]) hx hb dX8_digest_118 hl (by decide) rfl (fun ls hl => ?_)
        have lp120 : ∀ (K : FS → Int32 → Int64 → Prop), (∀ (τ1 : FS) (l5_1 : Int32) (l1_1 : Int64) (H : Heap) (locs : List Loc) (ls : Array Slot), K τ1 l5_1 l1_1 → lv_has ls 6 [(5, .int l5_1), (4, .int x21), (3, .int l3_0), (1, .long l1_1), (0, .ref o)] → va_P D vwCl (cW o u cI cZ cJ T τ1) H → va_D A (cW o u cI cZ cJ T τ1) → va_S A s.heap H locs → W p l e ({ frames := 7, cells := 0, slots := 0, locals := 170 }) s m args below meth c H locs 0 0 (MQ below (yQl Φ D (cW o u cI cZ cJ 83) A) args s 0 0 A) (F0 m 156 ls [])) → ∀ (n1 : Nat) (τ1 : FS) (l5_1 : Int32) (l1_1 : Int64) (H : Heap) (locs : List Loc) (ls : Array Slot), wp_X8_digest_120 l3_0 x21 Φ K n1 τ1 l5_1 l1_1 → lv_has ls 6 [(5, .int l5_1), (4, .int x21), (3, .int l3_0), (1, .long l1_1), (0, .ref o)] → va_P D vwCl (cW o u cI cZ cJ T τ1) H → va_D A (cW o u cI cZ cJ T τ1) → va_S A s.heap H locs → W p l e ({ frames := 7, cells := 0, slots := 0, locals := 170 }) s m args below meth c H locs 0 0 (MQ below (yQl Φ D (cW o u cI cZ cJ 83) A) args s 0 0 A) (F0 m 120 ls []) := by
          intro K hk n1
          induction n1 with
          | zero => intro τ1 l5_1 l1_1 H locs ls hok; exact False.elim hok
          | succ n1 ih120 =>
            intro τ1 l5_1 l1_1 H locs ls hok hl hP hD hS
            refine lv_iload hx hb dX8_digest_120 (lv_at hl 0 rfl) ?_
            refine lv_iload hx hb dX8_digest_122 (lv_at hl 1 rfl) ?_
            refine lv_iconst (v := 4) hx hb dX8_digest_124 (by decide) ?_
            refine ximul (v := x21 * 4) S dX8_digest_125 rfl ?_
            refine lv_icmp_ge (tgt := 156) hx hb dX8_digest_126 (by decide) (fun c_126 => ?_) (fun c_126 => ?_)
            · have hok := hok.1 c_126
              exact hk τ1 l5_1 l1_1 H locs ls hok (lv_sub hl [0, 1, 2, 3, 4] rfl) hP hD hS
            · have hok := hok.2 c_126
              refine lv_lload_n hx hb dX8_digest_129 rfl (lv_at hl 3 rfl) ?_
              refine lv_ldc2 hx hb S.2.2.2.1 (S.2.2.2.2 _ kw_3_174) dX8_digest_130 ?_
              refine lv_lmul hx hb dX8_digest_133 ?_
              refine lv_aload_n hx hb dX8_digest_134 rfl (lv_at hl 4 rfl) ?_
              refine lv_iload_n hx hb dX8_digest_135 rfl (lv_at hl 2 rfl) ?_
              refine lv_iload hx hb dX8_digest_136 (lv_at hl 0 rfl) ?_
              refine lv_iconst (v := 4) hx hb dX8_digest_138 (by decide) ?_
              refine xidiv (v := l5_1 / 4) S dX8_digest_139 (by decide) rfl ?_
              refine lv_iload hx hb dX8_digest_140 (lv_at hl 0 rfl) ?_
              refine lv_iconst (v := 4) hx hb dX8_digest_142 (by decide) ?_
              refine xirem (v := l5_1 - l5_1 / 4 * 4) S dX8_digest_143 (by decide) rfl ?_
              refine yVi (As := [.int l3_0, .int (l5_1 / 4), .int (l5_1 - l5_1 / 4 * 4)]) (cw := (cW o u cI cZ cJ T)) (ci := 8) S (v_X8_code l D cI cZ cJ o u T ra ga τ1 l3_0 (l5_1 / 4) (l5_1 - l5_1 / 4 * 4) _ H.size hok) mi_X8_code kw_3_189 rfl rfl ⟨Nat.le_of_ble_eq_true rfl, Nat.le_of_ble_eq_true rfl⟩ hP hD hK hS hA hB cW_0 rfl rfl hl.1 (Nat.le_of_ble_eq_true rfl) ⟨Nat.le_of_ble_eq_true rfl, Nat.le_of_ble_eq_true rfl⟩ dX8_digest_144 (fun x23 σ22 H locs hok hz hP hD hS => ?_)
              refine lv_i2l (v := (x23 : Int32).toInt64) hx hb dX8_digest_147 rfl ?_
              refine lv_ladd hx hb dX8_digest_148 ?_
              refine lv_topl (fun x24 ex24 => ?_)
              have hok := hok x24 ex24
              refine lv_lstore_n (lv' := [(1, .long x24), (5, .int l5_1), (4, .int x21), (3, .int l3_0), (0, .ref o)]) hx hb dX8_digest_149 rfl hl (by decide) rfl (fun ls hl => ?_)
              refine lv_iinc (v := l5_1 + 1) (lv' := [(5, .int (l5_1 + 1)), (1, .long x24), (4, .int x21), (3, .int l3_0), (0, .ref o)]) hx hb dX8_digest_150 hl (k := 1) rfl rfl (by decide) rfl (fun ls hl => ?_)
              refine lv_goto (tgt := 120) hx hb dX8_digest_153 (by decide) ?_
              exact ih120 σ22 (l5_1 + 1) x24 H locs ls hok (lv_sub hl [0, 2, 3, 1, 4] rfl) hP hD hS
        refine lp120 _ ?_ FUEL σ20 0 x19 _ _ _ hok (lv_sub hl [0, 1, 2, 3, 4] rfl) hP hD hS
        intro σ25 x26 x27 H locs ls hok hl hP hD hS
        refine lv_iinc (v := l3_0 + 1) (lv' := [(3, .int (l3_0 + 1)), (5, .int x26), (4, .int x21), (1, .long x27), (0, .ref o)]) hx hb dX8_digest_156 hl (k := 2) rfl rfl (by decide) rfl (fun ls hl => ?_)
        refine lv_goto (tgt := 37) hx hb dX8_digest_159 (by decide) ?_
        exact ih37 σ25 (l3_0 + 1) x27 H locs ls hok (lv_sub hl [0, 3, 4] rfl) hP hD hS
  refine lp37 _ ?_ FUEL σ5 0 x7 _ _ _ hok (lv_sub hl [0, 1, 2] rfl) hP hD hS
  intro σ28 x29 x30 H locs ls hok hl hP hD hS
  refine lv_iconst (v := 0) hx hb dX8_digest_162 (by decide) ?_
  refine lv_istore_n (lv' := [(3, .int 0), (1, .long x30), (0, .ref o)]) hx hb dX8_digest_163 rfl hl (by decide) rfl (fun ls hl => ?_)
  have lp164 : ∀ (K : FS → Int32 → Int64 → Prop), (∀ (τ0 : FS) (l3_0 : Int32) (l1_0 : Int64) (H : Heap) (locs : List Loc) (ls : Array Slot), K τ0 l3_0 l1_0 → lv_has ls 6 [(3, .int l3_0), (1, .long l1_0), (0, .ref o)] → va_P D vwCl (cW o u cI cZ cJ T τ0) H → va_D A (cW o u cI cZ cJ T τ0) → va_S A s.heap H locs → W p l e ({ frames := 7, cells := 0, slots := 0, locals := 170 }) s m args below meth c H locs 0 0 (MQ below (yQl Φ D (cW o u cI cZ cJ 83) A) args s 0 0 A) (F0 m 203 ls [])) → ∀ (n0 : Nat) (τ0 : FS) (l3_0 : Int32) (l1_0 : Int64) (H : Heap) (locs : List Loc) (ls : Array Slot), wp_X8_digest_164 Φ K n0 τ0 l3_0 l1_0 → lv_has ls 6 [(3, .int l3_0), (1, .long l1_0), (0, .ref o)] → va_P D vwCl (cW o u cI cZ cJ T τ0) H → va_D A (cW o u cI cZ cJ T τ0) → va_S A s.heap H locs → W p l e ({ frames := 7, cells := 0, slots := 0, locals := 170 }) s m args below meth c H locs 0 0 (MQ below (yQl Φ D (cW o u cI cZ cJ 83) A) args s 0 0 A) (F0 m 164 ls []) := by
    intro K hk n0
    induction n0 with
    | zero => intro τ0 l3_0 l1_0 H locs ls hok; exact False.elim hok
    | succ n0 ih164 =>
      intro τ0 l3_0 l1_0 H locs ls hok hl hP hD hS
      refine lv_iload_n hx hb dX8_digest_164 rfl (lv_at hl 0 rfl) ?_
      refine lv_aload_n hx hb dX8_digest_165 rfl (lv_at hl 2 rfl) ?_
      refine xg (ci := 8) S inX8 rfl hK hP cW_0 1 (by decide) rfl kw_5_184 rfl dX8_digest_166 ?_
      refine xg (ci := 5) S inX5 rfl hK hP cW_13 0 (by decide) rfl kw_4_40 rfl dX8_digest_169 ?_
      refine lv_iconst (v := 4) hx hb dX8_digest_172 (by decide) ?_
      refine ximul (v := (τ0.1 13 0) * 4) S dX8_digest_173 rfl ?_
      refine lv_icmp_ge (tgt := 203) hx hb dX8_digest_174 (by decide) (fun c_174 => ?_) (fun c_174 => ?_)
      · have hok := hok.1 c_174
        exact hk τ0 l3_0 l1_0 H locs ls hok (lv_sub hl [0, 1, 2] rfl) hP hD hS
      · have hok := hok.2 c_174
        refine lv_lload_n hx hb dX8_digest_177 rfl (lv_at hl 1 rfl) ?_
        refine lv_ldc2 hx hb S.2.2.2.1 (S.2.2.2.2 _ kw_3_174) dX8_digest_178 ?_
        refine lv_lmul hx hb dX8_digest_181 ?_
        refine lv_aload_n hx hb dX8_digest_182 rfl (lv_at hl 2 rfl) ?_
        refine lv_iload_n hx hb dX8_digest_183 rfl (lv_at hl 0 rfl) ?_
        refine lv_iconst (v := 4) hx hb dX8_digest_184 (by decide) ?_
        refine xidiv (v := l3_0 / 4) S dX8_digest_185 (by decide) rfl ?_
        refine lv_iconst (v := 4) hx hb dX8_digest_186 (by decide) ?_
        refine lv_iload_n hx hb dX8_digest_187 rfl (lv_at hl 0 rfl) ?_
        refine lv_iconst (v := 4) hx hb dX8_digest_188 (by decide) ?_
        refine xirem (v := l3_0 - l3_0 / 4 * 4) S dX8_digest_189 (by decide) rfl ?_
        refine xiadd (v := 4 + (l3_0 - l3_0 / 4 * 4)) S dX8_digest_190 rfl ?_
        refine yVi (As := [.int (l3_0 / 4), .int (4 + (l3_0 - l3_0 / 4 * 4))]) (cw := (cW o u cI cZ cJ T)) (ci := 8) S (v_X8_ofNode l D cI cZ cJ o u T ra ga τ0 (l3_0 / 4) (4 + (l3_0 - l3_0 / 4 * 4)) _ H.size hok) mi_X8_ofNode kw_3_190 rfl rfl ⟨Nat.le_of_ble_eq_true rfl, Nat.le_of_ble_eq_true rfl⟩ hP hD hK hS hA hB cW_0 rfl rfl hl.1 (Nat.le_of_ble_eq_true rfl) ⟨Nat.le_of_ble_eq_true rfl, Nat.le_of_ble_eq_true rfl⟩ dX8_digest_191 (fun x32 σ31 H locs hok hz hP hD hS => ?_)
        refine lv_i2l (v := (x32 : Int32).toInt64) hx hb dX8_digest_194 rfl ?_
        refine lv_ladd hx hb dX8_digest_195 ?_
        refine lv_topl (fun x33 ex33 => ?_)
        have hok := hok x33 ex33
        refine lv_lstore_n (lv' := [(1, .long x33), (3, .int l3_0), (0, .ref o)]) hx hb dX8_digest_196 rfl hl (by decide) rfl (fun ls hl => ?_)
        refine lv_iinc (v := l3_0 + 1) (lv' := [(3, .int (l3_0 + 1)), (1, .long x33), (0, .ref o)]) hx hb dX8_digest_197 hl (k := 1) rfl rfl (by decide) rfl (fun ls hl => ?_)
        refine lv_goto (tgt := 164) hx hb dX8_digest_200 (by decide) ?_
        exact ih164 σ31 (l3_0 + 1) x33 H locs ls hok (lv_sub hl [0, 1, 2] rfl) hP hD hS
  refine lp164 _ ?_ FUEL σ28 0 x30 _ _ _ hok (lv_sub hl [0, 1, 2] rfl) hP hD hS
  intro σ34 x35 x36 H locs ls hok hl hP hD hS
  refine lv_iconst (v := 0) hx hb dX8_digest_203 (by decide) ?_
  refine lv_istore_n (lv' := [(3, .int 0), (1, .long x36), (0, .ref o)]) hx hb dX8_digest_204 rfl hl (by decide) rfl (fun ls hl => ?_)
  have lp205 : ∀ (K : FS → Int32 → Int64 → Prop), (∀ (τ0 : FS) (l3_0 : Int32) (l1_0 : Int64) (H : Heap) (locs : List Loc) (ls : Array Slot), K τ0 l3_0 l1_0 → lv_has ls 6 [(3, .int l3_0), (1, .long l1_0), (0, .ref o)] → va_P D vwCl (cW o u cI cZ cJ T τ0) H → va_D A (cW o u cI cZ cJ T τ0) → va_S A s.heap H locs → W p l e ({ frames := 7, cells := 0, slots := 0, locals := 170 }) s m args below meth c H locs 0 0 (MQ below (yQl Φ D (cW o u cI cZ cJ 83) A) args s 0 0 A) (F0 m 242 ls [])) → ∀ (n0 : Nat) (τ0 : FS) (l3_0 : Int32) (l1_0 : Int64) (H : Heap) (locs : List Loc) (ls : Array Slot), wp_X8_digest_205 Φ K n0 τ0 l3_0 l1_0 → lv_has ls 6 [(3, .int l3_0), (1, .long l1_0), (0, .ref o)] → va_P D vwCl (cW o u cI cZ cJ T τ0) H → va_D A (cW o u cI cZ cJ T τ0) → va_S A s.heap H locs → W p l e ({ frames := 7, cells := 0, slots := 0, locals := 170 }) s m args below meth c H locs 0 0 (MQ below (yQl Φ D (cW o u cI cZ cJ 83) A) args s 0 0 A) (F0 m 205 ls []) := by
    intro K hk n0
    induction n0 with
    | zero => intro τ0 l3_0 l1_0 H locs ls hok; exact False.elim hok
    | succ n0 ih205 =>
      intro τ0 l3_0 l1_0 H locs ls hok hl hP hD hS
      refine lv_iload_n hx hb dX8_digest_205 rfl (lv_at hl 0 rfl) ?_
      refine lv_aload_n hx hb dX8_digest_206 rfl (lv_at hl 2 rfl) ?_
      refine xg (ci := 8) S inX8 rfl hK hP cW_0 3 (by decide) rfl kw_5_186 rfl dX8_digest_207 ?_
      refine xg (ci := 2) S inX2 rfl hK hP cW_34 3 (by decide) rfl kw_4_182 rfl dX8_digest_210 ?_
      refine lv_iconst (v := 3) hx hb dX8_digest_213 (by decide) ?_
      refine ximul (v := (τ0.1 34 3) * 3) S dX8_digest_214 rfl ?_
      refine lv_icmp_ge (tgt := 242) hx hb dX8_digest_215 (by decide) (fun c_215 => ?_) (fun c_215 => ?_)
      · have hok := hok.1 c_215
        exact hk τ0 l3_0 l1_0 H locs ls hok (lv_sub hl [0, 1, 2] rfl) hP hD hS
      · have hok := hok.2 c_215
        refine lv_lload_n hx hb dX8_digest_218 rfl (lv_at hl 1 rfl) ?_
        refine lv_ldc2 hx hb S.2.2.2.1 (S.2.2.2.2 _ kw_3_174) dX8_digest_219 ?_
        refine lv_lmul hx hb dX8_digest_222 ?_
        refine lv_aload_n hx hb dX8_digest_223 rfl (lv_at hl 2 rfl) ?_
        refine lv_iload_n hx hb dX8_digest_224 rfl (lv_at hl 0 rfl) ?_
        refine lv_iconst (v := 3) hx hb dX8_digest_225 (by decide) ?_
        refine xidiv (v := l3_0 / 3) S dX8_digest_226 (by decide) rfl ?_
        refine lv_iload_n hx hb dX8_digest_227 rfl (lv_at hl 0 rfl) ?_
        refine lv_iconst (v := 3) hx hb dX8_digest_228 (by decide) ?_
        refine xirem (v := l3_0 - l3_0 / 3 * 3) S dX8_digest_229 (by decide) rfl ?_
        refine yVi (As := [.int (l3_0 / 3), .int (l3_0 - l3_0 / 3 * 3)]) (cw := (cW o u cI cZ cJ T)) (ci := 8) S (v_X8_fault l D cI cZ cJ o u T ra ga τ0 (l3_0 / 3) (l3_0 - l3_0 / 3 * 3) _ H.size hok) mi_X8_fault kw_3_191 rfl rfl ⟨Nat.le_of_ble_eq_true rfl, Nat.le_of_ble_eq_true rfl⟩ hP hD hK hS hA hB cW_0 rfl rfl hl.1 (Nat.le_of_ble_eq_true rfl) ⟨Nat.le_of_ble_eq_true rfl, Nat.le_of_ble_eq_true rfl⟩ dX8_digest_230 (fun x38 σ37 H locs hok hz hP hD hS => ?_)
        refine lv_i2l (v := (x38 : Int32).toInt64) hx hb dX8_digest_233 rfl ?_
        refine lv_ladd hx hb dX8_digest_234 ?_
        refine lv_topl (fun x39 ex39 => ?_)
        have hok := hok x39 ex39
        refine lv_lstore_n (lv' := [(1, .long x39), (3, .int l3_0), (0, .ref o)]) hx hb dX8_digest_235 rfl hl (by decide) rfl (fun ls hl => ?_)
        refine lv_iinc (v := l3_0 + 1) (lv' := [(3, .int (l3_0 + 1)), (1, .long x39), (0, .ref o)]) hx hb dX8_digest_236 hl (k := 1) rfl rfl (by decide) rfl (fun ls hl => ?_)
        refine lv_goto (tgt := 205) hx hb dX8_digest_239 (by decide) ?_
        exact ih205 σ37 (l3_0 + 1) x39 H locs ls hok (lv_sub hl [0, 1, 2] rfl) hP hD hS
  refine lp205 _ ?_ FUEL σ34 0 x36 _ _ _ hok (lv_sub hl [0, 1, 2] rfl) hP hD hS
  intro σ40 x41 x42 H locs ls hok hl hP hD hS
  refine lv_iconst (v := 0) hx hb dX8_digest_242 (by decide) ?_
  refine lv_istore_n (lv' := [(3, .int 0), (1, .long x42), (0, .ref o)]) hx hb dX8_digest_243 rfl hl (by decide) rfl (fun ls hl => ?_)
  have lp244 : ∀ (K : FS → Int32 → Int64 → Prop), (∀ (τ0 : FS) (l3_0 : Int32) (l1_0 : Int64) (H : Heap) (locs : List Loc) (ls : Array Slot), K τ0 l3_0 l1_0 → lv_has ls 6 [(3, .int l3_0), (1, .long l1_0), (0, .ref o)] → va_P D vwCl (cW o u cI cZ cJ T τ0) H → va_D A (cW o u cI cZ cJ T τ0) → va_S A s.heap H locs → W p l e ({ frames := 7, cells := 0, slots := 0, locals := 170 }) s m args below meth c H locs 0 0 (MQ below (yQl Φ D (cW o u cI cZ cJ 83) A) args s 0 0 A) (F0 m 269 ls [])) → ∀ (n0 : Nat) (τ0 : FS) (l3_0 : Int32) (l1_0 : Int64) (H : Heap) (locs : List Loc) (ls : Array Slot), wp_X8_digest_244 Φ K n0 τ0 l3_0 l1_0 → lv_has ls 6 [(3, .int l3_0), (1, .long l1_0), (0, .ref o)] → va_P D vwCl (cW o u cI cZ cJ T τ0) H → va_D A (cW o u cI cZ cJ T τ0) → va_S A s.heap H locs → W p l e ({ frames := 7, cells := 0, slots := 0, locals := 170 }) s m args below meth c H locs 0 0 (MQ below (yQl Φ D (cW o u cI cZ cJ 83) A) args s 0 0 A) (F0 m 244 ls []) := by
    intro K hk n0
    induction n0 with
    | zero => intro τ0 l3_0 l1_0 H locs ls hok; exact False.elim hok
    | succ n0 ih244 =>
      intro τ0 l3_0 l1_0 H locs ls hok hl hP hD hS
      refine lv_iload_n hx hb dX8_digest_244 rfl (lv_at hl 0 rfl) ?_
      refine lv_bipush (v := 10) hx hb dX8_digest_245 (by decide) ?_
      refine lv_icmp_gt (tgt := 269) hx hb dX8_digest_247 (by decide) (fun c_247 => ?_) (fun c_247 => ?_)
      · have hok := hok.1 c_247
        exact hk τ0 l3_0 l1_0 H locs ls hok (lv_sub hl [0, 1, 2] rfl) hP hD hS
      · have hok := hok.2 c_247
        refine lv_lload_n hx hb dX8_digest_250 rfl (lv_at hl 1 rfl) ?_
        refine lv_ldc2 hx hb S.2.2.2.1 (S.2.2.2.2 _ kw_3_174) dX8_digest_251 ?_
        refine lv_lmul hx hb dX8_digest_254 ?_
        refine lv_aload_n hx hb dX8_digest_255 rfl (lv_at hl 2 rfl) ?_
        refine lv_iload_n hx hb dX8_digest_256 rfl (lv_at hl 0 rfl) ?_
        refine yVi (As := [.int l3_0]) (cw := (cW o u cI cZ cJ T)) (ci := 8) S (v_X8_ofRun l D cI cZ cJ o u T ra ga τ0 l3_0 _ H.size hok) mi_X8_ofRun kw_3_192 rfl rfl ⟨Nat.le_of_ble_eq_true rfl, Nat.le_of_ble_eq_true rfl⟩ hP hD hK hS hA hB cW_0 rfl rfl hl.1 (Nat.le_of_ble_eq_true rfl) ⟨Nat.le_of_ble_eq_true rfl, Nat.le_of_ble_eq_true rfl⟩ dX8_digest_257 (fun x44 σ43 H locs hok hz hP hD hS => ?_)
        refine lv_i2l (v := (x44 : Int32).toInt64) hx hb dX8_digest_260 rfl ?_
        refine lv_ladd hx hb dX8_digest_261 ?_
        refine lv_topl (fun x45 ex45 => ?_)
        have hok := hok x45 ex45
        refine lv_lstore_n (lv' := [(1, .long x45), (3, .int l3_0), (0, .ref o)]) hx hb dX8_digest_262 rfl hl (by decide) rfl (fun ls hl => ?_)
        refine lv_iinc (v := l3_0 + 1) (lv' := [(3, .int (l3_0 + 1)), (1, .long x45), (0, .ref o)]) hx hb dX8_digest_263 hl (k := 1) rfl rfl (by decide) rfl (fun ls hl => ?_)
        refine lv_goto (tgt := 244) hx hb dX8_digest_266 (by decide) ?_
        exact ih244 σ43 (l3_0 + 1) x45 H locs ls hok (lv_sub hl [0, 1, 2] rfl) hP hD hS
  refine lp244 _ ?_ FUEL σ40 0 x42 _ _ _ hok (lv_sub hl [0, 1, 2] rfl) hP hD hS
  intro σ46 x47 x48 H locs ls hok hl hP hD hS
  refine lv_iconst (v := 0) hx hb dX8_digest_269 (by decide) ?_
  refine lv_istore_n (lv' := [(3, .int 0), (1, .long x48), (0, .ref o)]) hx hb dX8_digest_270 rfl hl (by decide) rfl (fun ls hl => ?_)
  have lp271 : ∀ (K : FS → Int32 → Int64 → Prop), (∀ (τ0 : FS) (l3_0 : Int32) (l1_0 : Int64) (H : Heap) (locs : List Loc) (ls : Array Slot), K τ0 l3_0 l1_0 → lv_has ls 6 [(3, .int l3_0), (1, .long l1_0), (0, .ref o)] → va_P D vwCl (cW o u cI cZ cJ T τ0) H → va_D A (cW o u cI cZ cJ T τ0) → va_S A s.heap H locs → W p l e ({ frames := 7, cells := 0, slots := 0, locals := 170 }) s m args below meth c H locs 0 0 (MQ below (yQl Φ D (cW o u cI cZ cJ 83) A) args s 0 0 A) (F0 m 308 ls [])) → ∀ (n0 : Nat) (τ0 : FS) (l3_0 : Int32) (l1_0 : Int64) (H : Heap) (locs : List Loc) (ls : Array Slot), wp_X8_digest_271 Φ K n0 τ0 l3_0 l1_0 → lv_has ls 6 [(3, .int l3_0), (1, .long l1_0), (0, .ref o)] → va_P D vwCl (cW o u cI cZ cJ T τ0) H → va_D A (cW o u cI cZ cJ T τ0) → va_S A s.heap H locs → W p l e ({ frames := 7, cells := 0, slots := 0, locals := 170 }) s m args below meth c H locs 0 0 (MQ below (yQl Φ D (cW o u cI cZ cJ 83) A) args s 0 0 A) (F0 m 271 ls []) := by
    intro K hk n0
    induction n0 with
    | zero => intro τ0 l3_0 l1_0 H locs ls hok; exact False.elim hok
    | succ n0 ih271 =>
      intro τ0 l3_0 l1_0 H locs ls hok hl hP hD hS
      refine lv_iload_n hx hb dX8_digest_271 rfl (lv_at hl 0 rfl) ?_
      refine lv_aload_n hx hb dX8_digest_272 rfl (lv_at hl 2 rfl) ?_
      refine xg (ci := 8) S inX8 rfl hK hP cW_0 7 (by decide) rfl kw_5_190 rfl dX8_digest_273 ?_
      refine yVi (As := []) (cw := (cW o u cI cZ cJ T)) (ci := 6) S (v_X6_kept_80 l D cI cZ cJ o u T ra ga τ0 _ H.size hok) mi_X6_kept kw_3_143 rfl rfl ⟨Nat.le_of_ble_eq_true rfl, Nat.le_of_ble_eq_true rfl⟩ hP hD hK hS hA hB cW_80 rfl rfl hl.1 (Nat.le_of_ble_eq_true rfl) ⟨Nat.le_of_ble_eq_true rfl, Nat.le_of_ble_eq_true rfl⟩ dX8_digest_276 (fun x50 σ49 H locs hok hz hP hD hS => ?_)
      refine lv_iconst (v := 3) hx hb dX8_digest_279 (by decide) ?_
      refine ximul (v := x50 * 3) S dX8_digest_280 rfl ?_
      refine lv_icmp_ge (tgt := 308) hx hb dX8_digest_281 (by decide) (fun c_281 => ?_) (fun c_281 => ?_)
      · have hok := hok.1 c_281
        exact hk σ49 l3_0 l1_0 H locs ls hok (lv_sub hl [0, 1, 2] rfl) hP hD hS
      · have hok := hok.2 c_281
        refine lv_lload_n hx hb dX8_digest_284 rfl (lv_at hl 1 rfl) ?_
        refine lv_ldc2 hx hb S.2.2.2.1 (S.2.2.2.2 _ kw_3_174) dX8_digest_285 ?_
        refine lv_lmul hx hb dX8_digest_288 ?_
        refine lv_aload_n hx hb dX8_digest_289 rfl (lv_at hl 2 rfl) ?_
        refine lv_iload_n hx hb dX8_digest_290 rfl (lv_at hl 0 rfl) ?_
        refine lv_iconst (v := 3) hx hb dX8_digest_291 (by decide) ?_
        refine xidiv (v := l3_0 / 3) S dX8_digest_292 (by decide) rfl ?_
        refine lv_iload_n hx hb dX8_digest_293 rfl (lv_at hl 0 rfl) ?_
        refine lv_iconst (v := 3) hx hb dX8_digest_294 (by decide) ?_
        refine xirem (v := l3_0 - l3_0 / 3 * 3) S dX8_digest_295 (by decide) rfl ?_
        refine yVi (As := [.int (l3_0 / 3), .int (l3_0 - l3_0 / 3 * 3)]) (cw := (cW o u cI cZ cJ T)) (ci := 8) S (v_X8_printed l D cI cZ cJ o u T ra ga σ49 (l3_0 / 3) (l3_0 - l3_0 / 3 * 3) _ H.size hok) mi_X8_printed kw_3_193 rfl rfl ⟨Nat.le_of_ble_eq_true rfl, Nat.le_of_ble_eq_true rfl⟩ hP hD hK hS hA hB cW_0 rfl rfl hl.1 (Nat.le_of_ble_eq_true rfl) ⟨Nat.le_of_ble_eq_true rfl, Nat.le_of_ble_eq_true rfl⟩ dX8_digest_296 (fun x52 σ51 H locs hok hz hP hD hS => ?_)
        refine lv_i2l (v := (x52 : Int32).toInt64) hx hb dX8_digest_299 rfl ?_
        refine lv_ladd hx hb dX8_digest_300 ?_
        refine lv_topl (fun x53 ex53 => ?_)
        have hok := hok x53 ex53
        refine lv_lstore_n (lv' := [(1, .long x53), (3, .int l3_0), (0, .ref o)]) hx hb dX8_digest_301 rfl hl (by decide) rfl (fun ls hl => ?_)
        refine lv_iinc (v := l3_0 + 1) (lv' := [(3, .int (l3_0 + 1)), (1, .long x53), (0, .ref o)]) hx hb dX8_digest_302 hl (k := 1) rfl rfl (by decide) rfl (fun ls hl => ?_)
        refine lv_goto (tgt := 271) hx hb dX8_digest_305 (by decide) ?_
        exact ih271 σ51 (l3_0 + 1) x53 H locs ls hok (lv_sub hl [0, 1, 2] rfl) hP hD hS
  refine lp271 _ ?_ FUEL σ46 0 x48 _ _ _ hok (lv_sub hl [0, 1, 2] rfl) hP hD hS
  intro σ54 x55 x56 H locs ls hok hl hP hD hS
  refine lv_aload_n hx hb dX8_digest_308 rfl (lv_at hl 2 rfl) ?_
  refine xg (ci := 8) S inX8 rfl hK hP cW_0 3 (by decide) rfl kw_5_186 rfl dX8_digest_309 ?_
  refine xg (ci := 2) S inX2 rfl hK hP cW_34 3 (by decide) rfl kw_4_182 rfl dX8_digest_312 ?_
  refine lv_if_eq (tgt := 320) hx hb dX8_digest_315 (by decide) (fun c_315 => ?_) (fun c_315 => ?_)
  · have hok := hok.1 c_315
    refine lv_lload_n hx hb dX8_digest_320 rfl (lv_at hl 1 rfl) ?_
    refine lv_ldc2 hx hb S.2.2.2.1 (S.2.2.2.2 _ kw_3_174) dX8_digest_321 ?_
    refine lv_lmul hx hb dX8_digest_324 ?_
    refine lv_aload_n hx hb dX8_digest_325 rfl (lv_at hl 2 rfl) ?_
    refine lv_iconst (v := 0) hx hb dX8_digest_326 (by decide) ?_
    refine yVi (As := [.int 0]) (cw := (cW o u cI cZ cJ T)) (ci := 8) S (v_X8_wholeCodeLength l D cI cZ cJ o u T ra ga σ54 0 _ H.size hok) mi_X8_wholeCodeLength kw_3_151 rfl rfl ⟨Nat.le_of_ble_eq_true rfl, Nat.le_of_ble_eq_true rfl⟩ hP hD hK hS hA hB cW_0 rfl rfl hl.1 (Nat.le_of_ble_eq_true rfl) ⟨Nat.le_of_ble_eq_true rfl, Nat.le_of_ble_eq_true rfl⟩ dX8_digest_327 (fun x58 σ57 H locs hok hz hP hD hS => ?_)
    refine lv_i2l (v := (x58 : Int32).toInt64) hx hb dX8_digest_330 rfl ?_
    refine lv_ladd hx hb dX8_digest_331 ?_
    refine lv_topl (fun x59 ex59 => ?_)
    have hok := hok x59 ex59
    refine lv_lstore_n (lv' := [(1, .long x59), (3, .int x55), (0, .ref o)]) hx hb dX8_digest_332 rfl hl (by decide) rfl (fun ls hl => ?_)
    refine lv_aload_n hx hb dX8_digest_333 rfl (lv_at hl 2 rfl) ?_
    refine xg (ci := 8) S inX8 rfl hK hP cW_0 6 (by decide) rfl kw_5_189 rfl dX8_digest_334 ?_
    refine lv_iconst (v := 0) hx hb dX8_digest_337 (by decide) ?_
    refine lv_aload_n hx hb dX8_digest_338 rfl (lv_at hl 2 rfl) ?_
    refine xg (ci := 8) S inX8 rfl hK hP cW_0 11 (by decide) rfl kw_5_194 rfl dX8_digest_339 ?_
    refine lv_aload_n hx hb dX8_digest_342 rfl (lv_at hl 2 rfl) ?_
    refine xg (ci := 8) S inX8 rfl hK hP cW_0 12 (by decide) rfl kw_5_195 rfl dX8_digest_343 ?_
    refine lv_aload_n hx hb dX8_digest_346 rfl (lv_at hl 2 rfl) ?_
    refine xg (ci := 8) S inX8 rfl hK hP cW_0 8 (by decide) rfl kw_5_191 rfl dX8_digest_347 ?_
    refine yVv (As := [.int 0, .int (σ57.1 0 11), .int (σ57.1 0 12), .ref (u 83)]) (cw := (cW o u cI cZ cJ 83)) (ci := 3) S (v_X3_execute_84 l D cI cZ cJ o u T ra ga σ57 0 (σ57.1 0 11) (σ57.1 0 12) _ H.size hok) mi_X3_execute kw_2_202 rfl rfl ⟨Nat.le_of_ble_eq_true rfl, Nat.le_of_ble_eq_true rfl⟩ hP hD hK hS hA hB cW_65 rfl rfl hl.1 (Nat.le_of_ble_eq_true rfl) ⟨Nat.le_of_ble_eq_true rfl, Nat.le_of_ble_eq_true rfl⟩ dX8_digest_350 (fun σ60 H locs hok hz hP hD hS => ?_)
    refine lv_lload_n hx hb dX8_digest_353 rfl (lv_at hl 0 rfl) ?_
    refine lv_ldc2 hx hb S.2.2.2.1 (S.2.2.2.2 _ kw_3_174) dX8_digest_354 ?_
    refine lv_lmul hx hb dX8_digest_357 ?_
    refine lv_aload_n hx hb dX8_digest_358 rfl (lv_at hl 2 rfl) ?_
    refine xg (ci := 8) S inX8 rfl hK hP cW_0 8 (by decide) rfl kw_5_191 rfl dX8_digest_359 ?_
    refine xg (ci := 6) S inX6 rfl hK hP cW_84 6 (by decide) rfl kw_5_84 rfl dX8_digest_362 ?_
    refine lv_i2l (v := ((σ60.1 84 6) : Int32).toInt64) hx hb dX8_digest_365 rfl ?_
    refine lv_ladd hx hb dX8_digest_366 ?_
    refine lv_topl (fun x61 ex61 => ?_)
    have hok := hok x61 ex61
    refine lv_lstore_n (lv' := [(1, .long x61), (3, .int x55), (0, .ref o)]) hx hb dX8_digest_367 rfl hl (by decide) rfl (fun ls hl => ?_)
    refine lv_lload_n hx hb dX8_digest_368 rfl (lv_at hl 0 rfl) ?_
    refine lv_ldc2 hx hb S.2.2.2.1 (S.2.2.2.2 _ kw_3_174) dX8_digest_369 ?_
    refine lv_lmul hx hb dX8_digest_372 ?_
    refine lv_aload_n hx hb dX8_digest_373 rfl (lv_at hl 2 rfl) ?_
    refine xg (ci := 8) S inX8 rfl hK hP cW_0 8 (by decide) rfl kw_5_191 rfl dX8_digest_374 ?_
    refine xg (ci := 6) S inX6 rfl hK hP cW_84 7 (by decide) rfl kw_5_87 rfl dX8_digest_377 ?_
    refine lv_i2l (v := ((σ60.1 84 7) : Int32).toInt64) hx hb dX8_digest_380 rfl ?_
    refine lv_ladd hx hb dX8_digest_381 ?_
    refine lv_topl (fun x62 ex62 => ?_)
    have hok := hok x62 ex62
    refine lv_lstore_n (lv' := [(1, .long x62), (3, .int x55), (0, .ref o)]) hx hb dX8_digest_382 rfl hl (by decide) rfl (fun ls hl => ?_)
    refine lv_aload_n hx hb dX8_digest_383 rfl (lv_at hl 2 rfl) ?_
    refine xg (ci := 8) S inX8 rfl hK hP cW_0 6 (by decide) rfl kw_5_189 rfl dX8_digest_384 ?_
    refine lv_aload_n hx hb dX8_digest_387 rfl (lv_at hl 2 rfl) ?_
    refine xg (ci := 8) S inX8 rfl hK hP cW_0 10 (by decide) rfl kw_5_193 rfl dX8_digest_388 ?_
    refine lv_sipush (v := 200) hx hb dX8_digest_391 (by decide) ?_
    refine lv_bipush (v := 10) hx hb dX8_digest_394 (by decide) ?_
    refine lv_aload_n hx hb dX8_digest_396 rfl (lv_at hl 2 rfl) ?_
    refine xg (ci := 8) S inX8 rfl hK hP cW_0 8 (by decide) rfl kw_5_191 rfl dX8_digest_397 ?_
    refine yVv (As := [.int (σ60.1 0 10), .int 200, .int 10, .ref (u 83)]) (cw := (cW o u cI cZ cJ 83)) (ci := 3) S (v_X3_execute_84 l D cI cZ cJ o u 83 ra ga σ60 (σ60.1 0 10) 200 10 _ H.size hok) mi_X3_execute kw_2_202 rfl rfl ⟨Nat.le_of_ble_eq_true rfl, Nat.le_of_ble_eq_true rfl⟩ hP hD hK hS hA hB cW_65 rfl rfl hl.1 (Nat.le_of_ble_eq_true rfl) ⟨Nat.le_of_ble_eq_true rfl, Nat.le_of_ble_eq_true rfl⟩ dX8_digest_400 (fun σ63 H locs hok hz hP hD hS => ?_)
    refine lv_iconst (v := 0) hx hb dX8_digest_403 (by decide) ?_
    refine lv_istore_n (lv' := [(3, .int 0), (1, .long x62), (0, .ref o)]) hx hb dX8_digest_404 rfl hl (by decide) rfl (fun ls hl => ?_)
    have lp405 : ∀ (K : FS → Int32 → Int64 → Prop), (∀ (τ0 : FS) (l3_0 : Int32) (l1_0 : Int64) (H : Heap) (locs : List Loc) (ls : Array Slot), K τ0 l3_0 l1_0 → lv_has ls 6 [(3, .int l3_0), (1, .long l1_0), (0, .ref o)] → va_P D vwCl (cW o u cI cZ cJ 83 τ0) H → va_D A (cW o u cI cZ cJ 83 τ0) → va_S A s.heap H locs → W p l e ({ frames := 7, cells := 0, slots := 0, locals := 170 }) s m args below meth c H locs 0 0 (MQ below (yQl Φ D (cW o u cI cZ cJ 83) A) args s 0 0 A) (F0 m 433 ls [])) → ∀ (n0 : Nat) (τ0 : FS) (l3_0 : Int32) (l1_0 : Int64) (H : Heap) (locs : List Loc) (ls : Array Slot), wp_X8_digest_405 Φ K n0 τ0 l3_0 l1_0 → lv_has ls 6 [(3, .int l3_0), (1, .long l1_0), (0, .ref o)] → va_P D vwCl (cW o u cI cZ cJ 83 τ0) H → va_D A (cW o u cI cZ cJ 83 τ0) → va_S A s.heap H locs → W p l e ({ frames := 7, cells := 0, slots := 0, locals := 170 }) s m args below meth c H locs 0 0 (MQ below (yQl Φ D (cW o u cI cZ cJ 83) A) args s 0 0 A) (F0 m 405 ls []) := by
      intro K hk n0
      induction n0 with
      | zero => intro τ0 l3_0 l1_0 H locs ls hok; exact False.elim hok
      | succ n0 ih405 =>
        intro τ0 l3_0 l1_0 H locs ls hok hl hP hD hS
        refine lv_iload_n hx hb dX8_digest_405 rfl (lv_at hl 0 rfl) ?_
        refine lv_bipush (v := 9) hx hb dX8_digest_406 (by decide) ?_
        refine lv_icmp_gt (tgt := 433) hx hb dX8_digest_408 (by decide) (fun c_408 => ?_) (fun c_408 => ?_)
        · have hok := hok.1 c_408
          exact hk τ0 l3_0 l1_0 H locs ls hok (lv_sub hl [0, 1, 2] rfl) hP hD hS
        · have hok := hok.2 c_408
          refine lv_lload_n hx hb dX8_digest_411 rfl (lv_at hl 1 rfl) ?_
          refine lv_ldc2 hx hb S.2.2.2.1 (S.2.2.2.2 _ kw_3_174) dX8_digest_412 ?_
          refine lv_lmul hx hb dX8_digest_415 ?_
          refine lv_aload_n hx hb dX8_digest_416 rfl (lv_at hl 2 rfl) ?_
          refine xg (ci := 8) S inX8 rfl hK hP cW_0 8 (by decide) rfl kw_5_191 rfl dX8_digest_417 ?_
          refine lv_iload_n hx hb dX8_digest_420 rfl (lv_at hl 0 rfl) ?_
          refine yVi (As := [.int l3_0]) (cw := (cW o u cI cZ cJ 83)) (ci := 6) S (v_X6_answer_84 l D cI cZ cJ o u 83 ra ga τ0 l3_0 _ H.size hok) mi_X6_answer kw_3_135 rfl rfl ⟨Nat.le_of_ble_eq_true rfl, Nat.le_of_ble_eq_true rfl⟩ hP hD hK hS hA hB cW_84 rfl rfl hl.1 (Nat.le_of_ble_eq_true rfl) ⟨Nat.le_of_ble_eq_true rfl, Nat.le_of_ble_eq_true rfl⟩ dX8_digest_421 (fun x65 σ64 H locs hok hz hP hD hS => ?_)
          refine lv_i2l (v := (x65 : Int32).toInt64) hx hb dX8_digest_424 rfl ?_
          refine lv_ladd hx hb dX8_digest_425 ?_
          refine lv_topl (fun x66 ex66 => ?_)
          have hok := hok x66 ex66
          refine lv_lstore_n (lv' := [(1, .long x66), (3, .int l3_0), (0, .ref o)]) hx hb dX8_digest_426 rfl hl (by decide) rfl (fun ls hl => ?_)
          refine lv_iinc (v := l3_0 + 1) (lv' := [(3, .int (l3_0 + 1)), (1, .long x66), (0, .ref o)]) hx hb dX8_digest_427 hl (k := 1) rfl rfl (by decide) rfl (fun ls hl => ?_)
          refine lv_goto (tgt := 405) hx hb dX8_digest_430 (by decide) ?_
          exact ih405 σ64 (l3_0 + 1) x66 H locs ls hok (lv_sub hl [0, 1, 2] rfl) hP hD hS
    refine lp405 _ ?_ FUEL σ63 0 x62 _ _ _ hok (lv_sub hl [0, 1, 2] rfl) hP hD hS
    intro σ67 x68 x69 H locs ls hok hl hP hD hS
    refine lv_lload_n hx hb dX8_digest_433 rfl (lv_at hl 1 rfl) ?_
    exact yEndl S hr hlocks hP hD hS (Nat.le_of_ble_eq_true rfl) (Nat.le_of_ble_eq_true rfl) dX8_digest_434 hok
  · have hok := hok.2 c_315
    refine lv_lload_n hx hb dX8_digest_318 rfl (lv_at hl 1 rfl) ?_
    exact False.elim hok

set_option maxHeartbeats 8000000 in
set_option maxRecDepth 100000 in
theorem v_X8_needState (l : Launch) (D : va_G) (cI cZ cJ : ClassId) (o : Nat) (u : Nat → Nat) (T : Nat) (ra : Nat → Nat) (ga : SG) (σ : FS) (a1 : Int32) (Φ : FS → Prop) (sz : Nat) (hok : (wp_X8_needState σ a1 Φ)) : Met l yX8_needState (uW yX8_needState cX8_needState 1 none) ({ frames := 0, cells := 0, slots := 0, locals := 0 }) (va_Pc [.int a1] (aS ra ga D (tyL cI cZ cJ) (cW o u cI cZ cJ T σ) sz)) (yQv Φ D (cW o u cI cZ cJ T) (va_A (cW o u cI cZ cJ T σ) sz)) 0 0 (va_A (cW o u cI cZ cJ T σ) sz) := by
  refine aStart (lv := [(0, .int a1)]) (Qc := fun A => yQv Φ D (cW o u cI cZ cJ T) A) (by decide) (Nat.le_of_ble_eq_true rfl) rfl ?_
  intro p e s m args below meth c ls A H S hr hlocks hnm hl hK hP hD hS hA hB
  have hx := S.1
  have hb := S.2.1
  refine lv_iload_n hx hb dX8_needState_0 rfl (lv_at hl 0 rfl) ?_
  refine lv_if_ne (tgt := 15) hx hb dX8_needState_1 (by decide) (fun c_1 => ?_) (fun c_1 => ?_)
  · have hok := hok.2 c_1
    exact yEndv S hr hlocks hP hD hS (Nat.le_of_ble_eq_true rfl) (Nat.le_of_ble_eq_true rfl) dX8_needState_15 hok
  · have hok := hok.1 c_1
    exact False.elim hok

set_option maxHeartbeats 8000000 in
set_option maxRecDepth 100000 in
theorem v_X6_start_80 (l : Launch) (D : va_G) (cI cZ cJ : ClassId) (o : Nat) (u : Nat → Nat) (T : Nat) (ra : Nat → Nat) (ga : SG) (σ : FS) (Φ : FS → Prop) (sz : Nat) (hok : (wp_X6_start 80 σ Φ)) : Met l yX6_start (uW yX6_start cX6_start 1 none) ({ frames := 0, cells := 0, slots := 0, locals := 0 }) (va_Pc [.ref (u 79)] (aS ra ga D (tyL cI cZ cJ) (cW o u cI cZ cJ T σ) sz)) (yQv Φ D (cW o u cI cZ cJ T) (va_A (cW o u cI cZ cJ T σ) sz)) 0 0 (va_A (cW o u cI cZ cJ T σ) sz) := by
  refine aStart (lv := [(0, .ref (u 79))]) (Qc := fun A => yQv Φ D (cW o u cI cZ cJ T) A) (by decide) (Nat.le_of_ble_eq_true rfl) rfl ?_
  intro p e s m args below meth c ls A H S hr hlocks hnm hl hK hP hD hS hA hB
  have hx := S.1
  have hb := S.2.1
  refine lv_aload_n hx hb dX6_start_0 rfl (lv_at hl 0 rfl) ?_
  refine lv_iconst (v := 0) hx hb dX6_start_1 (by decide) ?_
  refine yp (ci := 6) (v := .int 0) (cw := (cW o u cI cZ cJ T)) S inX6 tyX6 tyX6_ok nmX6 rfl hK hP hD hS cW_80 0 (by decide) kw_5_71 rfl rfl rfl rfl (Nat.le_of_ble_eq_true rfl) dX6_start_2 cWp_80_0 (fun σ1 H locs eσ1 hP hD hS => ?_)
  have hok := hok σ1 eσ1
  refine lv_aload_n hx hb dX6_start_5 rfl (lv_at hl 0 rfl) ?_
  refine lv_iconst (v := (-1)) hx hb dX6_start_6 (by decide) ?_
  refine yp (ci := 6) (v := .int (-1)) (cw := (cW o u cI cZ cJ T)) S inX6 tyX6 tyX6_ok nmX6 rfl hK hP hD hS cW_80 1 (by decide) kw_5_74 rfl rfl rfl rfl (Nat.le_of_ble_eq_true rfl) dX6_start_7 cWp_80_1 (fun σ2 H locs eσ2 hP hD hS => ?_)
  have hok := hok σ2 eσ2
  refine lv_aload_n hx hb dX6_start_10 rfl (lv_at hl 0 rfl) ?_
  refine lv_iconst (v := (-1)) hx hb dX6_start_11 (by decide) ?_
  refine yp (ci := 6) (v := .int (-1)) (cw := (cW o u cI cZ cJ T)) S inX6 tyX6 tyX6_ok nmX6 rfl hK hP hD hS cW_80 2 (by decide) kw_5_76 rfl rfl rfl rfl (Nat.le_of_ble_eq_true rfl) dX6_start_12 cWp_80_2 (fun σ3 H locs eσ3 hP hD hS => ?_)
  have hok := hok σ3 eσ3
  refine lv_aload_n hx hb dX6_start_15 rfl (lv_at hl 0 rfl) ?_
  refine lv_iconst (v := 0) hx hb dX6_start_16 (by decide) ?_
  refine yp (ci := 6) (v := .int 0) (cw := (cW o u cI cZ cJ T)) S inX6 tyX6 tyX6_ok nmX6 rfl hK hP hD hS cW_80 3 (by decide) kw_5_78 rfl rfl rfl rfl (Nat.le_of_ble_eq_true rfl) dX6_start_17 cWp_80_3 (fun σ4 H locs eσ4 hP hD hS => ?_)
  have hok := hok σ4 eσ4
  refine lv_aload_n hx hb dX6_start_20 rfl (lv_at hl 0 rfl) ?_
  refine lv_iconst (v := 0) hx hb dX6_start_21 (by decide) ?_
  refine yp (ci := 6) (v := .int 0) (cw := (cW o u cI cZ cJ T)) S inX6 tyX6 tyX6_ok nmX6 rfl hK hP hD hS cW_80 4 (by decide) kw_5_80 rfl rfl rfl rfl (Nat.le_of_ble_eq_true rfl) dX6_start_22 cWp_80_4 (fun σ5 H locs eσ5 hP hD hS => ?_)
  have hok := hok σ5 eσ5
  refine lv_aload_n hx hb dX6_start_25 rfl (lv_at hl 0 rfl) ?_
  refine lv_iconst (v := 0) hx hb dX6_start_26 (by decide) ?_
  refine yp (ci := 6) (v := .int 0) (cw := (cW o u cI cZ cJ T)) S inX6 tyX6 tyX6_ok nmX6 rfl hK hP hD hS cW_80 5 (by decide) kw_5_81 rfl rfl rfl rfl (Nat.le_of_ble_eq_true rfl) dX6_start_27 cWp_80_5 (fun σ6 H locs eσ6 hP hD hS => ?_)
  have hok := hok σ6 eσ6
  refine lv_aload_n hx hb dX6_start_30 rfl (lv_at hl 0 rfl) ?_
  refine lv_iconst (v := 0) hx hb dX6_start_31 (by decide) ?_
  refine yp (ci := 6) (v := .int 0) (cw := (cW o u cI cZ cJ T)) S inX6 tyX6 tyX6_ok nmX6 rfl hK hP hD hS cW_80 6 (by decide) kw_5_83 rfl rfl rfl rfl (Nat.le_of_ble_eq_true rfl) dX6_start_32 cWp_80_6 (fun σ7 H locs eσ7 hP hD hS => ?_)
  have hok := hok σ7 eσ7
  refine lv_aload_n hx hb dX6_start_35 rfl (lv_at hl 0 rfl) ?_
  refine lv_iconst (v := 0) hx hb dX6_start_36 (by decide) ?_
  refine yp (ci := 6) (v := .int 0) (cw := (cW o u cI cZ cJ T)) S inX6 tyX6 tyX6_ok nmX6 rfl hK hP hD hS cW_80 7 (by decide) kw_5_86 rfl rfl rfl rfl (Nat.le_of_ble_eq_true rfl) dX6_start_37 cWp_80_7 (fun σ8 H locs eσ8 hP hD hS => ?_)
  have hok := hok σ8 eσ8
  refine lv_aload_n hx hb dX6_start_40 rfl (lv_at hl 0 rfl) ?_
  refine lv_iconst (v := 0) hx hb dX6_start_41 (by decide) ?_
  refine yp (ci := 6) (v := .int 0) (cw := (cW o u cI cZ cJ T)) S inX6 tyX6 tyX6_ok nmX6 rfl hK hP hD hS cW_80 8 (by decide) kw_5_89 rfl rfl rfl rfl (Nat.le_of_ble_eq_true rfl) dX6_start_42 cWp_80_8 (fun σ9 H locs eσ9 hP hD hS => ?_)
  have hok := hok σ9 eσ9
  refine lv_aload_n hx hb dX6_start_45 rfl (lv_at hl 0 rfl) ?_
  refine lv_iconst (v := 0) hx hb dX6_start_46 (by decide) ?_
  refine yp (ci := 6) (v := .int 0) (cw := (cW o u cI cZ cJ T)) S inX6 tyX6 tyX6_ok nmX6 rfl hK hP hD hS cW_80 9 (by decide) kw_5_91 rfl rfl rfl rfl (Nat.le_of_ble_eq_true rfl) dX6_start_47 cWp_80_9 (fun σ10 H locs eσ10 hP hD hS => ?_)
  have hok := hok σ10 eσ10
  refine lv_aload_n hx hb dX6_start_50 rfl (lv_at hl 0 rfl) ?_
  refine lv_lconst (v := 0) hx hb dX6_start_51 (by decide) ?_
  refine yp (ci := 6) (v := .long 0) (cw := (cW o u cI cZ cJ T)) S inX6 tyX6 tyX6_ok nmX6 rfl hK hP hD hS cW_80 10 (by decide) kw_5_93 rfl rfl rfl rfl (Nat.le_of_ble_eq_true rfl) dX6_start_52 cWp_80_10 (fun σ11 H locs eσ11 hP hD hS => ?_)
  have hok := hok σ11 eσ11
  exact yEndv S hr hlocks hP hD hS (Nat.le_of_ble_eq_true rfl) (Nat.le_of_ble_eq_true rfl) dX6_start_55 hok

set_option maxHeartbeats 8000000 in
set_option maxRecDepth 100000 in
theorem v_X3_call_t80 (l : Launch) (D : va_G) (cI cZ cJ : ClassId) (o : Nat) (u : Nat → Nat) (ra : Nat → Nat) (ga : SG) (σ : FS) (a1 : Int32) (a2 : Int32) (Φ : FS → Prop) (sz : Nat) (hok : (wp_X3_call 80 σ a1 a2 Φ)) : Met l yX3_call (uW yX3_call cX3_call 3 none) ({ frames := 3, cells := 0, slots := 0, locals := 75 }) (va_Pc [.ref (u 64), .int a1, .int a2] (aS ra ga D (tyL cI cZ cJ) (cW o u cI cZ cJ 79 σ) sz)) (yQv Φ D (cW o u cI cZ cJ 79) (va_A (cW o u cI cZ cJ 79 σ) sz)) 0 0 (va_A (cW o u cI cZ cJ 79 σ) sz) := by
  refine aStart (lv := [(0, .ref (u 64)), (1, .int a1), (2, .int a2)]) (Qc := fun A => yQv Φ D (cW o u cI cZ cJ 79) A) (by decide) (Nat.le_of_ble_eq_true rfl) rfl ?_
  intro p e s m args below meth c ls A H S hr hlocks hnm hl hK hP hD hS hA hB
  have hx := S.1
  have hb := S.2.1
  refine lv_aload_n hx hb dX3_call_0 rfl (lv_at hl 0 rfl) ?_
  refine lv_dup hx hb dX3_call_1 rfl ?_
  refine xg (ci := 3) S inX3 rfl hK hP cW_65 15 (by decide) rfl kw_5_144 rfl dX3_call_2 ?_
  refine lv_iconst (v := 1) hx hb dX3_call_5 (by decide) ?_
  refine xiadd (v := (σ.1 65 15) + 1) S dX3_call_6 rfl ?_
  refine yp (ci := 3) (v := .int ((σ.1 65 15) + 1)) (cw := (cW o u cI cZ cJ 79)) S inX3 tyX3 tyX3_ok nmX3 rfl hK hP hD hS cW_65 15 (by decide) kw_5_144 rfl rfl rfl rfl (Nat.le_of_ble_eq_true rfl) dX3_call_7 cWp_65_15 (fun σ1 H locs eσ1 hP hD hS => ?_)
  have hok := hok σ1 eσ1
  refine lv_aload_n hx hb dX3_call_10 rfl (lv_at hl 0 rfl) ?_
  refine lv_aload_n hx hb dX3_call_11 rfl (lv_at hl 0 rfl) ?_
  refine xg (ci := 3) S inX3 rfl hK hP cW_65 7 (by decide) rfl kw_5_136 rfl dX3_call_12 ?_
  refine lv_aload_n hx hb dX3_call_15 rfl (lv_at hl 0 rfl) ?_
  refine xg (ci := 3) S inX3 rfl hK hP cW_65 7 (by decide) rfl kw_5_136 rfl dX3_call_16 ?_
  refine xg (ci := 7) S inX7 rfl hK hP cW_72 2 (by decide) rfl kw_5_57 rfl dX3_call_19 ?_
  refine lv_iconst (v := 1) hx hb dX3_call_22 (by decide) ?_
  refine xisub (v := (σ1.1 72 2) - 1) S dX3_call_23 rfl ?_
  refine lv_iconst (v := 2) hx hb dX3_call_24 (by decide) ?_
  refine yVi (As := [.int ((σ1.1 72 2) - 1), .int 2]) (cw := (cW o u cI cZ cJ 79)) (ci := 7) S (v_X7_at_72 l D cI cZ cJ o u 79 ra ga σ1 ((σ1.1 72 2) - 1) 2 _ H.size hok) mi_X7_at kw_3_18 rfl rfl ⟨Nat.le_of_ble_eq_true rfl, Nat.le_of_ble_eq_true rfl⟩ hP hD hK hS hA hB cW_72 rfl rfl hl.1 (Nat.le_of_ble_eq_true rfl) ⟨Nat.le_of_ble_eq_true rfl, Nat.le_of_ble_eq_true rfl⟩ dX3_call_25 (fun x3 σ2 H locs hok hz hP hD hS => ?_)
  refine lv_iconst (v := 1) hx hb dX3_call_28 (by decide) ?_
  refine xiadd (v := x3 + 1) S dX3_call_29 rfl ?_
  refine yp (ci := 3) (v := .int (x3 + 1)) (cw := (cW o u cI cZ cJ 79)) S inX3 tyX3 tyX3_ok nmX3 rfl hK hP hD hS cW_65 14 (by decide) kw_5_143 rfl rfl rfl rfl (Nat.le_of_ble_eq_true rfl) dX3_call_30 cWp_65_14 (fun σ4 H locs eσ4 hP hD hS => ?_)
  have hok := hok σ4 eσ4
  refine lv_aload_n hx hb dX3_call_33 rfl (lv_at hl 0 rfl) ?_
  refine xg (ci := 3) S inX3 rfl hK hP cW_65 9 (by decide) rfl kw_5_138 rfl dX3_call_34 ?_
  refine lv_dup hx hb dX3_call_37 rfl ?_
  refine xg (ci := 6) S inX6 rfl hK hP cW_80 5 (by decide) rfl kw_5_82 rfl dX3_call_38 ?_
  refine lv_iconst (v := 1) hx hb dX3_call_41 (by decide) ?_
  refine xiadd (v := (σ4.1 80 5) + 1) S dX3_call_42 rfl ?_
  refine yp (ci := 6) (v := .int ((σ4.1 80 5) + 1)) (cw := (cW o u cI cZ cJ 79)) S inX6 tyX6 tyX6_ok nmX6 rfl hK hP hD hS cW_80 5 (by decide) kw_5_82 rfl rfl rfl rfl (Nat.le_of_ble_eq_true rfl) dX3_call_43 cWp_80_5 (fun σ5 H locs eσ5 hP hD hS => ?_)
  have hok := hok σ5 eσ5
  refine lv_aload_n hx hb dX3_call_46 rfl (lv_at hl 0 rfl) ?_
  refine xg (ci := 3) S inX3 rfl hK hP cW_65 9 (by decide) rfl kw_5_138 rfl dX3_call_47 ?_
  refine lv_dup hx hb dX3_call_50 rfl ?_
  refine xg (ci := 6) S inX6 rfl hK hP cW_80 6 (by decide) rfl kw_5_85 rfl dX3_call_51 ?_
  refine lv_aload_n hx hb dX3_call_54 rfl (lv_at hl 0 rfl) ?_
  refine xg (ci := 3) S inX3 rfl hK hP cW_65 10 (by decide) rfl kw_5_139 rfl dX3_call_55 ?_
  refine lv_iconst (v := 4) hx hb dX3_call_58 (by decide) ?_
  refine xiand (v := (σ5.1 65 10) &&& 4) S dX3_call_59 rfl ?_
  refine lv_if_eq (tgt := 78) hx hb dX3_call_60 (by decide) (fun c_60 => ?_) (fun c_60 => ?_)
  · have hok := hok.1 c_60
    refine lv_aload_n hx hb dX3_call_78 rfl (lv_at hl 0 rfl) ?_
    refine xg (ci := 3) S inX3 rfl hK hP cW_65 0 (by decide) rfl kw_5_129 rfl dX3_call_79 ?_
    refine xg (ci := 1) S inX1 rfl hK hP cW_1 5 (by decide) rfl kw_3_230 rfl dX3_call_82 ?_
    refine lv_iload_n hx hb dX3_call_85 rfl (lv_at hl 1 rfl) ?_
    have h_86 := hok.1
    have hok := hok.2
    refine xiald (t0 := 0) (v := (g σ5 6 a1)) S hK hP cW_6 rfl h_86 rfl dX3_call_86 ?_
    refine xiadd (v := (σ5.1 80 6) + (g σ5 6 a1)) S dX3_call_87 rfl ?_
    refine yp (ci := 6) (v := .int ((σ5.1 80 6) + (g σ5 6 a1))) (cw := (cW o u cI cZ cJ 79)) S inX6 tyX6 tyX6_ok nmX6 rfl hK hP hD hS cW_80 6 (by decide) kw_5_85 rfl rfl rfl rfl (Nat.le_of_ble_eq_true rfl) dX3_call_88 cWp_80_6 (fun σ6 H locs eσ6 hP hD hS => ?_)
    have hok := hok σ6 eσ6
    refine lv_aload_n hx hb dX3_call_91 rfl (lv_at hl 0 rfl) ?_
    refine xg (ci := 3) S inX3 rfl hK hP cW_65 9 (by decide) rfl kw_5_138 rfl dX3_call_92 ?_
    refine lv_aload_n hx hb dX3_call_95 rfl (lv_at hl 0 rfl) ?_
    refine xg (ci := 3) S inX3 rfl hK hP cW_65 9 (by decide) rfl kw_5_138 rfl dX3_call_96 ?_
    refine xg (ci := 6) S inX6 rfl hK hP cW_80 7 (by decide) rfl kw_5_88 rfl dX3_call_99 ?_
    refine lv_aload_n hx hb dX3_call_102 rfl (lv_at hl 0 rfl) ?_
    refine xg (ci := 3) S inX3 rfl hK hP cW_65 14 (by decide) rfl kw_5_143 rfl dX3_call_103 ?_
    refine ymmax S kw_3_23 kw_3_24 kw_1_19 kw_3_25 hl.1 (Nat.le_of_ble_eq_true rfl) (Nat.le_of_ble_eq_true rfl) ⟨Nat.le_of_ble_eq_true rfl, Nat.le_of_ble_eq_true rfl⟩ dX3_call_106 ?_
    refine lv_topi (fun x7 ex7 => ?_)
    have hok := hok x7 ex7
    refine yp (ci := 6) (v := .int x7) (cw := (cW o u cI cZ cJ 79)) S inX6 tyX6 tyX6_ok nmX6 rfl hK hP hD hS cW_80 7 (by decide) kw_5_88 rfl rfl rfl rfl (Nat.le_of_ble_eq_true rfl) dX3_call_109 cWp_80_7 (fun σ8 H locs eσ8 hP hD hS => ?_)
    have hok := hok σ8 eσ8
    refine lv_aload_n hx hb dX3_call_112 rfl (lv_at hl 0 rfl) ?_
    refine xg (ci := 3) S inX3 rfl hK hP cW_65 9 (by decide) rfl kw_5_138 rfl dX3_call_113 ?_
    refine lv_aload_n hx hb dX3_call_116 rfl (lv_at hl 0 rfl) ?_
    refine xg (ci := 3) S inX3 rfl hK hP cW_65 9 (by decide) rfl kw_5_138 rfl dX3_call_117 ?_
    refine xg (ci := 6) S inX6 rfl hK hP cW_80 8 (by decide) rfl kw_5_90 rfl dX3_call_120 ?_
    refine lv_aload_n hx hb dX3_call_123 rfl (lv_at hl 0 rfl) ?_
    refine xg (ci := 3) S inX3 rfl hK hP cW_65 15 (by decide) rfl kw_5_144 rfl dX3_call_124 ?_
    refine ymmax S kw_3_23 kw_3_24 kw_1_19 kw_3_25 hl.1 (Nat.le_of_ble_eq_true rfl) (Nat.le_of_ble_eq_true rfl) ⟨Nat.le_of_ble_eq_true rfl, Nat.le_of_ble_eq_true rfl⟩ dX3_call_127 ?_
    refine lv_topi (fun x9 ex9 => ?_)
    have hok := hok x9 ex9
    refine yp (ci := 6) (v := .int x9) (cw := (cW o u cI cZ cJ 79)) S inX6 tyX6 tyX6_ok nmX6 rfl hK hP hD hS cW_80 8 (by decide) kw_5_90 rfl rfl rfl rfl (Nat.le_of_ble_eq_true rfl) dX3_call_130 cWp_80_8 (fun σ10 H locs eσ10 hP hD hS => ?_)
    have hok := hok σ10 eσ10
    refine lv_aload_n hx hb dX3_call_133 rfl (lv_at hl 0 rfl) ?_
    refine lv_aload_n hx hb dX3_call_134 rfl (lv_at hl 0 rfl) ?_
    refine xg (ci := 3) S inX3 rfl hK hP cW_65 6 (by decide) rfl kw_5_135 rfl dX3_call_135 ?_
    refine yVi (As := []) (cw := (cW o u cI cZ cJ 79)) (ci := 7) S (v_X7_add_70 l D cI cZ cJ o u 79 ra ga σ10 _ H.size hok) mi_X7_add kw_2_224 rfl rfl ⟨Nat.le_of_ble_eq_true rfl, Nat.le_of_ble_eq_true rfl⟩ hP hD hK hS hA hB cW_70 rfl rfl hl.1 (Nat.le_of_ble_eq_true rfl) ⟨Nat.le_of_ble_eq_true rfl, Nat.le_of_ble_eq_true rfl⟩ dX3_call_138 (fun x12 σ11 H locs hok hz hP hD hS => ?_)
    refine yp (ci := 3) (v := .int x12) (cw := (cW o u cI cZ cJ 79)) S inX3 tyX3 tyX3_ok nmX3 rfl hK hP hD hS cW_65 13 (by decide) kw_5_142 rfl rfl rfl rfl (Nat.le_of_ble_eq_true rfl) dX3_call_141 cWp_65_13 (fun σ13 H locs eσ13 hP hD hS => ?_)
    have hok := hok σ13 eσ13
    refine lv_aload_n hx hb dX3_call_144 rfl (lv_at hl 0 rfl) ?_
    refine xg (ci := 3) S inX3 rfl hK hP cW_65 6 (by decide) rfl kw_5_135 rfl dX3_call_145 ?_
    refine lv_aload_n hx hb dX3_call_148 rfl (lv_at hl 0 rfl) ?_
    refine xg (ci := 3) S inX3 rfl hK hP cW_65 13 (by decide) rfl kw_5_142 rfl dX3_call_149 ?_
    refine lv_iconst (v := 0) hx hb dX3_call_152 (by decide) ?_
    refine lv_iload_n hx hb dX3_call_153 rfl (lv_at hl 1 rfl) ?_
    refine yVv (As := [.int (σ13.1 65 13), .int 0, .int a1]) (cw := (cW o u cI cZ cJ 79)) (ci := 7) S (v_X7_put_70 l D cI cZ cJ o u 79 ra ga σ13 (σ13.1 65 13) 0 a1 _ H.size hok) mi_X7_put kw_3_5 rfl rfl ⟨Nat.le_of_ble_eq_true rfl, Nat.le_of_ble_eq_true rfl⟩ hP hD hK hS hA hB cW_70 rfl rfl hl.1 (Nat.le_of_ble_eq_true rfl) ⟨Nat.le_of_ble_eq_true rfl, Nat.le_of_ble_eq_true rfl⟩ dX3_call_154 (fun σ14 H locs hok hz hP hD hS => ?_)
    refine lv_aload_n hx hb dX3_call_157 rfl (lv_at hl 0 rfl) ?_
    refine xg (ci := 3) S inX3 rfl hK hP cW_65 6 (by decide) rfl kw_5_135 rfl dX3_call_158 ?_
    refine lv_aload_n hx hb dX3_call_161 rfl (lv_at hl 0 rfl) ?_
    refine xg (ci := 3) S inX3 rfl hK hP cW_65 13 (by decide) rfl kw_5_142 rfl dX3_call_162 ?_
    refine lv_iconst (v := 1) hx hb dX3_call_165 (by decide) ?_
    refine lv_iload_n hx hb dX3_call_166 rfl (lv_at hl 2 rfl) ?_
    refine yVv (As := [.int (σ14.1 65 13), .int 1, .int a2]) (cw := (cW o u cI cZ cJ 79)) (ci := 7) S (v_X7_put_70 l D cI cZ cJ o u 79 ra ga σ14 (σ14.1 65 13) 1 a2 _ H.size hok) mi_X7_put kw_3_5 rfl rfl ⟨Nat.le_of_ble_eq_true rfl, Nat.le_of_ble_eq_true rfl⟩ hP hD hK hS hA hB cW_70 rfl rfl hl.1 (Nat.le_of_ble_eq_true rfl) ⟨Nat.le_of_ble_eq_true rfl, Nat.le_of_ble_eq_true rfl⟩ dX3_call_167 (fun σ15 H locs hok hz hP hD hS => ?_)
    refine lv_aload_n hx hb dX3_call_170 rfl (lv_at hl 0 rfl) ?_
    refine xg (ci := 3) S inX3 rfl hK hP cW_65 6 (by decide) rfl kw_5_135 rfl dX3_call_171 ?_
    refine lv_aload_n hx hb dX3_call_174 rfl (lv_at hl 0 rfl) ?_
    refine xg (ci := 3) S inX3 rfl hK hP cW_65 13 (by decide) rfl kw_5_142 rfl dX3_call_175 ?_
    refine lv_iconst (v := 2) hx hb dX3_call_178 (by decide) ?_
    refine lv_aload_n hx hb dX3_call_179 rfl (lv_at hl 0 rfl) ?_
    refine xg (ci := 3) S inX3 rfl hK hP cW_65 4 (by decide) rfl kw_5_133 rfl dX3_call_180 ?_
    refine xg (ci := 7) S inX7 rfl hK hP cW_66 2 (by decide) rfl kw_5_57 rfl dX3_call_183 ?_
    refine yVv (As := [.int (σ15.1 65 13), .int 2, .int (σ15.1 66 2)]) (cw := (cW o u cI cZ cJ 79)) (ci := 7) S (v_X7_put_70 l D cI cZ cJ o u 79 ra ga σ15 (σ15.1 65 13) 2 (σ15.1 66 2) _ H.size hok) mi_X7_put kw_3_5 rfl rfl ⟨Nat.le_of_ble_eq_true rfl, Nat.le_of_ble_eq_true rfl⟩ hP hD hK hS hA hB cW_70 rfl rfl hl.1 (Nat.le_of_ble_eq_true rfl) ⟨Nat.le_of_ble_eq_true rfl, Nat.le_of_ble_eq_true rfl⟩ dX3_call_186 (fun σ16 H locs hok hz hP hD hS => ?_)
    refine lv_aload_n hx hb dX3_call_189 rfl (lv_at hl 0 rfl) ?_
    refine lv_iload_n hx hb dX3_call_190 rfl (lv_at hl 1 rfl) ?_
    refine yVv (As := [.int a1]) (cw := (cW o u cI cZ cJ 79)) (ci := 3) S (v_X3_layPlaces l D cI cZ cJ o u 79 ra ga σ16 a1 _ H.size hok) mi_X3_layPlaces kw_3_26 rfl rfl ⟨Nat.le_of_ble_eq_true rfl, Nat.le_of_ble_eq_true rfl⟩ hP hD hK hS hA hB cW_65 rfl rfl hl.1 (Nat.le_of_ble_eq_true rfl) ⟨Nat.le_of_ble_eq_true rfl, Nat.le_of_ble_eq_true rfl⟩ dX3_call_191 (fun σ17 H locs hok hz hP hD hS => ?_)
    refine lv_aload_n hx hb dX3_call_194 rfl (lv_at hl 0 rfl) ?_
    refine lv_aload_n hx hb dX3_call_195 rfl (lv_at hl 0 rfl) ?_
    refine xg (ci := 3) S inX3 rfl hK hP cW_65 3 (by decide) rfl kw_5_132 rfl dX3_call_196 ?_
    refine xg (ci := 0) S inX0 rfl hK hP cW_52 5 (by decide) rfl kw_4_224 rfl dX3_call_199 ?_
    refine lv_iload_n hx hb dX3_call_202 rfl (lv_at hl 1 rfl) ?_
    have h_203 := hok.1
    have hok := hok.2
    refine xiald (t0 := 0) (v := (g σ17 53 a1)) S hK hP cW_53 rfl h_203 rfl dX3_call_203 ?_
    refine yp (ci := 3) (v := .int (g σ17 53 a1)) (cw := (cW o u cI cZ cJ 79)) S inX3 tyX3 tyX3_ok nmX3 rfl hK hP hD hS cW_65 12 (by decide) kw_5_141 rfl rfl rfl rfl (Nat.le_of_ble_eq_true rfl) dX3_call_204 cWp_65_12 (fun σ18 H locs eσ18 hP hD hS => ?_)
    have hok := hok σ18 eσ18
    exact yEndv S hr hlocks hP hD hS (Nat.le_of_ble_eq_true rfl) (Nat.le_of_ble_eq_true rfl) dX3_call_207 hok
  · have hok := hok.2 c_60
    refine lv_aload_n hx hb dX3_call_63 rfl (lv_at hl 0 rfl) ?_
    refine xg (ci := 3) S inX3 rfl hK hP cW_65 2 (by decide) rfl kw_5_131 rfl dX3_call_64 ?_
    refine xg (ci := 4) S inX4 rfl hK hP cW_20 14 (by decide) rfl kw_4_124 rfl dX3_call_67 ?_
    refine lv_iload_n hx hb dX3_call_70 rfl (lv_at hl 1 rfl) ?_
    have h_71 := hok.1
    have hok := hok.2
    refine xiald (t0 := 0) (v := (g σ5 33 a1)) S hK hP cW_33 rfl h_71 rfl dX3_call_71 ?_
    refine ySi (As := [.int (g σ5 33 a1)]) (cw := (cW o u cI cZ cJ 79)) S (v_J6_bitCount_0f7a4 l D cI cZ cJ o u 79 ra ga σ5 (g σ5 33 a1) _ H.size hok) ms_J6_bitCount_0f7a4 kw_3_22 rfl rfl ⟨Nat.le_of_ble_eq_true rfl, Nat.le_of_ble_eq_true rfl⟩ hP hD hK hS hA hB hl.1 (Nat.le_of_ble_eq_true rfl) ⟨Nat.le_of_ble_eq_true rfl, Nat.le_of_ble_eq_true rfl⟩ dX3_call_72 (fun x20 σ19 H locs hok hz hP hD hS => ?_)
    refine lv_goto (tgt := 87) hx hb dX3_call_75 (by decide) ?_
    refine xiadd (v := (σ5.1 80 6) + x20) S dX3_call_87 rfl ?_
    refine yp (ci := 6) (v := .int ((σ5.1 80 6) + x20)) (cw := (cW o u cI cZ cJ 79)) S inX6 tyX6 tyX6_ok nmX6 rfl hK hP hD hS cW_80 6 (by decide) kw_5_85 rfl rfl rfl rfl (Nat.le_of_ble_eq_true rfl) dX3_call_88 cWp_80_6 (fun σ21 H locs eσ21 hP hD hS => ?_)
    have hok := hok σ21 eσ21
    refine lv_aload_n hx hb dX3_call_91 rfl (lv_at hl 0 rfl) ?_
    refine xg (ci := 3) S inX3 rfl hK hP cW_65 9 (by decide) rfl kw_5_138 rfl dX3_call_92 ?_
    refine lv_aload_n hx hb dX3_call_95 rfl (lv_at hl 0 rfl) ?_
    refine xg (ci := 3) S inX3 rfl hK hP cW_65 9 (by decide) rfl kw_5_138 rfl dX3_call_96 ?_
    refine xg (ci := 6) S inX6 rfl hK hP cW_80 7 (by decide) rfl kw_5_88 rfl dX3_call_99 ?_
    refine lv_aload_n hx hb dX3_call_102 rfl (lv_at hl 0 rfl) ?_
    refine xg (ci := 3) S inX3 rfl hK hP cW_65 14 (by decide) rfl kw_5_143 rfl dX3_call_103 ?_
    refine ymmax S kw_3_23 kw_3_24 kw_1_19 kw_3_25 hl.1 (Nat.le_of_ble_eq_true rfl) (Nat.le_of_ble_eq_true rfl) ⟨Nat.le_of_ble_eq_true rfl, Nat.le_of_ble_eq_true rfl⟩ dX3_call_106 ?_
    refine lv_topi (fun x22 ex22 => ?_)
    have hok := hok x22 ex22
    refine yp (ci := 6) (v := .int x22) (cw := (cW o u cI cZ cJ 79)) S inX6 tyX6 tyX6_ok nmX6 rfl hK hP hD hS cW_80 7 (by decide) kw_5_88 rfl rfl rfl rfl (Nat.le_of_ble_eq_true rfl) dX3_call_109 cWp_80_7 (fun σ23 H locs eσ23 hP hD hS => ?_)
    have hok := hok σ23 eσ23
    refine lv_aload_n hx hb dX3_call_112 rfl (lv_at hl 0 rfl) ?_
    refine xg (ci := 3) S inX3 rfl hK hP cW_65 9 (by decide) rfl kw_5_138 rfl dX3_call_113 ?_
    refine lv_aload_n hx hb dX3_call_116 rfl (lv_at hl 0 rfl) ?_
    refine xg (ci := 3) S inX3 rfl hK hP cW_65 9 (by decide) rfl kw_5_138 rfl dX3_call_117 ?_
    refine xg (ci := 6) S inX6 rfl hK hP cW_80 8 (by decide) rfl kw_5_90 rfl dX3_call_120 ?_
    refine lv_aload_n hx hb dX3_call_123 rfl (lv_at hl 0 rfl) ?_
    refine xg (ci := 3) S inX3 rfl hK hP cW_65 15 (by decide) rfl kw_5_144 rfl dX3_call_124 ?_
    refine ymmax S kw_3_23 kw_3_24 kw_1_19 kw_3_25 hl.1 (Nat.le_of_ble_eq_true rfl) (Nat.le_of_ble_eq_true rfl) ⟨Nat.le_of_ble_eq_true rfl, Nat.le_of_ble_eq_true rfl⟩ dX3_call_127 ?_
    refine lv_topi (fun x24 ex24 => ?_)
    have hok := hok x24 ex24
    refine yp (ci := 6) (v := .int x24) (cw := (cW o u cI cZ cJ 79)) S inX6 tyX6 tyX6_ok nmX6 rfl hK hP hD hS cW_80 8 (by decide) kw_5_90 rfl rfl rfl rfl (Nat.le_of_ble_eq_true rfl) dX3_call_130 cWp_80_8 (fun σ25 H locs eσ25 hP hD hS => ?_)
    have hok := hok σ25 eσ25
    refine lv_aload_n hx hb dX3_call_133 rfl (lv_at hl 0 rfl) ?_
    refine lv_aload_n hx hb dX3_call_134 rfl (lv_at hl 0 rfl) ?_
    refine xg (ci := 3) S inX3 rfl hK hP cW_65 6 (by decide) rfl kw_5_135 rfl dX3_call_135 ?_
    refine yVi (As := []) (cw := (cW o u cI cZ cJ 79)) (ci := 7) S (v_X7_add_70 l D cI cZ cJ o u 79 ra ga σ25 _ H.size hok) mi_X7_add kw_2_224 rfl rfl ⟨Nat.le_of_ble_eq_true rfl, Nat.le_of_ble_eq_true rfl⟩ hP hD hK hS hA hB cW_70 rfl rfl hl.1 (Nat.le_of_ble_eq_true rfl) ⟨Nat.le_of_ble_eq_true rfl, Nat.le_of_ble_eq_true rfl⟩ dX3_call_138 (fun x27 σ26 H locs hok hz hP hD hS => ?_)
    refine yp (ci := 3) (v := .int x27) (cw := (cW o u cI cZ cJ 79)) S inX3 tyX3 tyX3_ok nmX3 rfl hK hP hD hS cW_65 13 (by decide) kw_5_142 rfl rfl rfl rfl (Nat.le_of_ble_eq_true rfl) dX3_call_141 cWp_65_13 (fun σ28 H locs eσ28 hP hD hS => ?_)
    have hok := hok σ28 eσ28
    refine lv_aload_n hx hb dX3_call_144 rfl (lv_at hl 0 rfl) ?_
    refine xg (ci := 3) S inX3 rfl hK hP cW_65 6 (by decide) rfl kw_5_135 rfl dX3_call_145 ?_
    refine lv_aload_n hx hb dX3_call_148 rfl (lv_at hl 0 rfl) ?_
    refine xg (ci := 3) S inX3 rfl hK hP cW_65 13 (by decide) rfl kw_5_142 rfl dX3_call_149 ?_
    refine lv_iconst (v := 0) hx hb dX3_call_152 (by decide) ?_
    refine lv_iload_n hx hb dX3_call_153 rfl (lv_at hl 1 rfl) ?_
    refine yVv (As := [.int (σ28.1 65 13), .int 0, .int a1]) (cw := (cW o u cI cZ cJ 79)) (ci := 7) S (v_X7_put_70 l D cI cZ cJ o u 79 ra ga σ28 (σ28.1 65 13) 0 a1 _ H.size hok) mi_X7_put kw_3_5 rfl rfl ⟨Nat.le_of_ble_eq_true rfl, Nat.le_of_ble_eq_true rfl⟩ hP hD hK hS hA hB cW_70 rfl rfl hl.1 (Nat.le_of_ble_eq_true rfl) ⟨Nat.le_of_ble_eq_true rfl, Nat.le_of_ble_eq_true rfl⟩ dX3_call_154 (fun σ29 H locs hok hz hP hD hS => ?_)
    refine lv_aload_n hx hb dX3_call_157 rfl (lv_at hl 0 rfl) ?_
    refine xg (ci := 3) S inX3 rfl hK hP cW_65 6 (by decide) rfl kw_5_135 rfl dX3_call_158 ?_
    refine lv_aload_n hx hb dX3_call_161 rfl (lv_at hl 0 rfl) ?_
    refine xg (ci := 3) S inX3 rfl hK hP cW_65 13 (by decide) rfl kw_5_142 rfl dX3_call_162 ?_
    refine lv_iconst (v := 1) hx hb dX3_call_165 (by decide) ?_
    refine lv_iload_n hx hb dX3_call_166 rfl (lv_at hl 2 rfl) ?_
    refine yVv (As := [.int (σ29.1 65 13), .int 1, .int a2]) (cw := (cW o u cI cZ cJ 79)) (ci := 7) S (v_X7_put_70 l D cI cZ cJ o u 79 ra ga σ29 (σ29.1 65 13) 1 a2 _ H.size hok) mi_X7_put kw_3_5 rfl rfl ⟨Nat.le_of_ble_eq_true rfl, Nat.le_of_ble_eq_true rfl⟩ hP hD hK hS hA hB cW_70 rfl rfl hl.1 (Nat.le_of_ble_eq_true rfl) ⟨Nat.le_of_ble_eq_true rfl, Nat.le_of_ble_eq_true rfl⟩ dX3_call_167 (fun σ30 H locs hok hz hP hD hS => ?_)
    refine lv_aload_n hx hb dX3_call_170 rfl (lv_at hl 0 rfl) ?_
    refine xg (ci := 3) S inX3 rfl hK hP cW_65 6 (by decide) rfl kw_5_135 rfl dX3_call_171 ?_
    refine lv_aload_n hx hb dX3_call_174 rfl (lv_at hl 0 rfl) ?_
    refine xg (ci := 3) S inX3 rfl hK hP cW_65 13 (by decide) rfl kw_5_142 rfl dX3_call_175 ?_
    refine lv_iconst (v := 2) hx hb dX3_call_178 (by decide) ?_
    refine lv_aload_n hx hb dX3_call_179 rfl (lv_at hl 0 rfl) ?_
    refine xg (ci := 3) S inX3 rfl hK hP cW_65 4 (by decide) rfl kw_5_133 rfl dX3_call_180 ?_
    refine xg (ci := 7) S inX7 rfl hK hP cW_66 2 (by decide) rfl kw_5_57 rfl dX3_call_183 ?_
    refine yVv (As := [.int (σ30.1 65 13), .int 2, .int (σ30.1 66 2)]) (cw := (cW o u cI cZ cJ 79)) (ci := 7) S (v_X7_put_70 l D cI cZ cJ o u 79 ra ga σ30 (σ30.1 65 13) 2 (σ30.1 66 2) _ H.size hok) mi_X7_put kw_3_5 rfl rfl ⟨Nat.le_of_ble_eq_true rfl, Nat.le_of_ble_eq_true rfl⟩ hP hD hK hS hA hB cW_70 rfl rfl hl.1 (Nat.le_of_ble_eq_true rfl) ⟨Nat.le_of_ble_eq_true rfl, Nat.le_of_ble_eq_true rfl⟩ dX3_call_186 (fun σ31 H locs hok hz hP hD hS => ?_)
    refine lv_aload_n hx hb dX3_call_189 rfl (lv_at hl 0 rfl) ?_
    refine lv_iload_n hx hb dX3_call_190 rfl (lv_at hl 1 rfl) ?_
    refine yVv (As := [.int a1]) (cw := (cW o u cI cZ cJ 79)) (ci := 3) S (v_X3_layPlaces l D cI cZ cJ o u 79 ra ga σ31 a1 _ H.size hok) mi_X3_layPlaces kw_3_26 rfl rfl ⟨Nat.le_of_ble_eq_true rfl, Nat.le_of_ble_eq_true rfl⟩ hP hD hK hS hA hB cW_65 rfl rfl hl.1 (Nat.le_of_ble_eq_true rfl) ⟨Nat.le_of_ble_eq_true rfl, Nat.le_of_ble_eq_true rfl⟩ dX3_call_191 (fun σ32 H locs hok hz hP hD hS => ?_)
    refine lv_aload_n hx hb dX3_call_194 rfl (lv_at hl 0 rfl) ?_
    refine lv_aload_n hx hb dX3_call_195 rfl (lv_at hl 0 rfl) ?_
    refine xg (ci := 3) S inX3 rfl hK hP cW_65 3 (by decide) rfl kw_5_132 rfl dX3_call_196 ?_
    refine xg (ci := 0) S inX0 rfl hK hP cW_52 5 (by decide) rfl kw_4_224 rfl dX3_call_199 ?_
    refine lv_iload_n hx hb dX3_call_202 rfl (lv_at hl 1 rfl) ?_
    have h_203 := hok.1
    have hok := hok.2
    refine xiald (t0 := 0) (v := (g σ32 53 a1)) S hK hP cW_53 rfl h_203 rfl dX3_call_203 ?_
    refine yp (ci := 3) (v := .int (g σ32 53 a1)) (cw := (cW o u cI cZ cJ 79)) S inX3 tyX3 tyX3_ok nmX3 rfl hK hP hD hS cW_65 12 (by decide) kw_5_141 rfl rfl rfl rfl (Nat.le_of_ble_eq_true rfl) dX3_call_204 cWp_65_12 (fun σ33 H locs eσ33 hP hD hS => ?_)
    have hok := hok σ33 eσ33
    exact yEndv S hr hlocks hP hD hS (Nat.le_of_ble_eq_true rfl) (Nat.le_of_ble_eq_true rfl) dX3_call_207 hok

set_option maxHeartbeats 8000000 in
set_option maxRecDepth 100000 in
theorem v_X3_trap_t80 (l : Launch) (D : va_G) (cI cZ cJ : ClassId) (o : Nat) (u : Nat → Nat) (ra : Nat → Nat) (ga : SG) (σ : FS) (a1 : Int32) (a2 : Int32) (Φ : FS → Prop) (sz : Nat) (hok : (wp_X3_trap 80 σ a1 a2 Φ)) : Met l yX3_trap (uW yX3_trap cX3_trap 3 none) ({ frames := 0, cells := 0, slots := 0, locals := 0 }) (va_Pc [.ref (u 64), .int a1, .int a2] (aS ra ga D (tyL cI cZ cJ) (cW o u cI cZ cJ 79 σ) sz)) (yQv Φ D (cW o u cI cZ cJ 79) (va_A (cW o u cI cZ cJ 79 σ) sz)) 0 0 (va_A (cW o u cI cZ cJ 79 σ) sz) := by
  refine aStart (lv := [(0, .ref (u 64)), (1, .int a1), (2, .int a2)]) (Qc := fun A => yQv Φ D (cW o u cI cZ cJ 79) A) (by decide) (Nat.le_of_ble_eq_true rfl) rfl ?_
  intro p e s m args below meth c ls A H S hr hlocks hnm hl hK hP hD hS hA hB
  have hx := S.1
  have hb := S.2.1
  refine lv_aload_n hx hb dX3_trap_0 rfl (lv_at hl 0 rfl) ?_
  refine xg (ci := 3) S inX3 rfl hK hP cW_65 9 (by decide) rfl kw_5_138 rfl dX3_trap_1 ?_
  refine lv_iload_n hx hb dX3_trap_4 rfl (lv_at hl 1 rfl) ?_
  refine yp (ci := 6) (v := .int a1) (cw := (cW o u cI cZ cJ 79)) S inX6 tyX6 tyX6_ok nmX6 rfl hK hP hD hS cW_80 0 (by decide) kw_5_72 rfl rfl rfl rfl (Nat.le_of_ble_eq_true rfl) dX3_trap_5 cWp_80_0 (fun σ1 H locs eσ1 hP hD hS => ?_)
  have hok := hok σ1 eσ1
  refine lv_aload_n hx hb dX3_trap_8 rfl (lv_at hl 0 rfl) ?_
  refine xg (ci := 3) S inX3 rfl hK hP cW_65 9 (by decide) rfl kw_5_138 rfl dX3_trap_9 ?_
  refine lv_iload_n hx hb dX3_trap_12 rfl (lv_at hl 2 rfl) ?_
  refine yp (ci := 6) (v := .int a2) (cw := (cW o u cI cZ cJ 79)) S inX6 tyX6 tyX6_ok nmX6 rfl hK hP hD hS cW_80 1 (by decide) kw_5_75 rfl rfl rfl rfl (Nat.le_of_ble_eq_true rfl) dX3_trap_13 cWp_80_1 (fun σ2 H locs eσ2 hP hD hS => ?_)
  have hok := hok σ2 eσ2
  refine lv_aload_n hx hb dX3_trap_16 rfl (lv_at hl 0 rfl) ?_
  refine xg (ci := 3) S inX3 rfl hK hP cW_65 9 (by decide) rfl kw_5_138 rfl dX3_trap_17 ?_
  refine lv_aload_n hx hb dX3_trap_20 rfl (lv_at hl 0 rfl) ?_
  refine xg (ci := 3) S inX3 rfl hK hP cW_65 2 (by decide) rfl kw_5_131 rfl dX3_trap_21 ?_
  refine xg (ci := 4) S inX4 rfl hK hP cW_20 2 (by decide) rfl kw_4_91 rfl dX3_trap_24 ?_
  refine lv_iload_n hx hb dX3_trap_27 rfl (lv_at hl 2 rfl) ?_
  have h_28 := hok.1
  have hok := hok.2
  refine xiald (t0 := 0) (v := (g σ2 21 a2)) S hK hP cW_21 rfl h_28 rfl dX3_trap_28 ?_
  refine yp (ci := 6) (v := .int (g σ2 21 a2)) (cw := (cW o u cI cZ cJ 79)) S inX6 tyX6 tyX6_ok nmX6 rfl hK hP hD hS cW_80 2 (by decide) kw_5_77 rfl rfl rfl rfl (Nat.le_of_ble_eq_true rfl) dX3_trap_29 cWp_80_2 (fun σ3 H locs eσ3 hP hD hS => ?_)
  have hok := hok σ3 eσ3
  refine lv_aload_n hx hb dX3_trap_32 rfl (lv_at hl 0 rfl) ?_
  refine lv_iconst (v := 1) hx hb dX3_trap_33 (by decide) ?_
  refine yp (ci := 3) (v := .int 1) (cw := (cW o u cI cZ cJ 79)) S inX3 tyX3 tyX3_ok nmX3 rfl hK hP hD hS cW_65 16 (by decide) kw_5_145 rfl rfl rfl rfl (Nat.le_of_ble_eq_true rfl) dX3_trap_34 cWp_65_16 (fun σ4 H locs eσ4 hP hD hS => ?_)
  have hok := hok σ4 eσ4
  exact yEndv S hr hlocks hP hD hS (Nat.le_of_ble_eq_true rfl) (Nat.le_of_ble_eq_true rfl) dX3_trap_37 hok

set_option maxHeartbeats 8000000 in
set_option maxRecDepth 100000 in
theorem v_X3_begin_t80 (l : Launch) (D : va_G) (cI cZ cJ : ClassId) (o : Nat) (u : Nat → Nat) (ra : Nat → Nat) (ga : SG) (σ : FS) (a1 : Int32) (a2 : Int32) (Φ : Int32 → FS → Prop) (sz : Nat) (hok : (wp_X3_begin 80 σ a1 a2 Φ)) : Met l yX3_begin (uW yX3_begin cX3_begin 5 (some .boolean)) ({ frames := 1, cells := 0, slots := 0, locals := 22 }) (va_Pc [.ref (u 64), .int a1, .int a2] (aS ra ga D (tyL cI cZ cJ) (cW o u cI cZ cJ 79 σ) sz)) (yQi Φ D (cW o u cI cZ cJ 79) (va_A (cW o u cI cZ cJ 79 σ) sz)) 0 0 (va_A (cW o u cI cZ cJ 79 σ) sz) := by
  refine aStart (lv := [(0, .ref (u 64)), (1, .int a1), (2, .int a2)]) (Qc := fun A => yQi Φ D (cW o u cI cZ cJ 79) A) (by decide) (Nat.le_of_ble_eq_true rfl) rfl ?_
  intro p e s m args below meth c ls A H S hr hlocks hnm hl hK hP hD hS hA hB
  have hx := S.1
  have hb := S.2.1
  refine lv_aload_n hx hb dX3_begin_0 rfl (lv_at hl 0 rfl) ?_
  refine xg (ci := 3) S inX3 rfl hK hP cW_65 3 (by decide) rfl kw_5_132 rfl dX3_begin_1 ?_
  refine xg (ci := 0) S inX0 rfl hK hP cW_52 11 (by decide) rfl kw_4_239 rfl dX3_begin_4 ?_
  refine lv_iload_n hx hb dX3_begin_7 rfl (lv_at hl 1 rfl) ?_
  have h_8 := hok.1
  have hok := hok.2
  refine xiald (t0 := 0) (v := (g σ 59 a1)) S hK hP cW_59 rfl h_8 rfl dX3_begin_8 ?_
  refine lv_topi (fun x1 ex1 => ?_)
  have hok := hok x1 ex1
  refine lv_istore_n (lv' := [(3, .int x1), (0, .ref (u 64)), (1, .int a1), (2, .int a2)]) hx hb dX3_begin_9 rfl hl (by decide) rfl (fun ls hl => ?_)
  refine lv_iconst (v := 0) hx hb dX3_begin_10 (by decide) ?_
  refine lv_istore (lv' := [(4, .int 0), (3, .int x1), (0, .ref (u 64)), (1, .int a1), (2, .int a2)]) hx hb dX3_begin_11 hl (by decide) rfl (fun ls hl => ?_)
  have lp13 : ∀ (K : FS → Int32 → Int32 → Prop), (∀ (τ0 : FS) (l4_0 : Int32) (l3_0 : Int32) (H : Heap) (locs : List Loc) (ls : Array Slot), K τ0 l4_0 l3_0 → lv_has ls 5 [(4, .int l4_0), (3, .int l3_0), (0, .ref (u 64)), (1, .int a1), (2, .int a2)] → va_P D vwCl (cW o u cI cZ cJ 79 τ0) H → va_D A (cW o u cI cZ cJ 79 τ0) → va_S A s.heap H locs → W p l e ({ frames := 1, cells := 0, slots := 0, locals := 22 }) s m args below meth c H locs 0 0 (MQ below (yQi Φ D (cW o u cI cZ cJ 79) A) args s 0 0 A) (F0 m 74 ls [])) → ∀ (n0 : Nat) (τ0 : FS) (l4_0 : Int32) (l3_0 : Int32) (H : Heap) (locs : List Loc) (ls : Array Slot), wp_X3_begin_13 80 a1 a2 Φ K n0 τ0 l4_0 l3_0 → lv_has ls 5 [(4, .int l4_0), (3, .int l3_0), (0, .ref (u 64)), (1, .int a1), (2, .int a2)] → va_P D vwCl (cW o u cI cZ cJ 79 τ0) H → va_D A (cW o u cI cZ cJ 79 τ0) → va_S A s.heap H locs → W p l e ({ frames := 1, cells := 0, slots := 0, locals := 22 }) s m args below meth c H locs 0 0 (MQ below (yQi Φ D (cW o u cI cZ cJ 79) A) args s 0 0 A) (F0 m 13 ls []) := by
    intro K hk n0
    induction n0 with
    | zero => intro τ0 l4_0 l3_0 H locs ls hok; exact False.elim hok
    | succ n0 ih13 =>
      intro τ0 l4_0 l3_0 H locs ls hok hl hP hD hS
      refine lv_iload hx hb dX3_begin_13 (lv_at hl 0 rfl) ?_
      refine lv_bipush (v := 110) hx hb dX3_begin_15 (by decide) ?_
      refine lv_icmp_ge (tgt := 74) hx hb dX3_begin_17 (by decide) (fun c_17 => ?_) (fun c_17 => ?_)
      · have hok := hok.1 c_17
        exact hk τ0 l4_0 l3_0 H locs ls hok (lv_sub hl [0, 1, 2, 3, 4] rfl) hP hD hS
      · have hok := hok.2 c_17
        refine lv_iload_n hx hb dX3_begin_20 rfl (lv_at hl 1 rfl) ?_
        refine lv_iconst (v := (-1)) hx hb dX3_begin_21 (by decide) ?_
        refine lv_icmp_eq (tgt := 74) hx hb dX3_begin_22 (by decide) (fun c_22 => ?_) (fun c_22 => ?_)
        · have hok := hok.1 c_22
          exact hk τ0 l4_0 l3_0 H locs ls hok (lv_sub hl [0, 1, 2, 3, 4] rfl) hP hD hS
        · have hok := hok.2 c_22
          refine lv_aload_n hx hb dX3_begin_25 rfl (lv_at hl 2 rfl) ?_
          refine xg (ci := 3) S inX3 rfl hK hP cW_65 9 (by decide) rfl kw_5_138 rfl dX3_begin_26 ?_
          refine xg (ci := 6) S inX6 rfl hK hP cW_80 3 (by decide) rfl kw_5_79 rfl dX3_begin_29 ?_
          refine lv_iload_n hx hb dX3_begin_32 rfl (lv_at hl 4 rfl) ?_
          refine lv_icmp_lt (tgt := 45) hx hb dX3_begin_33 (by decide) (fun c_33 => ?_) (fun c_33 => ?_)
          · have hok := hok.1 c_33
            refine lv_aload_n hx hb dX3_begin_45 rfl (lv_at hl 2 rfl) ?_
            refine xg (ci := 3) S inX3 rfl hK hP cW_65 9 (by decide) rfl kw_5_138 rfl dX3_begin_46 ?_
            refine lv_dup hx hb dX3_begin_49 rfl ?_
            refine xg (ci := 6) S inX6 rfl hK hP cW_80 3 (by decide) rfl kw_5_79 rfl dX3_begin_50 ?_
            refine lv_iconst (v := 1) hx hb dX3_begin_53 (by decide) ?_
            refine xiadd (v := (τ0.1 80 3) + 1) S dX3_begin_54 rfl ?_
            refine yp (ci := 6) (v := .int ((τ0.1 80 3) + 1)) (cw := (cW o u cI cZ cJ 79)) S inX6 tyX6 tyX6_ok nmX6 rfl hK hP hD hS cW_80 3 (by decide) kw_5_79 rfl rfl rfl rfl (Nat.le_of_ble_eq_true rfl) dX3_begin_55 cWp_80_3 (fun σ2 H locs eσ2 hP hD hS => ?_)
            have hok := hok σ2 eσ2
            refine lv_aload_n hx hb dX3_begin_58 rfl (lv_at hl 2 rfl) ?_
            refine xg (ci := 3) S inX3 rfl hK hP cW_65 3 (by decide) rfl kw_5_132 rfl dX3_begin_59 ?_
            refine xg (ci := 0) S inX0 rfl hK hP cW_52 15 (by decide) rfl kw_5_7 rfl dX3_begin_62 ?_
            refine lv_iload_n hx hb dX3_begin_65 rfl (lv_at hl 1 rfl) ?_
            have h_66 := hok.1
            have hok := hok.2
            refine xiald (t0 := 0) (v := (g σ2 63 l3_0)) S hK hP cW_63 rfl h_66 rfl dX3_begin_66 ?_
            refine lv_topi (fun x3 ex3 => ?_)
            have hok := hok x3 ex3
            refine lv_istore_n (lv' := [(3, .int x3), (4, .int l4_0), (0, .ref (u 64)), (1, .int a1), (2, .int a2)]) hx hb dX3_begin_67 rfl hl (by decide) rfl (fun ls hl => ?_)
            refine lv_iinc (v := l4_0 + 1) (lv' := [(4, .int (l4_0 + 1)), (3, .int x3), (0, .ref (u 64)), (1, .int a1), (2, .int a2)]) hx hb dX3_begin_68 hl (k := 1) rfl rfl (by decide) rfl (fun ls hl => ?_)
            refine lv_goto (tgt := 13) hx hb dX3_begin_71 (by decide) ?_
            exact ih13 σ2 (l4_0 + 1) x3 H locs ls hok (lv_sub hl [0, 1, 2, 3, 4] rfl) hP hD hS
          · have hok := hok.2 c_33
            refine lv_aload_n hx hb dX3_begin_36 rfl (lv_at hl 2 rfl) ?_
            refine lv_bipush (v := 6) hx hb dX3_begin_37 (by decide) ?_
            refine lv_iload_n hx hb dX3_begin_39 rfl (lv_at hl 1 rfl) ?_
            refine yVv (As := [.int 6, .int l3_0]) (cw := (cW o u cI cZ cJ 79)) (ci := 3) S (v_X3_trap_t80 l D cI cZ cJ o u ra ga τ0 6 l3_0 _ H.size hok) mi_X3_trap kw_3_35 rfl rfl ⟨Nat.le_of_ble_eq_true rfl, Nat.le_of_ble_eq_true rfl⟩ hP hD hK hS hA hB cW_65 rfl rfl hl.1 (Nat.le_of_ble_eq_true rfl) ⟨Nat.le_of_ble_eq_true rfl, Nat.le_of_ble_eq_true rfl⟩ dX3_begin_40 (fun σ4 H locs hok hz hP hD hS => ?_)
            refine lv_iconst (v := 0) hx hb dX3_begin_43 (by decide) ?_
            exact yEndZ S hr hlocks hP hD hS (Nat.le_of_ble_eq_true rfl) (Nat.le_of_ble_eq_true rfl) dX3_begin_44 rfl hok
  refine lp13 _ ?_ FUEL σ 0 x1 _ _ _ hok (lv_sub hl [0, 1, 2, 3, 4] rfl) hP hD hS
  intro σ5 x6 x7 H locs ls hok hl hP hD hS
  refine lv_iconst (v := 1) hx hb dX3_begin_74 (by decide) ?_
  exact yEndZ S hr hlocks hP hD hS (Nat.le_of_ble_eq_true rfl) (Nat.le_of_ble_eq_true rfl) dX3_begin_75 rfl hok

set_option maxHeartbeats 8000000 in
set_option maxRecDepth 100000 in
theorem v_X3_pick_t80 (l : Launch) (D : va_G) (cI cZ cJ : ClassId) (o : Nat) (u : Nat → Nat) (ra : Nat → Nat) (ga : SG) (σ : FS) (a1 : Int32) (a2 : Int32) (a3 : Int32) (Φ : FS → Prop) (sz : Nat) (hok : (wp_X3_pick 80 σ a1 a2 a3 Φ)) : Met l yX3_pick (uW yX3_pick cX3_pick 6 none) ({ frames := 3, cells := 0, slots := 0, locals := 68 }) (va_Pc [.ref (u 64), .int a1, .int a2, .int a3] (aS ra ga D (tyL cI cZ cJ) (cW o u cI cZ cJ 79 σ) sz)) (yQv Φ D (cW o u cI cZ cJ 79) (va_A (cW o u cI cZ cJ 79 σ) sz)) 0 0 (va_A (cW o u cI cZ cJ 79 σ) sz) := by
  refine aStart (lv := [(0, .ref (u 64)), (1, .int a1), (2, .int a2), (3, .int a3)]) (Qc := fun A => yQv Φ D (cW o u cI cZ cJ 79) A) (by decide) (Nat.le_of_ble_eq_true rfl) rfl ?_
  intro p e s m args below meth c ls A H S hr hlocks hnm hl hK hP hD hS hA hB
  have hx := S.1
  have hb := S.2.1
  refine lv_aload_n hx hb dX3_pick_0 rfl (lv_at hl 0 rfl) ?_
  refine yVi (As := []) (cw := (cW o u cI cZ cJ 79)) (ci := 3) S (v_X3_pop l D cI cZ cJ o u 79 ra ga σ _ H.size hok) mi_X3_pop kw_3_67 rfl rfl ⟨Nat.le_of_ble_eq_true rfl, Nat.le_of_ble_eq_true rfl⟩ hP hD hK hS hA hB cW_65 rfl rfl hl.1 (Nat.le_of_ble_eq_true rfl) ⟨Nat.le_of_ble_eq_true rfl, Nat.le_of_ble_eq_true rfl⟩ dX3_pick_1 (fun x2 σ1 H locs hok hz hP hD hS => ?_)
  refine lv_istore (lv' := [(4, .int x2), (0, .ref (u 64)), (1, .int a1), (2, .int a2), (3, .int a3)]) hx hb dX3_pick_4 hl (by decide) rfl (fun ls hl => ?_)
  refine lv_aload_n hx hb dX3_pick_6 rfl (lv_at hl 1 rfl) ?_
  refine xg (ci := 3) S inX3 rfl hK hP cW_65 4 (by decide) rfl kw_5_133 rfl dX3_pick_7 ?_
  refine lv_iload_n hx hb dX3_pick_10 rfl (lv_at hl 2 rfl) ?_
  refine lv_iconst (v := 0) hx hb dX3_pick_11 (by decide) ?_
  refine yVi (As := [.int a1, .int 0]) (cw := (cW o u cI cZ cJ 79)) (ci := 7) S (v_X7_at_66 l D cI cZ cJ o u 79 ra ga σ1 a1 0 _ H.size hok) mi_X7_at kw_3_18 rfl rfl ⟨Nat.le_of_ble_eq_true rfl, Nat.le_of_ble_eq_true rfl⟩ hP hD hK hS hA hB cW_66 rfl rfl hl.1 (Nat.le_of_ble_eq_true rfl) ⟨Nat.le_of_ble_eq_true rfl, Nat.le_of_ble_eq_true rfl⟩ dX3_pick_12 (fun x4 σ3 H locs hok hz hP hD hS => ?_)
  refine lv_iload hx hb dX3_pick_15 (lv_at hl 0 rfl) ?_
  refine xiadd (v := x4 + x2) S dX3_pick_17 rfl ?_
  refine lv_topi (fun x5 ex5 => ?_)
  have hok := hok x5 ex5
  refine lv_istore (lv' := [(5, .int x5), (4, .int x2), (0, .ref (u 64)), (1, .int a1), (2, .int a2), (3, .int a3)]) hx hb dX3_pick_18 hl (by decide) rfl (fun ls hl => ?_)
  refine lv_iload hx hb dX3_pick_20 (lv_at hl 1 rfl) ?_
  refine lv_if_lt (tgt := 39) hx hb dX3_pick_22 (by decide) (fun c_22 => ?_) (fun c_22 => ?_)
  · have hok := hok.1 c_22
    refine lv_aload_n hx hb dX3_pick_39 rfl (lv_at hl 2 rfl) ?_
    refine lv_iconst (v := 2) hx hb dX3_pick_40 (by decide) ?_
    refine lv_aload_n hx hb dX3_pick_41 rfl (lv_at hl 2 rfl) ?_
    refine xg (ci := 3) S inX3 rfl hK hP cW_65 3 (by decide) rfl kw_5_132 rfl dX3_pick_42 ?_
    refine xg (ci := 0) S inX0 rfl hK hP cW_52 10 (by decide) rfl kw_4_237 rfl dX3_pick_45 ?_
    refine lv_iload_n hx hb dX3_pick_48 rfl (lv_at hl 4 rfl) ?_
    have h_49 := hok.1
    have hok := hok.2
    refine xiald (t0 := 0) (v := (g σ3 58 a2)) S hK hP cW_58 rfl h_49 rfl dX3_pick_49 ?_
    refine yVv (As := [.int 2, .int (g σ3 58 a2)]) (cw := (cW o u cI cZ cJ 79)) (ci := 3) S (v_X3_trap_t80 l D cI cZ cJ o u ra ga σ3 2 (g σ3 58 a2) _ H.size hok) mi_X3_trap kw_3_35 rfl rfl ⟨Nat.le_of_ble_eq_true rfl, Nat.le_of_ble_eq_true rfl⟩ hP hD hK hS hA hB cW_65 rfl rfl hl.1 (Nat.le_of_ble_eq_true rfl) ⟨Nat.le_of_ble_eq_true rfl, Nat.le_of_ble_eq_true rfl⟩ dX3_pick_50 (fun σ6 H locs hok hz hP hD hS => ?_)
    refine lv_goto (tgt := 80) hx hb dX3_pick_53 (by decide) ?_
    exact yEndv S hr hlocks hP hD hS (Nat.le_of_ble_eq_true rfl) (Nat.le_of_ble_eq_true rfl) dX3_pick_80 hok
  · have hok := hok.2 c_22
    refine lv_iload hx hb dX3_pick_25 (lv_at hl 1 rfl) ?_
    refine lv_aload_n hx hb dX3_pick_27 rfl (lv_at hl 2 rfl) ?_
    refine xg (ci := 3) S inX3 rfl hK hP cW_65 4 (by decide) rfl kw_5_133 rfl dX3_pick_28 ?_
    refine lv_iload_n hx hb dX3_pick_31 rfl (lv_at hl 3 rfl) ?_
    refine lv_iconst (v := 1) hx hb dX3_pick_32 (by decide) ?_
    refine yVi (As := [.int a1, .int 1]) (cw := (cW o u cI cZ cJ 79)) (ci := 7) S (v_X7_at_66 l D cI cZ cJ o u 79 ra ga σ3 a1 1 _ H.size hok) mi_X7_at kw_3_18 rfl rfl ⟨Nat.le_of_ble_eq_true rfl, Nat.le_of_ble_eq_true rfl⟩ hP hD hK hS hA hB cW_66 rfl rfl hl.1 (Nat.le_of_ble_eq_true rfl) ⟨Nat.le_of_ble_eq_true rfl, Nat.le_of_ble_eq_true rfl⟩ dX3_pick_33 (fun x8 σ7 H locs hok hz hP hD hS => ?_)
    refine lv_icmp_lt (tgt := 56) hx hb dX3_pick_36 (by decide) (fun c_36 => ?_) (fun c_36 => ?_)
    · have hok := hok.1 c_36
      refine lv_aload_n hx hb dX3_pick_56 rfl (lv_at hl 2 rfl) ?_
      refine lv_iload_n hx hb dX3_pick_57 rfl (lv_at hl 5 rfl) ?_
      refine lv_if_eq (tgt := 66) hx hb dX3_pick_58 (by decide) (fun c_58 => ?_) (fun c_58 => ?_)
      · have hok := hok.1 c_58
        refine lv_aload_n hx hb dX3_pick_66 rfl (lv_at hl 2 rfl) ?_
        refine xg (ci := 3) S inX3 rfl hK hP cW_65 4 (by decide) rfl kw_5_133 rfl dX3_pick_67 ?_
        refine lv_iload hx hb dX3_pick_70 (lv_at hl 0 rfl) ?_
        refine lv_iconst (v := 0) hx hb dX3_pick_72 (by decide) ?_
        refine yVi (As := [.int x5, .int 0]) (cw := (cW o u cI cZ cJ 79)) (ci := 7) S (v_X7_at_66 l D cI cZ cJ o u 79 ra ga σ7 x5 0 _ H.size hok) mi_X7_at kw_3_18 rfl rfl ⟨Nat.le_of_ble_eq_true rfl, Nat.le_of_ble_eq_true rfl⟩ hP hD hK hS hA hB cW_66 rfl rfl hl.1 (Nat.le_of_ble_eq_true rfl) ⟨Nat.le_of_ble_eq_true rfl, Nat.le_of_ble_eq_true rfl⟩ dX3_pick_73 (fun x10 σ9 H locs hok hz hP hD hS => ?_)
        refine lv_iconst (v := 0) hx hb dX3_pick_76 (by decide) ?_
        refine yVv (As := [.int x10, .int 0]) (cw := (cW o u cI cZ cJ 79)) (ci := 3) S (v_X3_push l D cI cZ cJ o u 79 ra ga σ9 x10 0 _ H.size hok) mi_X3_push kw_3_43 rfl rfl ⟨Nat.le_of_ble_eq_true rfl, Nat.le_of_ble_eq_true rfl⟩ hP hD hK hS hA hB cW_65 rfl rfl hl.1 (Nat.le_of_ble_eq_true rfl) ⟨Nat.le_of_ble_eq_true rfl, Nat.le_of_ble_eq_true rfl⟩ dX3_pick_77 (fun σ11 H locs hok hz hP hD hS => ?_)
        exact yEndv S hr hlocks hP hD hS (Nat.le_of_ble_eq_true rfl) (Nat.le_of_ble_eq_true rfl) dX3_pick_80 hok
      · have hok := hok.2 c_58
        refine lv_iload hx hb dX3_pick_61 (lv_at hl 0 rfl) ?_
        refine lv_goto (tgt := 76) hx hb dX3_pick_63 (by decide) ?_
        refine lv_iconst (v := 0) hx hb dX3_pick_76 (by decide) ?_
        refine yVv (As := [.int x5, .int 0]) (cw := (cW o u cI cZ cJ 79)) (ci := 3) S (v_X3_push l D cI cZ cJ o u 79 ra ga σ7 x5 0 _ H.size hok) mi_X3_push kw_3_43 rfl rfl ⟨Nat.le_of_ble_eq_true rfl, Nat.le_of_ble_eq_true rfl⟩ hP hD hK hS hA hB cW_65 rfl rfl hl.1 (Nat.le_of_ble_eq_true rfl) ⟨Nat.le_of_ble_eq_true rfl, Nat.le_of_ble_eq_true rfl⟩ dX3_pick_77 (fun σ12 H locs hok hz hP hD hS => ?_)
        exact yEndv S hr hlocks hP hD hS (Nat.le_of_ble_eq_true rfl) (Nat.le_of_ble_eq_true rfl) dX3_pick_80 hok
    · have hok := hok.2 c_36
      refine lv_aload_n hx hb dX3_pick_39 rfl (lv_at hl 2 rfl) ?_
      refine lv_iconst (v := 2) hx hb dX3_pick_40 (by decide) ?_
      refine lv_aload_n hx hb dX3_pick_41 rfl (lv_at hl 2 rfl) ?_
      refine xg (ci := 3) S inX3 rfl hK hP cW_65 3 (by decide) rfl kw_5_132 rfl dX3_pick_42 ?_
      refine xg (ci := 0) S inX0 rfl hK hP cW_52 10 (by decide) rfl kw_4_237 rfl dX3_pick_45 ?_
      refine lv_iload_n hx hb dX3_pick_48 rfl (lv_at hl 4 rfl) ?_
      have h_49 := hok.1
      have hok := hok.2
      refine xiald (t0 := 0) (v := (g σ7 58 a2)) S hK hP cW_58 rfl h_49 rfl dX3_pick_49 ?_
      refine yVv (As := [.int 2, .int (g σ7 58 a2)]) (cw := (cW o u cI cZ cJ 79)) (ci := 3) S (v_X3_trap_t80 l D cI cZ cJ o u ra ga σ7 2 (g σ7 58 a2) _ H.size hok) mi_X3_trap kw_3_35 rfl rfl ⟨Nat.le_of_ble_eq_true rfl, Nat.le_of_ble_eq_true rfl⟩ hP hD hK hS hA hB cW_65 rfl rfl hl.1 (Nat.le_of_ble_eq_true rfl) ⟨Nat.le_of_ble_eq_true rfl, Nat.le_of_ble_eq_true rfl⟩ dX3_pick_50 (fun σ13 H locs hok hz hP hD hS => ?_)
      refine lv_goto (tgt := 80) hx hb dX3_pick_53 (by decide) ?_
      exact yEndv S hr hlocks hP hD hS (Nat.le_of_ble_eq_true rfl) (Nat.le_of_ble_eq_true rfl) dX3_pick_80 hok

set_option maxHeartbeats 8000000 in
set_option maxRecDepth 100000 in
theorem v_X3_reckon_t80 (l : Launch) (D : va_G) (cI cZ cJ : ClassId) (o : Nat) (u : Nat → Nat) (ra : Nat → Nat) (ga : SG) (σ : FS) (a1 : Int32) (a2 : Int32) (Φ : FS → Prop) (sz : Nat) (hok : (wp_X3_reckon 80 σ a1 a2 Φ)) : Met l yX3_reckon (uW yX3_reckon cX3_reckon 5 none) ({ frames := 3, cells := 0, slots := 0, locals := 68 }) (va_Pc [.ref (u 64), .int a1, .int a2] (aS ra ga D (tyL cI cZ cJ) (cW o u cI cZ cJ 79 σ) sz)) (yQv Φ D (cW o u cI cZ cJ 79) (va_A (cW o u cI cZ cJ 79 σ) sz)) 0 0 (va_A (cW o u cI cZ cJ 79 σ) sz) := by
  refine aStart (lv := [(0, .ref (u 64)), (1, .int a1), (2, .int a2)]) (Qc := fun A => yQv Φ D (cW o u cI cZ cJ 79) A) (by decide) (Nat.le_of_ble_eq_true rfl) rfl ?_
  intro p e s m args below meth c ls A H S hr hlocks hnm hl hK hP hD hS hA hB
  have hx := S.1
  have hb := S.2.1
  refine lv_aload_n hx hb dX3_reckon_0 rfl (lv_at hl 0 rfl) ?_
  refine yVi (As := []) (cw := (cW o u cI cZ cJ 79)) (ci := 3) S (v_X3_pop l D cI cZ cJ o u 79 ra ga σ _ H.size hok) mi_X3_pop kw_3_67 rfl rfl ⟨Nat.le_of_ble_eq_true rfl, Nat.le_of_ble_eq_true rfl⟩ hP hD hK hS hA hB cW_65 rfl rfl hl.1 (Nat.le_of_ble_eq_true rfl) ⟨Nat.le_of_ble_eq_true rfl, Nat.le_of_ble_eq_true rfl⟩ dX3_reckon_1 (fun x2 σ1 H locs hok hz hP hD hS => ?_)
  refine lv_istore_n (lv' := [(3, .int x2), (0, .ref (u 64)), (1, .int a1), (2, .int a2)]) hx hb dX3_reckon_4 rfl hl (by decide) rfl (fun ls hl => ?_)
  refine lv_aload_n hx hb dX3_reckon_5 rfl (lv_at hl 1 rfl) ?_
  refine yVi (As := []) (cw := (cW o u cI cZ cJ 79)) (ci := 3) S (v_X3_pop l D cI cZ cJ o u 79 ra ga σ1 _ H.size hok) mi_X3_pop kw_3_67 rfl rfl ⟨Nat.le_of_ble_eq_true rfl, Nat.le_of_ble_eq_true rfl⟩ hP hD hK hS hA hB cW_65 rfl rfl hl.1 (Nat.le_of_ble_eq_true rfl) ⟨Nat.le_of_ble_eq_true rfl, Nat.le_of_ble_eq_true rfl⟩ dX3_reckon_6 (fun x4 σ3 H locs hok hz hP hD hS => ?_)
  refine lv_istore (lv' := [(4, .int x4), (3, .int x2), (0, .ref (u 64)), (1, .int a1), (2, .int a2)]) hx hb dX3_reckon_9 hl (by decide) rfl (fun ls hl => ?_)
  refine lv_iload_n hx hb dX3_reckon_11 rfl (lv_at hl 4 rfl) ?_
  refine lv_iconst (v := 1) hx hb dX3_reckon_12 (by decide) ?_
  refine xisub (v := a2 - 1) S dX3_reckon_13 rfl ?_
  refine lv_bipush (v := 6) hx hb dX3_reckon_14 (by decide) ?_
  refine lv_icmp_ne (tgt := 40) hx hb dX3_reckon_16 (by decide) (fun c_16 => ?_) (fun c_16 => ?_)
  · have hok := hok.2 c_16
    refine lv_aload_n hx hb dX3_reckon_40 rfl (lv_at hl 2 rfl) ?_
    refine lv_iload_n hx hb dX3_reckon_41 rfl (lv_at hl 4 rfl) ?_
    refine lv_iconst (v := 1) hx hb dX3_reckon_42 (by decide) ?_
    refine xisub (v := a2 - 1) S dX3_reckon_43 rfl ?_
    refine lv_iload hx hb dX3_reckon_44 (lv_at hl 0 rfl) ?_
    refine lv_iload_n hx hb dX3_reckon_46 rfl (lv_at hl 1 rfl) ?_
    refine ySi (As := [.int (a2 - 1), .int x4, .int x2]) (cw := (cW o u cI cZ cJ 79)) S (v_X4_reckon l D cI cZ cJ o u 79 ra ga σ3 (a2 - 1) x4 x2 _ H.size hok) ms_X4_reckon kw_3_129 rfl rfl ⟨Nat.le_of_ble_eq_true rfl, Nat.le_of_ble_eq_true rfl⟩ hP hD hK hS hA hB hl.1 (Nat.le_of_ble_eq_true rfl) ⟨Nat.le_of_ble_eq_true rfl, Nat.le_of_ble_eq_true rfl⟩ dX3_reckon_47 (fun x6 σ5 H locs hok hz hP hD hS => ?_)
    refine lv_iconst (v := 0) hx hb dX3_reckon_50 (by decide) ?_
    refine yVv (As := [.int x6, .int 0]) (cw := (cW o u cI cZ cJ 79)) (ci := 3) S (v_X3_push l D cI cZ cJ o u 79 ra ga σ5 x6 0 _ H.size hok) mi_X3_push kw_3_43 rfl rfl ⟨Nat.le_of_ble_eq_true rfl, Nat.le_of_ble_eq_true rfl⟩ hP hD hK hS hA hB cW_65 rfl rfl hl.1 (Nat.le_of_ble_eq_true rfl) ⟨Nat.le_of_ble_eq_true rfl, Nat.le_of_ble_eq_true rfl⟩ dX3_reckon_51 (fun σ7 H locs hok hz hP hD hS => ?_)
    exact yEndv S hr hlocks hP hD hS (Nat.le_of_ble_eq_true rfl) (Nat.le_of_ble_eq_true rfl) dX3_reckon_54 hok
  · have hok := hok.1 c_16
    refine lv_iload_n hx hb dX3_reckon_19 rfl (lv_at hl 1 rfl) ?_
    refine lv_if_ne (tgt := 40) hx hb dX3_reckon_20 (by decide) (fun c_20 => ?_) (fun c_20 => ?_)
    · have hok := hok.2 c_20
      refine lv_aload_n hx hb dX3_reckon_40 rfl (lv_at hl 2 rfl) ?_
      refine lv_iload_n hx hb dX3_reckon_41 rfl (lv_at hl 4 rfl) ?_
      refine lv_iconst (v := 1) hx hb dX3_reckon_42 (by decide) ?_
      refine xisub (v := a2 - 1) S dX3_reckon_43 rfl ?_
      refine lv_iload hx hb dX3_reckon_44 (lv_at hl 0 rfl) ?_
      refine lv_iload_n hx hb dX3_reckon_46 rfl (lv_at hl 1 rfl) ?_
      refine ySi (As := [.int (a2 - 1), .int x4, .int x2]) (cw := (cW o u cI cZ cJ 79)) S (v_X4_reckon l D cI cZ cJ o u 79 ra ga σ3 (a2 - 1) x4 x2 _ H.size hok) ms_X4_reckon kw_3_129 rfl rfl ⟨Nat.le_of_ble_eq_true rfl, Nat.le_of_ble_eq_true rfl⟩ hP hD hK hS hA hB hl.1 (Nat.le_of_ble_eq_true rfl) ⟨Nat.le_of_ble_eq_true rfl, Nat.le_of_ble_eq_true rfl⟩ dX3_reckon_47 (fun x9 σ8 H locs hok hz hP hD hS => ?_)
      refine lv_iconst (v := 0) hx hb dX3_reckon_50 (by decide) ?_
      refine yVv (As := [.int x9, .int 0]) (cw := (cW o u cI cZ cJ 79)) (ci := 3) S (v_X3_push l D cI cZ cJ o u 79 ra ga σ8 x9 0 _ H.size hok) mi_X3_push kw_3_43 rfl rfl ⟨Nat.le_of_ble_eq_true rfl, Nat.le_of_ble_eq_true rfl⟩ hP hD hK hS hA hB cW_65 rfl rfl hl.1 (Nat.le_of_ble_eq_true rfl) ⟨Nat.le_of_ble_eq_true rfl, Nat.le_of_ble_eq_true rfl⟩ dX3_reckon_51 (fun σ10 H locs hok hz hP hD hS => ?_)
      exact yEndv S hr hlocks hP hD hS (Nat.le_of_ble_eq_true rfl) (Nat.le_of_ble_eq_true rfl) dX3_reckon_54 hok
    · have hok := hok.1 c_20
      refine lv_aload_n hx hb dX3_reckon_23 rfl (lv_at hl 2 rfl) ?_
      refine lv_iconst (v := 1) hx hb dX3_reckon_24 (by decide) ?_
      refine lv_aload_n hx hb dX3_reckon_25 rfl (lv_at hl 2 rfl) ?_
      refine xg (ci := 3) S inX3 rfl hK hP cW_65 3 (by decide) rfl kw_5_132 rfl dX3_reckon_26 ?_
      refine xg (ci := 0) S inX0 rfl hK hP cW_52 10 (by decide) rfl kw_4_237 rfl dX3_reckon_29 ?_
      refine lv_iload_n hx hb dX3_reckon_32 rfl (lv_at hl 3 rfl) ?_
      have h_33 := hok.1
      have hok := hok.2
      refine xiald (t0 := 0) (v := (g σ3 58 a1)) S hK hP cW_58 rfl h_33 rfl dX3_reckon_33 ?_
      refine yVv (As := [.int 1, .int (g σ3 58 a1)]) (cw := (cW o u cI cZ cJ 79)) (ci := 3) S (v_X3_trap_t80 l D cI cZ cJ o u ra ga σ3 1 (g σ3 58 a1) _ H.size hok) mi_X3_trap kw_3_35 rfl rfl ⟨Nat.le_of_ble_eq_true rfl, Nat.le_of_ble_eq_true rfl⟩ hP hD hK hS hA hB cW_65 rfl rfl hl.1 (Nat.le_of_ble_eq_true rfl) ⟨Nat.le_of_ble_eq_true rfl, Nat.le_of_ble_eq_true rfl⟩ dX3_reckon_34 (fun σ11 H locs hok hz hP hD hS => ?_)
      refine lv_goto (tgt := 54) hx hb dX3_reckon_37 (by decide) ?_
      exact yEndv S hr hlocks hP hD hS (Nat.le_of_ble_eq_true rfl) (Nat.le_of_ble_eq_true rfl) dX3_reckon_54 hok

set_option maxHeartbeats 8000000 in
set_option maxRecDepth 100000 in
theorem v_X3_go_t80 (l : Launch) (D : va_G) (cI cZ cJ : ClassId) (o : Nat) (u : Nat → Nat) (ra : Nat → Nat) (ga : SG) (σ : FS) (a1 : Int32) (Φ : FS → Prop) (sz : Nat) (hok : (wp_X3_go 80 σ a1 Φ)) : Met l yX3_go (uW yX3_go cX3_go 4 none) ({ frames := 4, cells := 0, slots := 0, locals := 97 }) (va_Pc [.ref (u 64), .int a1] (aS ra ga D (tyL cI cZ cJ) (cW o u cI cZ cJ 79 σ) sz)) (yQv Φ D (cW o u cI cZ cJ 79) (va_A (cW o u cI cZ cJ 79 σ) sz)) 0 0 (va_A (cW o u cI cZ cJ 79 σ) sz) := by
  refine aStart (lv := [(0, .ref (u 64)), (1, .int a1)]) (Qc := fun A => yQv Φ D (cW o u cI cZ cJ 79) A) (by decide) (Nat.le_of_ble_eq_true rfl) rfl ?_
  intro p e s m args below meth c ls A H S hr hlocks hnm hl hK hP hD hS hA hB
  have hx := S.1
  have hb := S.2.1
  refine lv_aload_n hx hb dX3_go_0 rfl (lv_at hl 0 rfl) ?_
  refine xg (ci := 3) S inX3 rfl hK hP cW_65 3 (by decide) rfl kw_5_132 rfl dX3_go_1 ?_
  refine xg (ci := 0) S inX0 rfl hK hP cW_52 10 (by decide) rfl kw_4_237 rfl dX3_go_4 ?_
  refine lv_iload_n hx hb dX3_go_7 rfl (lv_at hl 1 rfl) ?_
  have h_8 := hok.1
  have hok := hok.2
  refine xiald (t0 := 0) (v := (g σ 58 a1)) S hK hP cW_58 rfl h_8 rfl dX3_go_8 ?_
  refine lv_topi (fun x1 ex1 => ?_)
  have hok := hok x1 ex1
  refine lv_istore_n (lv' := [(2, .int x1), (0, .ref (u 64)), (1, .int a1)]) hx hb dX3_go_9 rfl hl (by decide) rfl (fun ls hl => ?_)
  refine lv_aload_n hx hb dX3_go_10 rfl (lv_at hl 1 rfl) ?_
  refine xg (ci := 3) S inX3 rfl hK hP cW_65 15 (by decide) rfl kw_5_144 rfl dX3_go_11 ?_
  refine lv_aload_n hx hb dX3_go_14 rfl (lv_at hl 1 rfl) ?_
  refine xg (ci := 3) S inX3 rfl hK hP cW_65 11 (by decide) rfl kw_5_140 rfl dX3_go_15 ?_
  refine lv_icmp_lt (tgt := 29) hx hb dX3_go_18 (by decide) (fun c_18 => ?_) (fun c_18 => ?_)
  · have hok := hok.1 c_18
    refine lv_aload_n hx hb dX3_go_29 rfl (lv_at hl 1 rfl) ?_
    refine lv_aload_n hx hb dX3_go_30 rfl (lv_at hl 1 rfl) ?_
    refine xg (ci := 3) S inX3 rfl hK hP cW_65 3 (by decide) rfl kw_5_132 rfl dX3_go_31 ?_
    refine xg (ci := 0) S inX0 rfl hK hP cW_52 8 (by decide) rfl kw_4_231 rfl dX3_go_34 ?_
    refine lv_iload_n hx hb dX3_go_37 rfl (lv_at hl 2 rfl) ?_
    have h_38 := hok.1
    have hok := hok.2
    refine xiald (t0 := 0) (v := (g σ 56 a1)) S hK hP cW_56 rfl h_38 rfl dX3_go_38 ?_
    refine yVi (As := [.int (g σ 56 a1)]) (cw := (cW o u cI cZ cJ 79)) (ci := 3) S (v_X3_frameAt l D cI cZ cJ o u 79 ra ga σ (g σ 56 a1) _ H.size hok) mi_X3_frameAt kw_3_51 rfl rfl ⟨Nat.le_of_ble_eq_true rfl, Nat.le_of_ble_eq_true rfl⟩ hP hD hK hS hA hB cW_65 rfl rfl hl.1 (Nat.le_of_ble_eq_true rfl) ⟨Nat.le_of_ble_eq_true rfl, Nat.le_of_ble_eq_true rfl⟩ dX3_go_39 (fun x3 σ2 H locs hok hz hP hD hS => ?_)
    refine lv_istore_n (lv' := [(3, .int x3), (2, .int x1), (0, .ref (u 64)), (1, .int a1)]) hx hb dX3_go_42 rfl hl (by decide) rfl (fun ls hl => ?_)
    refine lv_aload_n hx hb dX3_go_43 rfl (lv_at hl 2 rfl) ?_
    refine xg (ci := 3) S inX3 rfl hK hP cW_65 1 (by decide) rfl kw_5_130 rfl dX3_go_44 ?_
    refine xg (ci := 5) S inX5 rfl hK hP cW_13 5 (by decide) rfl kw_4_63 rfl dX3_go_47 ?_
    refine lv_iload_n hx hb dX3_go_50 rfl (lv_at hl 1 rfl) ?_
    have h_51 := hok.1
    have hok := hok.2
    refine xiald (t0 := 0) (v := (g σ2 18 x1)) S hK hP cW_18 rfl h_51 rfl dX3_go_51 ?_
    refine lv_iconst (v := (-1)) hx hb dX3_go_52 (by decide) ?_
    refine lv_icmp_eq (tgt := 133) hx hb dX3_go_53 (by decide) (fun c_53 => ?_) (fun c_53 => ?_)
    · have hok := hok.1 c_53
      refine lv_aload_n hx hb dX3_go_133 rfl (lv_at hl 2 rfl) ?_
      refine lv_aload_n hx hb dX3_go_134 rfl (lv_at hl 2 rfl) ?_
      refine xg (ci := 3) S inX3 rfl hK hP cW_65 12 (by decide) rfl kw_5_141 rfl dX3_go_135 ?_
      refine lv_aload_n hx hb dX3_go_138 rfl (lv_at hl 2 rfl) ?_
      refine xg (ci := 3) S inX3 rfl hK hP cW_65 14 (by decide) rfl kw_5_143 rfl dX3_go_139 ?_
      refine yVv (As := [.int (σ2.1 65 12), .int (σ2.1 65 14)]) (cw := (cW o u cI cZ cJ 79)) (ci := 3) S (v_X3_keepReturn l D cI cZ cJ o u 79 ra ga σ2 (σ2.1 65 12) (σ2.1 65 14) _ H.size hok) mi_X3_keepReturn kw_2_220 rfl rfl ⟨Nat.le_of_ble_eq_true rfl, Nat.le_of_ble_eq_true rfl⟩ hP hD hK hS hA hB cW_65 rfl rfl hl.1 (Nat.le_of_ble_eq_true rfl) ⟨Nat.le_of_ble_eq_true rfl, Nat.le_of_ble_eq_true rfl⟩ dX3_go_142 (fun σ4 H locs hok hz hP hD hS => ?_)
      refine lv_aload_n hx hb dX3_go_145 rfl (lv_at hl 2 rfl) ?_
      refine lv_aload_n hx hb dX3_go_146 rfl (lv_at hl 2 rfl) ?_
      refine xg (ci := 3) S inX3 rfl hK hP cW_65 3 (by decide) rfl kw_5_132 rfl dX3_go_147 ?_
      refine xg (ci := 0) S inX0 rfl hK hP cW_52 9 (by decide) rfl kw_4_234 rfl dX3_go_150 ?_
      refine lv_iload_n hx hb dX3_go_153 rfl (lv_at hl 3 rfl) ?_
      have h_154 := hok.1
      have hok := hok.2
      refine xiald (t0 := 0) (v := (g σ4 57 a1)) S hK hP cW_57 rfl h_154 rfl dX3_go_154 ?_
      refine lv_iload_n hx hb dX3_go_155 rfl (lv_at hl 0 rfl) ?_
      refine yVv (As := [.int (g σ4 57 a1), .int x3]) (cw := (cW o u cI cZ cJ 79)) (ci := 3) S (v_X3_call_t80 l D cI cZ cJ o u ra ga σ4 (g σ4 57 a1) x3 _ H.size hok) mi_X3_call kw_3_14 rfl rfl ⟨Nat.le_of_ble_eq_true rfl, Nat.le_of_ble_eq_true rfl⟩ hP hD hK hS hA hB cW_65 rfl rfl hl.1 (Nat.le_of_ble_eq_true rfl) ⟨Nat.le_of_ble_eq_true rfl, Nat.le_of_ble_eq_true rfl⟩ dX3_go_156 (fun σ5 H locs hok hz hP hD hS => ?_)
      exact yEndv S hr hlocks hP hD hS (Nat.le_of_ble_eq_true rfl) (Nat.le_of_ble_eq_true rfl) dX3_go_159 hok
    · have hok := hok.2 c_53
      refine lv_aload_n hx hb dX3_go_56 rfl (lv_at hl 2 rfl) ?_
      refine xg (ci := 3) S inX3 rfl hK hP cW_65 2 (by decide) rfl kw_5_131 rfl dX3_go_57 ?_
      refine xg (ci := 4) S inX4 rfl hK hP cW_20 9 (by decide) rfl kw_4_112 rfl dX3_go_60 ?_
      refine lv_aload_n hx hb dX3_go_63 rfl (lv_at hl 2 rfl) ?_
      refine xg (ci := 3) S inX3 rfl hK hP cW_65 1 (by decide) rfl kw_5_130 rfl dX3_go_64 ?_
      refine xg (ci := 5) S inX5 rfl hK hP cW_13 5 (by decide) rfl kw_4_63 rfl dX3_go_67 ?_
      refine lv_iload_n hx hb dX3_go_70 rfl (lv_at hl 1 rfl) ?_
      have h_71 := hok.1
      have hok := hok.2
      refine xiald (t0 := 0) (v := (g σ2 18 x1)) S hK hP cW_18 rfl h_71 rfl dX3_go_71 ?_
      have h_72 := hok.1
      have hok := hok.2
      refine xzald (t0 := 1) (v := (g σ2 28 (g σ2 18 x1))) S hK hP cW_28 rfl h_72 rfl dX3_go_72 ?_
      refine lv_if_eq (tgt := 133) hx hb dX3_go_73 (by decide) (fun c_73 => ?_) (fun c_73 => ?_)
      · have hok := hok.1 c_73
        refine lv_aload_n hx hb dX3_go_133 rfl (lv_at hl 2 rfl) ?_
        refine lv_aload_n hx hb dX3_go_134 rfl (lv_at hl 2 rfl) ?_
        refine xg (ci := 3) S inX3 rfl hK hP cW_65 12 (by decide) rfl kw_5_141 rfl dX3_go_135 ?_
        refine lv_aload_n hx hb dX3_go_138 rfl (lv_at hl 2 rfl) ?_
        refine xg (ci := 3) S inX3 rfl hK hP cW_65 14 (by decide) rfl kw_5_143 rfl dX3_go_139 ?_
        refine yVv (As := [.int (σ2.1 65 12), .int (σ2.1 65 14)]) (cw := (cW o u cI cZ cJ 79)) (ci := 3) S (v_X3_keepReturn l D cI cZ cJ o u 79 ra ga σ2 (σ2.1 65 12) (σ2.1 65 14) _ H.size hok) mi_X3_keepReturn kw_2_220 rfl rfl ⟨Nat.le_of_ble_eq_true rfl, Nat.le_of_ble_eq_true rfl⟩ hP hD hK hS hA hB cW_65 rfl rfl hl.1 (Nat.le_of_ble_eq_true rfl) ⟨Nat.le_of_ble_eq_true rfl, Nat.le_of_ble_eq_true rfl⟩ dX3_go_142 (fun σ6 H locs hok hz hP hD hS => ?_)
        refine lv_aload_n hx hb dX3_go_145 rfl (lv_at hl 2 rfl) ?_
        refine lv_aload_n hx hb dX3_go_146 rfl (lv_at hl 2 rfl) ?_
        refine xg (ci := 3) S inX3 rfl hK hP cW_65 3 (by decide) rfl kw_5_132 rfl dX3_go_147 ?_
        refine xg (ci := 0) S inX0 rfl hK hP cW_52 9 (by decide) rfl kw_4_234 rfl dX3_go_150 ?_
        refine lv_iload_n hx hb dX3_go_153 rfl (lv_at hl 3 rfl) ?_
        have h_154 := hok.1
        have hok := hok.2
        refine xiald (t0 := 0) (v := (g σ6 57 a1)) S hK hP cW_57 rfl h_154 rfl dX3_go_154 ?_
        refine lv_iload_n hx hb dX3_go_155 rfl (lv_at hl 0 rfl) ?_
        refine yVv (As := [.int (g σ6 57 a1), .int x3]) (cw := (cW o u cI cZ cJ 79)) (ci := 3) S (v_X3_call_t80 l D cI cZ cJ o u ra ga σ6 (g σ6 57 a1) x3 _ H.size hok) mi_X3_call kw_3_14 rfl rfl ⟨Nat.le_of_ble_eq_true rfl, Nat.le_of_ble_eq_true rfl⟩ hP hD hK hS hA hB cW_65 rfl rfl hl.1 (Nat.le_of_ble_eq_true rfl) ⟨Nat.le_of_ble_eq_true rfl, Nat.le_of_ble_eq_true rfl⟩ dX3_go_156 (fun σ7 H locs hok hz hP hD hS => ?_)
        exact yEndv S hr hlocks hP hD hS (Nat.le_of_ble_eq_true rfl) (Nat.le_of_ble_eq_true rfl) dX3_go_159 hok
      · have hok := hok.2 c_73
        refine lv_aload_n hx hb dX3_go_76 rfl (lv_at hl 2 rfl) ?_
        refine xg (ci := 3) S inX3 rfl hK hP cW_65 8 (by decide) rfl kw_5_137 rfl dX3_go_77 ?_
        refine lv_aload_n hx hb dX3_go_80 rfl (lv_at hl 2 rfl) ?_
        refine xg (ci := 3) S inX3 rfl hK hP cW_65 7 (by decide) rfl kw_5_136 rfl dX3_go_81 ?_
        refine lv_aload_n hx hb dX3_go_84 rfl (lv_at hl 2 rfl) ?_
        refine xg (ci := 3) S inX3 rfl hK hP cW_65 7 (by decide) rfl kw_5_136 rfl dX3_go_85 ?_
        refine xg (ci := 7) S inX7 rfl hK hP cW_72 2 (by decide) rfl kw_5_57 rfl dX3_go_88 ?_
        refine lv_iconst (v := 1) hx hb dX3_go_91 (by decide) ?_
        refine xisub (v := (σ2.1 72 2) - 1) S dX3_go_92 rfl ?_
        refine lv_iconst (v := 4) hx hb dX3_go_93 (by decide) ?_
        refine yVi (As := [.int ((σ2.1 72 2) - 1), .int 4]) (cw := (cW o u cI cZ cJ 79)) (ci := 7) S (v_X7_at_72 l D cI cZ cJ o u 79 ra ga σ2 ((σ2.1 72 2) - 1) 4 _ H.size hok) mi_X7_at kw_3_18 rfl rfl ⟨Nat.le_of_ble_eq_true rfl, Nat.le_of_ble_eq_true rfl⟩ hP hD hK hS hA hB cW_72 rfl rfl hl.1 (Nat.le_of_ble_eq_true rfl) ⟨Nat.le_of_ble_eq_true rfl, Nat.le_of_ble_eq_true rfl⟩ dX3_go_94 (fun x9 σ8 H locs hok hz hP hD hS => ?_)
        refine yVv (As := [.int x9]) (cw := (cW o u cI cZ cJ 79)) (ci := 7) S (v_X7_cut_74 l D cI cZ cJ o u 79 ra ga σ8 x9 _ H.size hok) mi_X7_cut kw_2_212 rfl rfl ⟨Nat.le_of_ble_eq_true rfl, Nat.le_of_ble_eq_true rfl⟩ hP hD hK hS hA hB cW_74 rfl rfl hl.1 (Nat.le_of_ble_eq_true rfl) ⟨Nat.le_of_ble_eq_true rfl, Nat.le_of_ble_eq_true rfl⟩ dX3_go_97 (fun σ10 H locs hok hz hP hD hS => ?_)
        refine lv_aload_n hx hb dX3_go_100 rfl (lv_at hl 2 rfl) ?_
        refine lv_aload_n hx hb dX3_go_101 rfl (lv_at hl 2 rfl) ?_
        refine xg (ci := 3) S inX3 rfl hK hP cW_65 12 (by decide) rfl kw_5_141 rfl dX3_go_102 ?_
        refine lv_aload_n hx hb dX3_go_105 rfl (lv_at hl 2 rfl) ?_
        refine xg (ci := 3) S inX3 rfl hK hP cW_65 10 (by decide) rfl kw_5_139 rfl dX3_go_106 ?_
        refine lv_iconst (v := 2) hx hb dX3_go_109 (by decide) ?_
        refine xiand (v := (σ10.1 65 10) &&& 2) S dX3_go_110 rfl ?_
        refine lv_if_eq (tgt := 123) hx hb dX3_go_111 (by decide) (fun c_111 => ?_) (fun c_111 => ?_)
        · have hok := hok.1 c_111
          refine lv_aload_n hx hb dX3_go_123 rfl (lv_at hl 2 rfl) ?_
          refine xg (ci := 3) S inX3 rfl hK hP cW_65 14 (by decide) rfl kw_5_143 rfl dX3_go_124 ?_
          refine yVv (As := [.int (σ10.1 65 12), .int (σ10.1 65 14)]) (cw := (cW o u cI cZ cJ 79)) (ci := 3) S (v_X3_keepReturn l D cI cZ cJ o u 79 ra ga σ10 (σ10.1 65 12) (σ10.1 65 14) _ H.size hok) mi_X3_keepReturn kw_2_220 rfl rfl ⟨Nat.le_of_ble_eq_true rfl, Nat.le_of_ble_eq_true rfl⟩ hP hD hK hS hA hB cW_65 rfl rfl hl.1 (Nat.le_of_ble_eq_true rfl) ⟨Nat.le_of_ble_eq_true rfl, Nat.le_of_ble_eq_true rfl⟩ dX3_go_127 (fun σ11 H locs hok hz hP hD hS => ?_)
          refine lv_goto (tgt := 145) hx hb dX3_go_130 (by decide) ?_
          refine lv_aload_n hx hb dX3_go_145 rfl (lv_at hl 2 rfl) ?_
          refine lv_aload_n hx hb dX3_go_146 rfl (lv_at hl 2 rfl) ?_
          refine xg (ci := 3) S inX3 rfl hK hP cW_65 3 (by decide) rfl kw_5_132 rfl dX3_go_147 ?_
          refine xg (ci := 0) S inX0 rfl hK hP cW_52 9 (by decide) rfl kw_4_234 rfl dX3_go_150 ?_
          refine lv_iload_n hx hb dX3_go_153 rfl (lv_at hl 3 rfl) ?_
          have h_154 := hok.1
          have hok := hok.2
          refine xiald (t0 := 0) (v := (g σ11 57 a1)) S hK hP cW_57 rfl h_154 rfl dX3_go_154 ?_
          refine lv_iload_n hx hb dX3_go_155 rfl (lv_at hl 0 rfl) ?_
          refine yVv (As := [.int (g σ11 57 a1), .int x3]) (cw := (cW o u cI cZ cJ 79)) (ci := 3) S (v_X3_call_t80 l D cI cZ cJ o u ra ga σ11 (g σ11 57 a1) x3 _ H.size hok) mi_X3_call kw_3_14 rfl rfl ⟨Nat.le_of_ble_eq_true rfl, Nat.le_of_ble_eq_true rfl⟩ hP hD hK hS hA hB cW_65 rfl rfl hl.1 (Nat.le_of_ble_eq_true rfl) ⟨Nat.le_of_ble_eq_true rfl, Nat.le_of_ble_eq_true rfl⟩ dX3_go_156 (fun σ12 H locs hok hz hP hD hS => ?_)
          exact yEndv S hr hlocks hP hD hS (Nat.le_of_ble_eq_true rfl) (Nat.le_of_ble_eq_true rfl) dX3_go_159 hok
        · have hok := hok.2 c_111
          refine lv_aload_n hx hb dX3_go_114 rfl (lv_at hl 2 rfl) ?_
          refine xg (ci := 3) S inX3 rfl hK hP cW_65 14 (by decide) rfl kw_5_143 rfl dX3_go_115 ?_
          refine lv_iconst (v := 1) hx hb dX3_go_118 (by decide) ?_
          refine xisub (v := (σ10.1 65 14) - 1) S dX3_go_119 rfl ?_
          refine lv_goto (tgt := 127) hx hb dX3_go_120 (by decide) ?_
          refine yVv (As := [.int (σ10.1 65 12), .int ((σ10.1 65 14) - 1)]) (cw := (cW o u cI cZ cJ 79)) (ci := 3) S (v_X3_keepReturn l D cI cZ cJ o u 79 ra ga σ10 (σ10.1 65 12) ((σ10.1 65 14) - 1) _ H.size hok) mi_X3_keepReturn kw_2_220 rfl rfl ⟨Nat.le_of_ble_eq_true rfl, Nat.le_of_ble_eq_true rfl⟩ hP hD hK hS hA hB cW_65 rfl rfl hl.1 (Nat.le_of_ble_eq_true rfl) ⟨Nat.le_of_ble_eq_true rfl, Nat.le_of_ble_eq_true rfl⟩ dX3_go_127 (fun σ13 H locs hok hz hP hD hS => ?_)
          refine lv_goto (tgt := 145) hx hb dX3_go_130 (by decide) ?_
          refine lv_aload_n hx hb dX3_go_145 rfl (lv_at hl 2 rfl) ?_
          refine lv_aload_n hx hb dX3_go_146 rfl (lv_at hl 2 rfl) ?_
          refine xg (ci := 3) S inX3 rfl hK hP cW_65 3 (by decide) rfl kw_5_132 rfl dX3_go_147 ?_
          refine xg (ci := 0) S inX0 rfl hK hP cW_52 9 (by decide) rfl kw_4_234 rfl dX3_go_150 ?_
          refine lv_iload_n hx hb dX3_go_153 rfl (lv_at hl 3 rfl) ?_
          have h_154 := hok.1
          have hok := hok.2
          refine xiald (t0 := 0) (v := (g σ13 57 a1)) S hK hP cW_57 rfl h_154 rfl dX3_go_154 ?_
          refine lv_iload_n hx hb dX3_go_155 rfl (lv_at hl 0 rfl) ?_
          refine yVv (As := [.int (g σ13 57 a1), .int x3]) (cw := (cW o u cI cZ cJ 79)) (ci := 3) S (v_X3_call_t80 l D cI cZ cJ o u ra ga σ13 (g σ13 57 a1) x3 _ H.size hok) mi_X3_call kw_3_14 rfl rfl ⟨Nat.le_of_ble_eq_true rfl, Nat.le_of_ble_eq_true rfl⟩ hP hD hK hS hA hB cW_65 rfl rfl hl.1 (Nat.le_of_ble_eq_true rfl) ⟨Nat.le_of_ble_eq_true rfl, Nat.le_of_ble_eq_true rfl⟩ dX3_go_156 (fun σ14 H locs hok hz hP hD hS => ?_)
          exact yEndv S hr hlocks hP hD hS (Nat.le_of_ble_eq_true rfl) (Nat.le_of_ble_eq_true rfl) dX3_go_159 hok
  · have hok := hok.2 c_18
    refine lv_aload_n hx hb dX3_go_21 rfl (lv_at hl 1 rfl) ?_
    refine lv_bipush (v := 7) hx hb dX3_go_22 (by decide) ?_
    refine lv_iload_n hx hb dX3_go_24 rfl (lv_at hl 0 rfl) ?_
    refine yVv (As := [.int 7, .int x1]) (cw := (cW o u cI cZ cJ 79)) (ci := 3) S (v_X3_trap_t80 l D cI cZ cJ o u ra ga σ 7 x1 _ H.size hok) mi_X3_trap kw_3_35 rfl rfl ⟨Nat.le_of_ble_eq_true rfl, Nat.le_of_ble_eq_true rfl⟩ hP hD hK hS hA hB cW_65 rfl rfl hl.1 (Nat.le_of_ble_eq_true rfl) ⟨Nat.le_of_ble_eq_true rfl, Nat.le_of_ble_eq_true rfl⟩ dX3_go_25 (fun σ15 H locs hok hz hP hD hS => ?_)
    exact yEndv S hr hlocks hP hD hS (Nat.le_of_ble_eq_true rfl) (Nat.le_of_ble_eq_true rfl) dX3_go_28 hok

set_option maxHeartbeats 8000000 in
set_option maxRecDepth 100000 in
theorem v_X3_goByProc_t80 (l : Launch) (D : va_G) (cI cZ cJ : ClassId) (o : Nat) (u : Nat → Nat) (ra : Nat → Nat) (ga : SG) (σ : FS) (a1 : Int32) (a2 : Int32) (Φ : FS → Prop) (sz : Nat) (hok : (wp_X3_goByProc 80 σ a1 a2 Φ)) : Met l yX3_goByProc (uW yX3_goByProc cX3_goByProc 5 none) ({ frames := 4, cells := 0, slots := 0, locals := 97 }) (va_Pc [.ref (u 64), .int a1, .int a2] (aS ra ga D (tyL cI cZ cJ) (cW o u cI cZ cJ 79 σ) sz)) (yQv Φ D (cW o u cI cZ cJ 79) (va_A (cW o u cI cZ cJ 79 σ) sz)) 0 0 (va_A (cW o u cI cZ cJ 79 σ) sz) := by
  refine aStart (lv := [(0, .ref (u 64)), (1, .int a1), (2, .int a2)]) (Qc := fun A => yQv Φ D (cW o u cI cZ cJ 79) A) (by decide) (Nat.le_of_ble_eq_true rfl) rfl ?_
  intro p e s m args below meth c ls A H S hr hlocks hnm hl hK hP hD hS hA hB
  have hx := S.1
  have hb := S.2.1
  refine lv_aload_n hx hb dX3_goByProc_0 rfl (lv_at hl 0 rfl) ?_
  refine xg (ci := 3) S inX3 rfl hK hP cW_65 3 (by decide) rfl kw_5_132 rfl dX3_goByProc_1 ?_
  refine xg (ci := 0) S inX0 rfl hK hP cW_52 10 (by decide) rfl kw_4_237 rfl dX3_goByProc_4 ?_
  refine lv_iload_n hx hb dX3_goByProc_7 rfl (lv_at hl 2 rfl) ?_
  have h_8 := hok.1
  have hok := hok.2
  refine xiald (t0 := 0) (v := (g σ 58 a2)) S hK hP cW_58 rfl h_8 rfl dX3_goByProc_8 ?_
  refine lv_topi (fun x1 ex1 => ?_)
  have hok := hok x1 ex1
  refine lv_istore_n (lv' := [(3, .int x1), (0, .ref (u 64)), (1, .int a1), (2, .int a2)]) hx hb dX3_goByProc_9 rfl hl (by decide) rfl (fun ls hl => ?_)
  refine lv_aload_n hx hb dX3_goByProc_10 rfl (lv_at hl 1 rfl) ?_
  refine xg (ci := 3) S inX3 rfl hK hP cW_65 4 (by decide) rfl kw_5_133 rfl dX3_goByProc_11 ?_
  refine lv_iload_n hx hb dX3_goByProc_14 rfl (lv_at hl 2 rfl) ?_
  refine lv_iconst (v := 0) hx hb dX3_goByProc_15 (by decide) ?_
  refine yVi (As := [.int a1, .int 0]) (cw := (cW o u cI cZ cJ 79)) (ci := 7) S (v_X7_at_66 l D cI cZ cJ o u 79 ra ga σ a1 0 _ H.size hok) mi_X7_at kw_3_18 rfl rfl ⟨Nat.le_of_ble_eq_true rfl, Nat.le_of_ble_eq_true rfl⟩ hP hD hK hS hA hB cW_66 rfl rfl hl.1 (Nat.le_of_ble_eq_true rfl) ⟨Nat.le_of_ble_eq_true rfl, Nat.le_of_ble_eq_true rfl⟩ dX3_goByProc_16 (fun x3 σ2 H locs hok hz hP hD hS => ?_)
  refine lv_istore (lv' := [(4, .int x3), (3, .int x1), (0, .ref (u 64)), (1, .int a1), (2, .int a2)]) hx hb dX3_goByProc_19 hl (by decide) rfl (fun ls hl => ?_)
  refine lv_iload hx hb dX3_goByProc_21 (lv_at hl 0 rfl) ?_
  refine lv_iconst (v := (-1)) hx hb dX3_goByProc_23 (by decide) ?_
  refine lv_icmp_eq (tgt := 39) hx hb dX3_goByProc_24 (by decide) (fun c_24 => ?_) (fun c_24 => ?_)
  · have hok := hok.1 c_24
    refine lv_aload_n hx hb dX3_goByProc_39 rfl (lv_at hl 2 rfl) ?_
    refine lv_iconst (v := 3) hx hb dX3_goByProc_40 (by decide) ?_
    refine lv_iload_n hx hb dX3_goByProc_41 rfl (lv_at hl 1 rfl) ?_
    refine yVv (As := [.int 3, .int x1]) (cw := (cW o u cI cZ cJ 79)) (ci := 3) S (v_X3_trap_t80 l D cI cZ cJ o u ra ga σ2 3 x1 _ H.size hok) mi_X3_trap kw_3_35 rfl rfl ⟨Nat.le_of_ble_eq_true rfl, Nat.le_of_ble_eq_true rfl⟩ hP hD hK hS hA hB cW_65 rfl rfl hl.1 (Nat.le_of_ble_eq_true rfl) ⟨Nat.le_of_ble_eq_true rfl, Nat.le_of_ble_eq_true rfl⟩ dX3_goByProc_42 (fun σ4 H locs hok hz hP hD hS => ?_)
    refine lv_goto (tgt := 126) hx hb dX3_goByProc_45 (by decide) ?_
    exact yEndv S hr hlocks hP hD hS (Nat.le_of_ble_eq_true rfl) (Nat.le_of_ble_eq_true rfl) dX3_goByProc_126 hok
  · have hok := hok.2 c_24
    refine lv_aload_n hx hb dX3_goByProc_27 rfl (lv_at hl 2 rfl) ?_
    refine xg (ci := 3) S inX3 rfl hK hP cW_65 0 (by decide) rfl kw_5_129 rfl dX3_goByProc_28 ?_
    refine lv_iload hx hb dX3_goByProc_31 (lv_at hl 0 rfl) ?_
    refine yVi (As := [.int x3]) (cw := (cW o u cI cZ cJ 79)) (ci := 1) S (v_X1_has l D cI cZ cJ o u 79 ra ga σ2 x3 _ H.size hok) mi_X1_has kw_3_79 rfl rfl ⟨Nat.le_of_ble_eq_true rfl, Nat.le_of_ble_eq_true rfl⟩ hP hD hK hS hA hB cW_1 rfl rfl hl.1 (Nat.le_of_ble_eq_true rfl) ⟨Nat.le_of_ble_eq_true rfl, Nat.le_of_ble_eq_true rfl⟩ dX3_goByProc_33 (fun x6 σ5 H locs hok hz hP hD hS => ?_)
    refine lv_if_ne (tgt := 48) hx hb dX3_goByProc_36 (by decide) (fun c_36 => ?_) (fun c_36 => ?_)
    · have hok := hok.2 c_36
      refine lv_aload_n hx hb dX3_goByProc_48 rfl (lv_at hl 2 rfl) ?_
      refine xg (ci := 3) S inX3 rfl hK hP cW_65 1 (by decide) rfl kw_5_130 rfl dX3_goByProc_49 ?_
      refine lv_iload_n hx hb dX3_goByProc_52 rfl (lv_at hl 1 rfl) ?_
      refine yVi (As := [.int x1]) (cw := (cW o u cI cZ cJ 79)) (ci := 5) S (v_X5_argumentsOf l D cI cZ cJ o u 79 ra ga σ5 x1 _ H.size hok) mi_X5_argumentsOf kw_3_80 rfl rfl ⟨Nat.le_of_ble_eq_true rfl, Nat.le_of_ble_eq_true rfl⟩ hP hD hK hS hA hB cW_13 rfl rfl hl.1 (Nat.le_of_ble_eq_true rfl) ⟨Nat.le_of_ble_eq_true rfl, Nat.le_of_ble_eq_true rfl⟩ dX3_goByProc_53 (fun x8 σ7 H locs hok hz hP hD hS => ?_)
      refine lv_aload_n hx hb dX3_goByProc_56 rfl (lv_at hl 2 rfl) ?_
      refine xg (ci := 3) S inX3 rfl hK hP cW_65 0 (by decide) rfl kw_5_129 rfl dX3_goByProc_57 ?_
      refine xg (ci := 1) S inX1 rfl hK hP cW_1 3 (by decide) rfl kw_3_226 rfl dX3_goByProc_60 ?_
      refine lv_iload hx hb dX3_goByProc_63 (lv_at hl 0 rfl) ?_
      have h_65 := hok.1
      have hok := hok.2
      refine xiald (t0 := 0) (v := (g σ7 4 x3)) S hK hP cW_4 rfl h_65 rfl dX3_goByProc_65 ?_
      refine lv_icmp_eq (tgt := 78) hx hb dX3_goByProc_66 (by decide) (fun c_66 => ?_) (fun c_66 => ?_)
      · have hok := hok.1 c_66
        refine lv_aload_n hx hb dX3_goByProc_78 rfl (lv_at hl 2 rfl) ?_
        refine xg (ci := 3) S inX3 rfl hK hP cW_65 15 (by decide) rfl kw_5_144 rfl dX3_goByProc_79 ?_
        refine lv_aload_n hx hb dX3_goByProc_82 rfl (lv_at hl 2 rfl) ?_
        refine xg (ci := 3) S inX3 rfl hK hP cW_65 11 (by decide) rfl kw_5_140 rfl dX3_goByProc_83 ?_
        refine lv_icmp_lt (tgt := 99) hx hb dX3_goByProc_86 (by decide) (fun c_86 => ?_) (fun c_86 => ?_)
        · have hok := hok.1 c_86
          refine lv_aload_n hx hb dX3_goByProc_99 rfl (lv_at hl 2 rfl) ?_
          refine lv_aload_n hx hb dX3_goByProc_100 rfl (lv_at hl 2 rfl) ?_
          refine xg (ci := 3) S inX3 rfl hK hP cW_65 12 (by decide) rfl kw_5_141 rfl dX3_goByProc_101 ?_
          refine lv_aload_n hx hb dX3_goByProc_104 rfl (lv_at hl 2 rfl) ?_
          refine xg (ci := 3) S inX3 rfl hK hP cW_65 14 (by decide) rfl kw_5_143 rfl dX3_goByProc_105 ?_
          refine yVv (As := [.int (σ7.1 65 12), .int (σ7.1 65 14)]) (cw := (cW o u cI cZ cJ 79)) (ci := 3) S (v_X3_keepReturn l D cI cZ cJ o u 79 ra ga σ7 (σ7.1 65 12) (σ7.1 65 14) _ H.size hok) mi_X3_keepReturn kw_2_220 rfl rfl ⟨Nat.le_of_ble_eq_true rfl, Nat.le_of_ble_eq_true rfl⟩ hP hD hK hS hA hB cW_65 rfl rfl hl.1 (Nat.le_of_ble_eq_true rfl) ⟨Nat.le_of_ble_eq_true rfl, Nat.le_of_ble_eq_true rfl⟩ dX3_goByProc_108 (fun σ9 H locs hok hz hP hD hS => ?_)
          refine lv_aload_n hx hb dX3_goByProc_111 rfl (lv_at hl 2 rfl) ?_
          refine lv_iload hx hb dX3_goByProc_112 (lv_at hl 0 rfl) ?_
          refine lv_aload_n hx hb dX3_goByProc_114 rfl (lv_at hl 2 rfl) ?_
          refine xg (ci := 3) S inX3 rfl hK hP cW_65 4 (by decide) rfl kw_5_133 rfl dX3_goByProc_115 ?_
          refine lv_iload_n hx hb dX3_goByProc_118 rfl (lv_at hl 3 rfl) ?_
          refine lv_iconst (v := 1) hx hb dX3_goByProc_119 (by decide) ?_
          refine yVi (As := [.int a1, .int 1]) (cw := (cW o u cI cZ cJ 79)) (ci := 7) S (v_X7_at_66 l D cI cZ cJ o u 79 ra ga σ9 a1 1 _ H.size hok) mi_X7_at kw_3_18 rfl rfl ⟨Nat.le_of_ble_eq_true rfl, Nat.le_of_ble_eq_true rfl⟩ hP hD hK hS hA hB cW_66 rfl rfl hl.1 (Nat.le_of_ble_eq_true rfl) ⟨Nat.le_of_ble_eq_true rfl, Nat.le_of_ble_eq_true rfl⟩ dX3_goByProc_120 (fun x11 σ10 H locs hok hz hP hD hS => ?_)
          refine yVv (As := [.int x3, .int x11]) (cw := (cW o u cI cZ cJ 79)) (ci := 3) S (v_X3_call_t80 l D cI cZ cJ o u ra ga σ10 x3 x11 _ H.size hok) mi_X3_call kw_3_14 rfl rfl ⟨Nat.le_of_ble_eq_true rfl, Nat.le_of_ble_eq_true rfl⟩ hP hD hK hS hA hB cW_65 rfl rfl hl.1 (Nat.le_of_ble_eq_true rfl) ⟨Nat.le_of_ble_eq_true rfl, Nat.le_of_ble_eq_true rfl⟩ dX3_goByProc_123 (fun σ12 H locs hok hz hP hD hS => ?_)
          exact yEndv S hr hlocks hP hD hS (Nat.le_of_ble_eq_true rfl) (Nat.le_of_ble_eq_true rfl) dX3_goByProc_126 hok
        · have hok := hok.2 c_86
          refine lv_aload_n hx hb dX3_goByProc_89 rfl (lv_at hl 2 rfl) ?_
          refine lv_bipush (v := 7) hx hb dX3_goByProc_90 (by decide) ?_
          refine lv_iload_n hx hb dX3_goByProc_92 rfl (lv_at hl 1 rfl) ?_
          refine yVv (As := [.int 7, .int x1]) (cw := (cW o u cI cZ cJ 79)) (ci := 3) S (v_X3_trap_t80 l D cI cZ cJ o u ra ga σ7 7 x1 _ H.size hok) mi_X3_trap kw_3_35 rfl rfl ⟨Nat.le_of_ble_eq_true rfl, Nat.le_of_ble_eq_true rfl⟩ hP hD hK hS hA hB cW_65 rfl rfl hl.1 (Nat.le_of_ble_eq_true rfl) ⟨Nat.le_of_ble_eq_true rfl, Nat.le_of_ble_eq_true rfl⟩ dX3_goByProc_93 (fun σ13 H locs hok hz hP hD hS => ?_)
          refine lv_goto (tgt := 126) hx hb dX3_goByProc_96 (by decide) ?_
          exact yEndv S hr hlocks hP hD hS (Nat.le_of_ble_eq_true rfl) (Nat.le_of_ble_eq_true rfl) dX3_goByProc_126 hok
      · have hok := hok.2 c_66
        refine lv_aload_n hx hb dX3_goByProc_69 rfl (lv_at hl 2 rfl) ?_
        refine lv_iconst (v := 4) hx hb dX3_goByProc_70 (by decide) ?_
        refine lv_iload_n hx hb dX3_goByProc_71 rfl (lv_at hl 1 rfl) ?_
        refine yVv (As := [.int 4, .int x1]) (cw := (cW o u cI cZ cJ 79)) (ci := 3) S (v_X3_trap_t80 l D cI cZ cJ o u ra ga σ7 4 x1 _ H.size hok) mi_X3_trap kw_3_35 rfl rfl ⟨Nat.le_of_ble_eq_true rfl, Nat.le_of_ble_eq_true rfl⟩ hP hD hK hS hA hB cW_65 rfl rfl hl.1 (Nat.le_of_ble_eq_true rfl) ⟨Nat.le_of_ble_eq_true rfl, Nat.le_of_ble_eq_true rfl⟩ dX3_goByProc_72 (fun σ14 H locs hok hz hP hD hS => ?_)
        refine lv_goto (tgt := 126) hx hb dX3_goByProc_75 (by decide) ?_
        exact yEndv S hr hlocks hP hD hS (Nat.le_of_ble_eq_true rfl) (Nat.le_of_ble_eq_true rfl) dX3_goByProc_126 hok
    · have hok := hok.1 c_36
      refine lv_aload_n hx hb dX3_goByProc_39 rfl (lv_at hl 2 rfl) ?_
      refine lv_iconst (v := 3) hx hb dX3_goByProc_40 (by decide) ?_
      refine lv_iload_n hx hb dX3_goByProc_41 rfl (lv_at hl 1 rfl) ?_
      refine yVv (As := [.int 3, .int x1]) (cw := (cW o u cI cZ cJ 79)) (ci := 3) S (v_X3_trap_t80 l D cI cZ cJ o u ra ga σ5 3 x1 _ H.size hok) mi_X3_trap kw_3_35 rfl rfl ⟨Nat.le_of_ble_eq_true rfl, Nat.le_of_ble_eq_true rfl⟩ hP hD hK hS hA hB cW_65 rfl rfl hl.1 (Nat.le_of_ble_eq_true rfl) ⟨Nat.le_of_ble_eq_true rfl, Nat.le_of_ble_eq_true rfl⟩ dX3_goByProc_42 (fun σ15 H locs hok hz hP hD hS => ?_)
      refine lv_goto (tgt := 126) hx hb dX3_goByProc_45 (by decide) ?_
      exact yEndv S hr hlocks hP hD hS (Nat.le_of_ble_eq_true rfl) (Nat.le_of_ble_eq_true rfl) dX3_goByProc_126 hok

set_option maxHeartbeats 8000000 in
set_option maxRecDepth 100000 in
theorem v_X3_goBack_t80 (l : Launch) (D : va_G) (cI cZ cJ : ClassId) (o : Nat) (u : Nat → Nat) (ra : Nat → Nat) (ga : SG) (σ : FS) (Φ : FS → Prop) (sz : Nat) (hok : (wp_X3_goBack 80 σ Φ)) : Met l yX3_goBack (uW yX3_goBack cX3_goBack 2 none) ({ frames := 3, cells := 0, slots := 0, locals := 65 }) (va_Pc [.ref (u 64)] (aS ra ga D (tyL cI cZ cJ) (cW o u cI cZ cJ 79 σ) sz)) (yQv Φ D (cW o u cI cZ cJ 79) (va_A (cW o u cI cZ cJ 79 σ) sz)) 0 0 (va_A (cW o u cI cZ cJ 79 σ) sz) := by
  refine aStart (lv := [(0, .ref (u 64))]) (Qc := fun A => yQv Φ D (cW o u cI cZ cJ 79) A) (by decide) (Nat.le_of_ble_eq_true rfl) rfl ?_
  intro p e s m args below meth c ls A H S hr hlocks hnm hl hK hP hD hS hA hB
  have hx := S.1
  have hb := S.2.1
  refine lv_aload_n hx hb dX3_goBack_0 rfl (lv_at hl 0 rfl) ?_
  refine xg (ci := 3) S inX3 rfl hK hP cW_65 7 (by decide) rfl kw_5_136 rfl dX3_goBack_1 ?_
  refine xg (ci := 7) S inX7 rfl hK hP cW_72 2 (by decide) rfl kw_5_57 rfl dX3_goBack_4 ?_
  refine lv_iconst (v := 1) hx hb dX3_goBack_7 (by decide) ?_
  refine xisub (v := (σ.1 72 2) - 1) S dX3_goBack_8 rfl ?_
  refine lv_topi (fun x1 ex1 => ?_)
  have hok := hok x1 ex1
  refine lv_istore_n (lv' := [(1, .int x1), (0, .ref (u 64))]) hx hb dX3_goBack_9 rfl hl (by decide) rfl (fun ls hl => ?_)
  refine lv_aload_n hx hb dX3_goBack_10 rfl (lv_at hl 1 rfl) ?_
  refine lv_aload_n hx hb dX3_goBack_11 rfl (lv_at hl 1 rfl) ?_
  refine xg (ci := 3) S inX3 rfl hK hP cW_65 7 (by decide) rfl kw_5_136 rfl dX3_goBack_12 ?_
  refine lv_iload_n hx hb dX3_goBack_15 rfl (lv_at hl 0 rfl) ?_
  refine lv_iconst (v := 0) hx hb dX3_goBack_16 (by decide) ?_
  refine yVi (As := [.int x1, .int 0]) (cw := (cW o u cI cZ cJ 79)) (ci := 7) S (v_X7_at_72 l D cI cZ cJ o u 79 ra ga σ x1 0 _ H.size hok) mi_X7_at kw_3_18 rfl rfl ⟨Nat.le_of_ble_eq_true rfl, Nat.le_of_ble_eq_true rfl⟩ hP hD hK hS hA hB cW_72 rfl rfl hl.1 (Nat.le_of_ble_eq_true rfl) ⟨Nat.le_of_ble_eq_true rfl, Nat.le_of_ble_eq_true rfl⟩ dX3_goBack_17 (fun x3 σ2 H locs hok hz hP hD hS => ?_)
  refine yp (ci := 3) (v := .int x3) (cw := (cW o u cI cZ cJ 79)) S inX3 tyX3 tyX3_ok nmX3 rfl hK hP hD hS cW_65 12 (by decide) kw_5_141 rfl rfl rfl rfl (Nat.le_of_ble_eq_true rfl) dX3_goBack_20 cWp_65_12 (fun σ4 H locs eσ4 hP hD hS => ?_)
  have hok := hok σ4 eσ4
  refine lv_aload_n hx hb dX3_goBack_23 rfl (lv_at hl 1 rfl) ?_
  refine lv_aload_n hx hb dX3_goBack_24 rfl (lv_at hl 1 rfl) ?_
  refine xg (ci := 3) S inX3 rfl hK hP cW_65 7 (by decide) rfl kw_5_136 rfl dX3_goBack_25 ?_
  refine lv_iload_n hx hb dX3_goBack_28 rfl (lv_at hl 0 rfl) ?_
  refine lv_iconst (v := 1) hx hb dX3_goBack_29 (by decide) ?_
  refine yVi (As := [.int x1, .int 1]) (cw := (cW o u cI cZ cJ 79)) (ci := 7) S (v_X7_at_72 l D cI cZ cJ o u 79 ra ga σ4 x1 1 _ H.size hok) mi_X7_at kw_3_18 rfl rfl ⟨Nat.le_of_ble_eq_true rfl, Nat.le_of_ble_eq_true rfl⟩ hP hD hK hS hA hB cW_72 rfl rfl hl.1 (Nat.le_of_ble_eq_true rfl) ⟨Nat.le_of_ble_eq_true rfl, Nat.le_of_ble_eq_true rfl⟩ dX3_goBack_30 (fun x6 σ5 H locs hok hz hP hD hS => ?_)
  refine yp (ci := 3) (v := .int x6) (cw := (cW o u cI cZ cJ 79)) S inX3 tyX3 tyX3_ok nmX3 rfl hK hP hD hS cW_65 13 (by decide) kw_5_142 rfl rfl rfl rfl (Nat.le_of_ble_eq_true rfl) dX3_goBack_33 cWp_65_13 (fun σ7 H locs eσ7 hP hD hS => ?_)
  have hok := hok σ7 eσ7
  refine lv_aload_n hx hb dX3_goBack_36 rfl (lv_at hl 1 rfl) ?_
  refine lv_aload_n hx hb dX3_goBack_37 rfl (lv_at hl 1 rfl) ?_
  refine xg (ci := 3) S inX3 rfl hK hP cW_65 7 (by decide) rfl kw_5_136 rfl dX3_goBack_38 ?_
  refine lv_iload_n hx hb dX3_goBack_41 rfl (lv_at hl 0 rfl) ?_
  refine lv_iconst (v := 2) hx hb dX3_goBack_42 (by decide) ?_
  refine yVi (As := [.int x1, .int 2]) (cw := (cW o u cI cZ cJ 79)) (ci := 7) S (v_X7_at_72 l D cI cZ cJ o u 79 ra ga σ7 x1 2 _ H.size hok) mi_X7_at kw_3_18 rfl rfl ⟨Nat.le_of_ble_eq_true rfl, Nat.le_of_ble_eq_true rfl⟩ hP hD hK hS hA hB cW_72 rfl rfl hl.1 (Nat.le_of_ble_eq_true rfl) ⟨Nat.le_of_ble_eq_true rfl, Nat.le_of_ble_eq_true rfl⟩ dX3_goBack_43 (fun x9 σ8 H locs hok hz hP hD hS => ?_)
  refine yp (ci := 3) (v := .int x9) (cw := (cW o u cI cZ cJ 79)) S inX3 tyX3 tyX3_ok nmX3 rfl hK hP hD hS cW_65 14 (by decide) kw_5_143 rfl rfl rfl rfl (Nat.le_of_ble_eq_true rfl) dX3_goBack_46 cWp_65_14 (fun σ10 H locs eσ10 hP hD hS => ?_)
  have hok := hok σ10 eσ10
  refine lv_aload_n hx hb dX3_goBack_49 rfl (lv_at hl 1 rfl) ?_
  refine lv_aload_n hx hb dX3_goBack_50 rfl (lv_at hl 1 rfl) ?_
  refine xg (ci := 3) S inX3 rfl hK hP cW_65 7 (by decide) rfl kw_5_136 rfl dX3_goBack_51 ?_
  refine lv_iload_n hx hb dX3_goBack_54 rfl (lv_at hl 0 rfl) ?_
  refine lv_iconst (v := 3) hx hb dX3_goBack_55 (by decide) ?_
  refine yVi (As := [.int x1, .int 3]) (cw := (cW o u cI cZ cJ 79)) (ci := 7) S (v_X7_at_72 l D cI cZ cJ o u 79 ra ga σ10 x1 3 _ H.size hok) mi_X7_at kw_3_18 rfl rfl ⟨Nat.le_of_ble_eq_true rfl, Nat.le_of_ble_eq_true rfl⟩ hP hD hK hS hA hB cW_72 rfl rfl hl.1 (Nat.le_of_ble_eq_true rfl) ⟨Nat.le_of_ble_eq_true rfl, Nat.le_of_ble_eq_true rfl⟩ dX3_goBack_56 (fun x12 σ11 H locs hok hz hP hD hS => ?_)
  refine yp (ci := 3) (v := .int x12) (cw := (cW o u cI cZ cJ 79)) S inX3 tyX3 tyX3_ok nmX3 rfl hK hP hD hS cW_65 15 (by decide) kw_5_144 rfl rfl rfl rfl (Nat.le_of_ble_eq_true rfl) dX3_goBack_59 cWp_65_15 (fun σ13 H locs eσ13 hP hD hS => ?_)
  have hok := hok σ13 eσ13
  refine lv_aload_n hx hb dX3_goBack_62 rfl (lv_at hl 1 rfl) ?_
  refine xg (ci := 3) S inX3 rfl hK hP cW_65 8 (by decide) rfl kw_5_137 rfl dX3_goBack_63 ?_
  refine lv_aload_n hx hb dX3_goBack_66 rfl (lv_at hl 1 rfl) ?_
  refine xg (ci := 3) S inX3 rfl hK hP cW_65 7 (by decide) rfl kw_5_136 rfl dX3_goBack_67 ?_
  refine lv_iload_n hx hb dX3_goBack_70 rfl (lv_at hl 0 rfl) ?_
  refine lv_iconst (v := 4) hx hb dX3_goBack_71 (by decide) ?_
  refine yVi (As := [.int x1, .int 4]) (cw := (cW o u cI cZ cJ 79)) (ci := 7) S (v_X7_at_72 l D cI cZ cJ o u 79 ra ga σ13 x1 4 _ H.size hok) mi_X7_at kw_3_18 rfl rfl ⟨Nat.le_of_ble_eq_true rfl, Nat.le_of_ble_eq_true rfl⟩ hP hD hK hS hA hB cW_72 rfl rfl hl.1 (Nat.le_of_ble_eq_true rfl) ⟨Nat.le_of_ble_eq_true rfl, Nat.le_of_ble_eq_true rfl⟩ dX3_goBack_72 (fun x15 σ14 H locs hok hz hP hD hS => ?_)
  refine yVv (As := [.int x15]) (cw := (cW o u cI cZ cJ 79)) (ci := 7) S (v_X7_cut_74 l D cI cZ cJ o u 79 ra ga σ14 x15 _ H.size hok) mi_X7_cut kw_2_212 rfl rfl ⟨Nat.le_of_ble_eq_true rfl, Nat.le_of_ble_eq_true rfl⟩ hP hD hK hS hA hB cW_74 rfl rfl hl.1 (Nat.le_of_ble_eq_true rfl) ⟨Nat.le_of_ble_eq_true rfl, Nat.le_of_ble_eq_true rfl⟩ dX3_goBack_75 (fun σ16 H locs hok hz hP hD hS => ?_)
  refine lv_aload_n hx hb dX3_goBack_78 rfl (lv_at hl 1 rfl) ?_
  refine xg (ci := 3) S inX3 rfl hK hP cW_65 7 (by decide) rfl kw_5_136 rfl dX3_goBack_79 ?_
  refine lv_iload_n hx hb dX3_goBack_82 rfl (lv_at hl 0 rfl) ?_
  refine yVv (As := [.int x1]) (cw := (cW o u cI cZ cJ 79)) (ci := 7) S (v_X7_cut_72 l D cI cZ cJ o u 79 ra ga σ16 x1 _ H.size hok) mi_X7_cut kw_2_212 rfl rfl ⟨Nat.le_of_ble_eq_true rfl, Nat.le_of_ble_eq_true rfl⟩ hP hD hK hS hA hB cW_72 rfl rfl hl.1 (Nat.le_of_ble_eq_true rfl) ⟨Nat.le_of_ble_eq_true rfl, Nat.le_of_ble_eq_true rfl⟩ dX3_goBack_83 (fun σ17 H locs hok hz hP hD hS => ?_)
  refine lv_iload_n hx hb dX3_goBack_86 rfl (lv_at hl 0 rfl) ?_
  refine lv_if_ne (tgt := 106) hx hb dX3_goBack_87 (by decide) (fun c_87 => ?_) (fun c_87 => ?_)
  · have hok := hok.2 c_87
    exact yEndv S hr hlocks hP hD hS (Nat.le_of_ble_eq_true rfl) (Nat.le_of_ble_eq_true rfl) dX3_goBack_106 hok
  · have hok := hok.1 c_87
    refine lv_aload_n hx hb dX3_goBack_90 rfl (lv_at hl 1 rfl) ?_
    refine xg (ci := 3) S inX3 rfl hK hP cW_65 9 (by decide) rfl kw_5_138 rfl dX3_goBack_91 ?_
    refine lv_aload_n hx hb dX3_goBack_94 rfl (lv_at hl 1 rfl) ?_
    refine yVi (As := []) (cw := (cW o u cI cZ cJ 79)) (ci := 3) S (v_X3_pop l D cI cZ cJ o u 79 ra ga σ17 _ H.size hok) mi_X3_pop kw_3_67 rfl rfl ⟨Nat.le_of_ble_eq_true rfl, Nat.le_of_ble_eq_true rfl⟩ hP hD hK hS hA hB cW_65 rfl rfl hl.1 (Nat.le_of_ble_eq_true rfl) ⟨Nat.le_of_ble_eq_true rfl, Nat.le_of_ble_eq_true rfl⟩ dX3_goBack_95 (fun x19 σ18 H locs hok hz hP hD hS => ?_)
    refine yp (ci := 6) (v := .int x19) (cw := (cW o u cI cZ cJ 79)) S inX6 tyX6 tyX6_ok nmX6 rfl hK hP hD hS cW_80 9 (by decide) kw_5_92 rfl rfl rfl rfl (Nat.le_of_ble_eq_true rfl) dX3_goBack_98 cWp_80_9 (fun σ20 H locs eσ20 hP hD hS => ?_)
    have hok := hok σ20 eσ20
    refine lv_aload_n hx hb dX3_goBack_101 rfl (lv_at hl 1 rfl) ?_
    refine lv_iconst (v := 1) hx hb dX3_goBack_102 (by decide) ?_
    refine yp (ci := 3) (v := .int 1) (cw := (cW o u cI cZ cJ 79)) S inX3 tyX3 tyX3_ok nmX3 rfl hK hP hD hS cW_65 16 (by decide) kw_5_145 rfl rfl rfl rfl (Nat.le_of_ble_eq_true rfl) dX3_goBack_103 cWp_65_16 (fun σ21 H locs eσ21 hP hD hS => ?_)
    have hok := hok σ21 eσ21
    exact yEndv S hr hlocks hP hD hS (Nat.le_of_ble_eq_true rfl) (Nat.le_of_ble_eq_true rfl) dX3_goBack_106 hok

set_option maxHeartbeats 8000000 in
set_option maxRecDepth 100000 in
theorem v_X3_stow_t80 (l : Launch) (D : va_G) (cI cZ cJ : ClassId) (o : Nat) (u : Nat → Nat) (ra : Nat → Nat) (ga : SG) (σ : FS) (a1 : Int32) (a2 : Int32) (Φ : FS → Prop) (sz : Nat) (hok : (wp_X3_stow 80 σ a1 a2 Φ)) : Met l yX3_stow (uW yX3_stow cX3_stow 5 none) ({ frames := 3, cells := 0, slots := 0, locals := 65 }) (va_Pc [.ref (u 64), .int a1, .int a2] (aS ra ga D (tyL cI cZ cJ) (cW o u cI cZ cJ 79 σ) sz)) (yQv Φ D (cW o u cI cZ cJ 79) (va_A (cW o u cI cZ cJ 79 σ) sz)) 0 0 (va_A (cW o u cI cZ cJ 79 σ) sz) := by
  refine aStart (lv := [(0, .ref (u 64)), (1, .int a1), (2, .int a2)]) (Qc := fun A => yQv Φ D (cW o u cI cZ cJ 79) A) (by decide) (Nat.le_of_ble_eq_true rfl) rfl ?_
  intro p e s m args below meth c ls A H S hr hlocks hnm hl hK hP hD hS hA hB
  have hx := S.1
  have hb := S.2.1
  refine lv_aload_n hx hb dX3_stow_0 rfl (lv_at hl 0 rfl) ?_
  refine yVi (As := []) (cw := (cW o u cI cZ cJ 79)) (ci := 3) S (v_X3_pop l D cI cZ cJ o u 79 ra ga σ _ H.size hok) mi_X3_pop kw_3_67 rfl rfl ⟨Nat.le_of_ble_eq_true rfl, Nat.le_of_ble_eq_true rfl⟩ hP hD hK hS hA hB cW_65 rfl rfl hl.1 (Nat.le_of_ble_eq_true rfl) ⟨Nat.le_of_ble_eq_true rfl, Nat.le_of_ble_eq_true rfl⟩ dX3_stow_1 (fun x2 σ1 H locs hok hz hP hD hS => ?_)
  refine lv_istore_n (lv' := [(3, .int x2), (0, .ref (u 64)), (1, .int a1), (2, .int a2)]) hx hb dX3_stow_4 rfl hl (by decide) rfl (fun ls hl => ?_)
  refine lv_aload_n hx hb dX3_stow_5 rfl (lv_at hl 1 rfl) ?_
  refine yVi (As := []) (cw := (cW o u cI cZ cJ 79)) (ci := 3) S (v_X3_pop l D cI cZ cJ o u 79 ra ga σ1 _ H.size hok) mi_X3_pop kw_3_67 rfl rfl ⟨Nat.le_of_ble_eq_true rfl, Nat.le_of_ble_eq_true rfl⟩ hP hD hK hS hA hB cW_65 rfl rfl hl.1 (Nat.le_of_ble_eq_true rfl) ⟨Nat.le_of_ble_eq_true rfl, Nat.le_of_ble_eq_true rfl⟩ dX3_stow_6 (fun x4 σ3 H locs hok hz hP hD hS => ?_)
  refine lv_istore (lv' := [(4, .int x4), (3, .int x2), (0, .ref (u 64)), (1, .int a1), (2, .int a2)]) hx hb dX3_stow_9 hl (by decide) rfl (fun ls hl => ?_)
  refine lv_iload hx hb dX3_stow_11 (lv_at hl 0 rfl) ?_
  refine lv_if_lt (tgt := 30) hx hb dX3_stow_13 (by decide) (fun c_13 => ?_) (fun c_13 => ?_)
  · have hok := hok.1 c_13
    refine lv_aload_n hx hb dX3_stow_30 rfl (lv_at hl 2 rfl) ?_
    refine lv_iconst (v := 2) hx hb dX3_stow_31 (by decide) ?_
    refine lv_aload_n hx hb dX3_stow_32 rfl (lv_at hl 2 rfl) ?_
    refine xg (ci := 3) S inX3 rfl hK hP cW_65 3 (by decide) rfl kw_5_132 rfl dX3_stow_33 ?_
    refine xg (ci := 0) S inX0 rfl hK hP cW_52 10 (by decide) rfl kw_4_237 rfl dX3_stow_36 ?_
    refine lv_iload_n hx hb dX3_stow_39 rfl (lv_at hl 4 rfl) ?_
    have h_40 := hok.1
    have hok := hok.2
    refine xiald (t0 := 0) (v := (g σ3 58 a2)) S hK hP cW_58 rfl h_40 rfl dX3_stow_40 ?_
    refine yVv (As := [.int 2, .int (g σ3 58 a2)]) (cw := (cW o u cI cZ cJ 79)) (ci := 3) S (v_X3_trap_t80 l D cI cZ cJ o u ra ga σ3 2 (g σ3 58 a2) _ H.size hok) mi_X3_trap kw_3_35 rfl rfl ⟨Nat.le_of_ble_eq_true rfl, Nat.le_of_ble_eq_true rfl⟩ hP hD hK hS hA hB cW_65 rfl rfl hl.1 (Nat.le_of_ble_eq_true rfl) ⟨Nat.le_of_ble_eq_true rfl, Nat.le_of_ble_eq_true rfl⟩ dX3_stow_41 (fun σ5 H locs hok hz hP hD hS => ?_)
    refine lv_goto (tgt := 68) hx hb dX3_stow_44 (by decide) ?_
    exact yEndv S hr hlocks hP hD hS (Nat.le_of_ble_eq_true rfl) (Nat.le_of_ble_eq_true rfl) dX3_stow_68 hok
  · have hok := hok.2 c_13
    refine lv_iload hx hb dX3_stow_16 (lv_at hl 0 rfl) ?_
    refine lv_aload_n hx hb dX3_stow_18 rfl (lv_at hl 2 rfl) ?_
    refine xg (ci := 3) S inX3 rfl hK hP cW_65 4 (by decide) rfl kw_5_133 rfl dX3_stow_19 ?_
    refine lv_iload_n hx hb dX3_stow_22 rfl (lv_at hl 3 rfl) ?_
    refine lv_iconst (v := 1) hx hb dX3_stow_23 (by decide) ?_
    refine yVi (As := [.int a1, .int 1]) (cw := (cW o u cI cZ cJ 79)) (ci := 7) S (v_X7_at_66 l D cI cZ cJ o u 79 ra ga σ3 a1 1 _ H.size hok) mi_X7_at kw_3_18 rfl rfl ⟨Nat.le_of_ble_eq_true rfl, Nat.le_of_ble_eq_true rfl⟩ hP hD hK hS hA hB cW_66 rfl rfl hl.1 (Nat.le_of_ble_eq_true rfl) ⟨Nat.le_of_ble_eq_true rfl, Nat.le_of_ble_eq_true rfl⟩ dX3_stow_24 (fun x7 σ6 H locs hok hz hP hD hS => ?_)
    refine lv_icmp_lt (tgt := 47) hx hb dX3_stow_27 (by decide) (fun c_27 => ?_) (fun c_27 => ?_)
    · have hok := hok.1 c_27
      refine lv_aload_n hx hb dX3_stow_47 rfl (lv_at hl 2 rfl) ?_
      refine xg (ci := 3) S inX3 rfl hK hP cW_65 4 (by decide) rfl kw_5_133 rfl dX3_stow_48 ?_
      refine lv_aload_n hx hb dX3_stow_51 rfl (lv_at hl 2 rfl) ?_
      refine xg (ci := 3) S inX3 rfl hK hP cW_65 4 (by decide) rfl kw_5_133 rfl dX3_stow_52 ?_
      refine lv_iload_n hx hb dX3_stow_55 rfl (lv_at hl 3 rfl) ?_
      refine lv_iconst (v := 0) hx hb dX3_stow_56 (by decide) ?_
      refine yVi (As := [.int a1, .int 0]) (cw := (cW o u cI cZ cJ 79)) (ci := 7) S (v_X7_at_66 l D cI cZ cJ o u 79 ra ga σ6 a1 0 _ H.size hok) mi_X7_at kw_3_18 rfl rfl ⟨Nat.le_of_ble_eq_true rfl, Nat.le_of_ble_eq_true rfl⟩ hP hD hK hS hA hB cW_66 rfl rfl hl.1 (Nat.le_of_ble_eq_true rfl) ⟨Nat.le_of_ble_eq_true rfl, Nat.le_of_ble_eq_true rfl⟩ dX3_stow_57 (fun x9 σ8 H locs hok hz hP hD hS => ?_)
      refine lv_iload hx hb dX3_stow_60 (lv_at hl 0 rfl) ?_
      refine xiadd (v := x9 + x4) S dX3_stow_62 rfl ?_
      refine lv_iconst (v := 0) hx hb dX3_stow_63 (by decide) ?_
      refine lv_iload_n hx hb dX3_stow_64 rfl (lv_at hl 1 rfl) ?_
      refine yVv (As := [.int (x9 + x4), .int 0, .int x2]) (cw := (cW o u cI cZ cJ 79)) (ci := 7) S (v_X7_put_66 l D cI cZ cJ o u 79 ra ga σ8 (x9 + x4) 0 x2 _ H.size hok) mi_X7_put kw_3_5 rfl rfl ⟨Nat.le_of_ble_eq_true rfl, Nat.le_of_ble_eq_true rfl⟩ hP hD hK hS hA hB cW_66 rfl rfl hl.1 (Nat.le_of_ble_eq_true rfl) ⟨Nat.le_of_ble_eq_true rfl, Nat.le_of_ble_eq_true rfl⟩ dX3_stow_65 (fun σ10 H locs hok hz hP hD hS => ?_)
      exact yEndv S hr hlocks hP hD hS (Nat.le_of_ble_eq_true rfl) (Nat.le_of_ble_eq_true rfl) dX3_stow_68 hok
    · have hok := hok.2 c_27
      refine lv_aload_n hx hb dX3_stow_30 rfl (lv_at hl 2 rfl) ?_
      refine lv_iconst (v := 2) hx hb dX3_stow_31 (by decide) ?_
      refine lv_aload_n hx hb dX3_stow_32 rfl (lv_at hl 2 rfl) ?_
      refine xg (ci := 3) S inX3 rfl hK hP cW_65 3 (by decide) rfl kw_5_132 rfl dX3_stow_33 ?_
      refine xg (ci := 0) S inX0 rfl hK hP cW_52 10 (by decide) rfl kw_4_237 rfl dX3_stow_36 ?_
      refine lv_iload_n hx hb dX3_stow_39 rfl (lv_at hl 4 rfl) ?_
      have h_40 := hok.1
      have hok := hok.2
      refine xiald (t0 := 0) (v := (g σ6 58 a2)) S hK hP cW_58 rfl h_40 rfl dX3_stow_40 ?_
      refine yVv (As := [.int 2, .int (g σ6 58 a2)]) (cw := (cW o u cI cZ cJ 79)) (ci := 3) S (v_X3_trap_t80 l D cI cZ cJ o u ra ga σ6 2 (g σ6 58 a2) _ H.size hok) mi_X3_trap kw_3_35 rfl rfl ⟨Nat.le_of_ble_eq_true rfl, Nat.le_of_ble_eq_true rfl⟩ hP hD hK hS hA hB cW_65 rfl rfl hl.1 (Nat.le_of_ble_eq_true rfl) ⟨Nat.le_of_ble_eq_true rfl, Nat.le_of_ble_eq_true rfl⟩ dX3_stow_41 (fun σ11 H locs hok hz hP hD hS => ?_)
      refine lv_goto (tgt := 68) hx hb dX3_stow_44 (by decide) ?_
      exact yEndv S hr hlocks hP hD hS (Nat.le_of_ble_eq_true rfl) (Nat.le_of_ble_eq_true rfl) dX3_stow_68 hok

set_option maxHeartbeats 8000000 in
set_option maxRecDepth 100000 in
theorem v_X3_leave_t80 (l : Launch) (D : va_G) (cI cZ cJ : ClassId) (o : Nat) (u : Nat → Nat) (ra : Nat → Nat) (ga : SG) (σ : FS) (a1 : Int32) (Φ : FS → Prop) (sz : Nat) (hok : (wp_X3_leave 80 σ a1 Φ)) : Met l yX3_leave (uW yX3_leave cX3_leave 6 none) ({ frames := 4, cells := 0, slots := 0, locals := 86 }) (va_Pc [.ref (u 64), .int a1] (aS ra ga D (tyL cI cZ cJ) (cW o u cI cZ cJ 79 σ) sz)) (yQv Φ D (cW o u cI cZ cJ 79) (va_A (cW o u cI cZ cJ 79 σ) sz)) 0 0 (va_A (cW o u cI cZ cJ 79 σ) sz) := by
  refine aStart (lv := [(0, .ref (u 64)), (1, .int a1)]) (Qc := fun A => yQv Φ D (cW o u cI cZ cJ 79) A) (by decide) (Nat.le_of_ble_eq_true rfl) rfl ?_
  intro p e s m args below meth c ls A H S hr hlocks hnm hl hK hP hD hS hA hB
  have hx := S.1
  have hb := S.2.1
  refine lv_aload_n hx hb dX3_leave_0 rfl (lv_at hl 0 rfl) ?_
  refine lv_aload_n hx hb dX3_leave_1 rfl (lv_at hl 0 rfl) ?_
  refine xg (ci := 3) S inX3 rfl hK hP cW_65 3 (by decide) rfl kw_5_132 rfl dX3_leave_2 ?_
  refine xg (ci := 0) S inX0 rfl hK hP cW_52 8 (by decide) rfl kw_4_231 rfl dX3_leave_5 ?_
  refine lv_iload_n hx hb dX3_leave_8 rfl (lv_at hl 1 rfl) ?_
  have h_9 := hok.1
  have hok := hok.2
  refine xiald (t0 := 0) (v := (g σ 56 a1)) S hK hP cW_56 rfl h_9 rfl dX3_leave_9 ?_
  refine yVi (As := [.int (g σ 56 a1)]) (cw := (cW o u cI cZ cJ 79)) (ci := 3) S (v_X3_frameAt l D cI cZ cJ o u 79 ra ga σ (g σ 56 a1) _ H.size hok) mi_X3_frameAt kw_3_51 rfl rfl ⟨Nat.le_of_ble_eq_true rfl, Nat.le_of_ble_eq_true rfl⟩ hP hD hK hS hA hB cW_65 rfl rfl hl.1 (Nat.le_of_ble_eq_true rfl) ⟨Nat.le_of_ble_eq_true rfl, Nat.le_of_ble_eq_true rfl⟩ dX3_leave_10 (fun x2 σ1 H locs hok hz hP hD hS => ?_)
  refine lv_istore_n (lv' := [(2, .int x2), (0, .ref (u 64)), (1, .int a1)]) hx hb dX3_leave_13 rfl hl (by decide) rfl (fun ls hl => ?_)
  refine lv_aload_n hx hb dX3_leave_14 rfl (lv_at hl 1 rfl) ?_
  refine xg (ci := 3) S inX3 rfl hK hP cW_65 8 (by decide) rfl kw_5_137 rfl dX3_leave_15 ?_
  refine xg (ci := 7) S inX7 rfl hK hP cW_74 2 (by decide) rfl kw_5_57 rfl dX3_leave_18 ?_
  refine lv_iconst (v := 1) hx hb dX3_leave_21 (by decide) ?_
  refine xisub (v := (σ1.1 74 2) - 1) S dX3_leave_22 rfl ?_
  refine lv_topi (fun x3 ex3 => ?_)
  have hok := hok x3 ex3
  refine lv_istore_n (lv' := [(3, .int x3), (2, .int x2), (0, .ref (u 64)), (1, .int a1)]) hx hb dX3_leave_23 rfl hl (by decide) rfl (fun ls hl => ?_)
  have lp24 : ∀ (K : FS → Int32 → Prop), (∀ (τ0 : FS) (l3_0 : Int32) (H : Heap) (locs : List Loc) (ls : Array Slot), K τ0 l3_0 → lv_has ls 6 [(3, .int l3_0), (2, .int x2), (0, .ref (u 64)), (1, .int a1)] → va_P D vwCl (cW o u cI cZ cJ 79 τ0) H → va_D A (cW o u cI cZ cJ 79 τ0) → va_S A s.heap H locs → W p l e ({ frames := 4, cells := 0, slots := 0, locals := 86 }) s m args below meth c H locs 0 0 (MQ below (yQv Φ D (cW o u cI cZ cJ 79) A) args s 0 0 A) (F0 m 52 ls [])) → ∀ (n0 : Nat) (τ0 : FS) (l3_0 : Int32) (H : Heap) (locs : List Loc) (ls : Array Slot), wp_X3_leave_24 80 a1 x2 Φ K n0 τ0 l3_0 → lv_has ls 6 [(3, .int l3_0), (2, .int x2), (0, .ref (u 64)), (1, .int a1)] → va_P D vwCl (cW o u cI cZ cJ 79 τ0) H → va_D A (cW o u cI cZ cJ 79 τ0) → va_S A s.heap H locs → W p l e ({ frames := 4, cells := 0, slots := 0, locals := 86 }) s m args below meth c H locs 0 0 (MQ below (yQv Φ D (cW o u cI cZ cJ 79) A) args s 0 0 A) (F0 m 24 ls []) := by
    intro K hk n0
    induction n0 with
    | zero => intro τ0 l3_0 H locs ls hok; exact False.elim hok
    | succ n0 ih24 =>
      intro τ0 l3_0 H locs ls hok hl hP hD hS
      refine lv_iload_n hx hb dX3_leave_24 rfl (lv_at hl 0 rfl) ?_
      refine lv_if_lt (tgt := 52) hx hb dX3_leave_25 (by decide) (fun c_25 => ?_) (fun c_25 => ?_)
      · have hok := hok.1 c_25
        exact hk τ0 l3_0 H locs ls hok (lv_sub hl [0, 1, 2, 3] rfl) hP hD hS
      · have hok := hok.2 c_25
        refine lv_aload_n hx hb dX3_leave_28 rfl (lv_at hl 2 rfl) ?_
        refine lv_iload_n hx hb dX3_leave_29 rfl (lv_at hl 0 rfl) ?_
        refine lv_iload_n hx hb dX3_leave_30 rfl (lv_at hl 1 rfl) ?_
        refine lv_aload_n hx hb dX3_leave_31 rfl (lv_at hl 2 rfl) ?_
        refine xg (ci := 3) S inX3 rfl hK hP cW_65 3 (by decide) rfl kw_5_132 rfl dX3_leave_32 ?_
        refine xg (ci := 0) S inX0 rfl hK hP cW_52 9 (by decide) rfl kw_4_234 rfl dX3_leave_35 ?_
        refine lv_iload_n hx hb dX3_leave_38 rfl (lv_at hl 3 rfl) ?_
        have h_39 := hok.1
        have hok := hok.2
        refine xiald (t0 := 0) (v := (g τ0 57 a1)) S hK hP cW_57 rfl h_39 rfl dX3_leave_39 ?_
        refine yVi (As := [.int l3_0, .int x2, .int (g τ0 57 a1)]) (cw := (cW o u cI cZ cJ 79)) (ci := 3) S (v_X3_isLoopOf l D cI cZ cJ o u 79 ra ga τ0 l3_0 x2 (g τ0 57 a1) _ H.size hok) mi_X3_isLoopOf kw_3_117 rfl rfl ⟨Nat.le_of_ble_eq_true rfl, Nat.le_of_ble_eq_true rfl⟩ hP hD hK hS hA hB cW_65 rfl rfl hl.1 (Nat.le_of_ble_eq_true rfl) ⟨Nat.le_of_ble_eq_true rfl, Nat.le_of_ble_eq_true rfl⟩ dX3_leave_40 (fun x5 σ4 H locs hok hz hP hD hS => ?_)
        refine lv_if_ne (tgt := 52) hx hb dX3_leave_43 (by decide) (fun c_43 => ?_) (fun c_43 => ?_)
        · have hok := hok.2 c_43
          exact hk σ4 l3_0 H locs ls hok (lv_sub hl [0, 1, 2, 3] rfl) hP hD hS
        · have hok := hok.1 c_43
          refine lv_iinc (v := l3_0 + (-1)) (lv' := [(3, .int (l3_0 + (-1))), (2, .int x2), (0, .ref (u 64)), (1, .int a1)]) hx hb dX3_leave_46 hl (k := 0) rfl rfl (by decide) rfl (fun ls hl => ?_)
          refine lv_goto (tgt := 24) hx hb dX3_leave_49 (by decide) ?_
          exact ih24 σ4 (l3_0 + (-1)) H locs ls hok (lv_sub hl [0, 1, 2, 3] rfl) hP hD hS
  refine lp24 _ ?_ FUEL σ1 x3 _ _ _ hok (lv_sub hl [0, 1, 2, 3] rfl) hP hD hS
  intro σ6 x7 H locs ls hok hl hP hD hS
  refine lv_iload_n hx hb dX3_leave_52 rfl (lv_at hl 0 rfl) ?_
  refine lv_if_ge (tgt := 71) hx hb dX3_leave_53 (by decide) (fun c_53 => ?_) (fun c_53 => ?_)
  · have hok := hok.1 c_53
    refine lv_aload_n hx hb dX3_leave_71 rfl (lv_at hl 2 rfl) ?_
    refine xg (ci := 3) S inX3 rfl hK hP cW_65 8 (by decide) rfl kw_5_137 rfl dX3_leave_72 ?_
    refine lv_iload_n hx hb dX3_leave_75 rfl (lv_at hl 0 rfl) ?_
    refine lv_iconst (v := 2) hx hb dX3_leave_76 (by decide) ?_
    refine yVi (As := [.int x7, .int 2]) (cw := (cW o u cI cZ cJ 79)) (ci := 7) S (v_X7_at_74 l D cI cZ cJ o u 79 ra ga σ6 x7 2 _ H.size hok) mi_X7_at kw_3_18 rfl rfl ⟨Nat.le_of_ble_eq_true rfl, Nat.le_of_ble_eq_true rfl⟩ hP hD hK hS hA hB cW_74 rfl rfl hl.1 (Nat.le_of_ble_eq_true rfl) ⟨Nat.le_of_ble_eq_true rfl, Nat.le_of_ble_eq_true rfl⟩ dX3_leave_77 (fun x9 σ8 H locs hok hz hP hD hS => ?_)
    refine lv_istore (lv' := [(4, .int x9), (3, .int x7), (2, .int x2), (0, .ref (u 64)), (1, .int a1)]) hx hb dX3_leave_80 hl (by decide) rfl (fun ls hl => ?_)
    refine lv_aload_n hx hb dX3_leave_82 rfl (lv_at hl 3 rfl) ?_
    refine xg (ci := 3) S inX3 rfl hK hP cW_65 7 (by decide) rfl kw_5_136 rfl dX3_leave_83 ?_
    refine xg (ci := 7) S inX7 rfl hK hP cW_72 2 (by decide) rfl kw_5_57 rfl dX3_leave_86 ?_
    refine lv_topi (fun x10 ex10 => ?_)
    have hok := hok x10 ex10
    refine lv_istore (lv' := [(5, .int x10), (4, .int x9), (3, .int x7), (2, .int x2), (0, .ref (u 64)), (1, .int a1)]) hx hb dX3_leave_89 hl (by decide) rfl (fun ls hl => ?_)
    have lp91 : ∀ (K : FS → Int32 → Prop), (∀ (τ0 : FS) (l5_0 : Int32) (H : Heap) (locs : List Loc) (ls : Array Slot), K τ0 l5_0 → lv_has ls 6 [(5, .int l5_0), (4, .int x9), (3, .int x7), (2, .int x2), (0, .ref (u 64)), (1, .int a1)] → va_P D vwCl (cW o u cI cZ cJ 79 τ0) H → va_D A (cW o u cI cZ cJ 79 τ0) → va_S A s.heap H locs → W p l e ({ frames := 4, cells := 0, slots := 0, locals := 86 }) s m args below meth c H locs 0 0 (MQ below (yQv Φ D (cW o u cI cZ cJ 79) A) args s 0 0 A) (F0 m 108 ls [])) → ∀ (n0 : Nat) (τ0 : FS) (l5_0 : Int32) (H : Heap) (locs : List Loc) (ls : Array Slot), wp_X3_leave_91 80 a1 x2 x7 x9 Φ K n0 τ0 l5_0 → lv_has ls 6 [(5, .int l5_0), (4, .int x9), (3, .int x7), (2, .int x2), (0, .ref (u 64)), (1, .int a1)] → va_P D vwCl (cW o u cI cZ cJ 79 τ0) H → va_D A (cW o u cI cZ cJ 79 τ0) → va_S A s.heap H locs → W p l e ({ frames := 4, cells := 0, slots := 0, locals := 86 }) s m args below meth c H locs 0 0 (MQ below (yQv Φ D (cW o u cI cZ cJ 79) A) args s 0 0 A) (F0 m 91 ls []) := by
      intro K hk n0
      induction n0 with
      | zero => intro τ0 l5_0 H locs ls hok; exact False.elim hok
      | succ n0 ih91 =>
        intro τ0 l5_0 H locs ls hok hl hP hD hS
        refine lv_iload hx hb dX3_leave_91 (lv_at hl 0 rfl) ?_
        refine lv_iload hx hb dX3_leave_93 (lv_at hl 1 rfl) ?_
        refine lv_icmp_le (tgt := 108) hx hb dX3_leave_95 (by decide) (fun c_95 => ?_) (fun c_95 => ?_)
        · have hok := hok.1 c_95
          exact hk τ0 l5_0 H locs ls hok (lv_sub hl [0, 1, 2, 3, 4, 5] rfl) hP hD hS
        · have hok := hok.2 c_95
          refine lv_aload_n hx hb dX3_leave_98 rfl (lv_at hl 4 rfl) ?_
          refine yVv (As := []) (cw := (cW o u cI cZ cJ 79)) (ci := 3) S (v_X3_goBack_t80 l D cI cZ cJ o u ra ga τ0 _ H.size hok) mi_X3_goBack kw_3_93 rfl rfl ⟨Nat.le_of_ble_eq_true rfl, Nat.le_of_ble_eq_true rfl⟩ hP hD hK hS hA hB cW_65 rfl rfl hl.1 (Nat.le_of_ble_eq_true rfl) ⟨Nat.le_of_ble_eq_true rfl, Nat.le_of_ble_eq_true rfl⟩ dX3_leave_99 (fun σ11 H locs hok hz hP hD hS => ?_)
          refine lv_iinc (v := l5_0 + (-1)) (lv' := [(5, .int (l5_0 + (-1))), (4, .int x9), (3, .int x7), (2, .int x2), (0, .ref (u 64)), (1, .int a1)]) hx hb dX3_leave_102 hl (k := 0) rfl rfl (by decide) rfl (fun ls hl => ?_)
          refine lv_goto (tgt := 91) hx hb dX3_leave_105 (by decide) ?_
          exact ih91 σ11 (l5_0 + (-1)) H locs ls hok (lv_sub hl [0, 1, 2, 3, 4, 5] rfl) hP hD hS
    refine lp91 _ ?_ FUEL σ8 x10 _ _ _ hok (lv_sub hl [0, 1, 2, 3, 4, 5] rfl) hP hD hS
    intro σ12 x13 H locs ls hok hl hP hD hS
    refine lv_aload_n hx hb dX3_leave_108 rfl (lv_at hl 4 rfl) ?_
    refine xg (ci := 3) S inX3 rfl hK hP cW_65 5 (by decide) rfl kw_5_134 rfl dX3_leave_109 ?_
    refine lv_aload_n hx hb dX3_leave_112 rfl (lv_at hl 4 rfl) ?_
    refine xg (ci := 3) S inX3 rfl hK hP cW_65 8 (by decide) rfl kw_5_137 rfl dX3_leave_113 ?_
    refine lv_iload_n hx hb dX3_leave_116 rfl (lv_at hl 2 rfl) ?_
    refine lv_iconst (v := 3) hx hb dX3_leave_117 (by decide) ?_
    refine yVi (As := [.int x7, .int 3]) (cw := (cW o u cI cZ cJ 79)) (ci := 7) S (v_X7_at_74 l D cI cZ cJ o u 79 ra ga σ12 x7 3 _ H.size hok) mi_X7_at kw_3_18 rfl rfl ⟨Nat.le_of_ble_eq_true rfl, Nat.le_of_ble_eq_true rfl⟩ hP hD hK hS hA hB cW_74 rfl rfl hl.1 (Nat.le_of_ble_eq_true rfl) ⟨Nat.le_of_ble_eq_true rfl, Nat.le_of_ble_eq_true rfl⟩ dX3_leave_118 (fun x15 σ14 H locs hok hz hP hD hS => ?_)
    refine yVv (As := [.int x15]) (cw := (cW o u cI cZ cJ 79)) (ci := 7) S (v_X7_cut_68 l D cI cZ cJ o u 79 ra ga σ14 x15 _ H.size hok) mi_X7_cut kw_2_212 rfl rfl ⟨Nat.le_of_ble_eq_true rfl, Nat.le_of_ble_eq_true rfl⟩ hP hD hK hS hA hB cW_68 rfl rfl hl.1 (Nat.le_of_ble_eq_true rfl) ⟨Nat.le_of_ble_eq_true rfl, Nat.le_of_ble_eq_true rfl⟩ dX3_leave_121 (fun σ16 H locs hok hz hP hD hS => ?_)
    refine lv_aload_n hx hb dX3_leave_124 rfl (lv_at hl 4 rfl) ?_
    refine xg (ci := 3) S inX3 rfl hK hP cW_65 8 (by decide) rfl kw_5_137 rfl dX3_leave_125 ?_
    refine lv_iload_n hx hb dX3_leave_128 rfl (lv_at hl 2 rfl) ?_
    refine lv_iconst (v := 1) hx hb dX3_leave_129 (by decide) ?_
    refine xiadd (v := x7 + 1) S dX3_leave_130 rfl ?_
    refine yVv (As := [.int (x7 + 1)]) (cw := (cW o u cI cZ cJ 79)) (ci := 7) S (v_X7_cut_74 l D cI cZ cJ o u 79 ra ga σ16 (x7 + 1) _ H.size hok) mi_X7_cut kw_2_212 rfl rfl ⟨Nat.le_of_ble_eq_true rfl, Nat.le_of_ble_eq_true rfl⟩ hP hD hK hS hA hB cW_74 rfl rfl hl.1 (Nat.le_of_ble_eq_true rfl) ⟨Nat.le_of_ble_eq_true rfl, Nat.le_of_ble_eq_true rfl⟩ dX3_leave_131 (fun σ17 H locs hok hz hP hD hS => ?_)
    refine lv_aload_n hx hb dX3_leave_134 rfl (lv_at hl 4 rfl) ?_
    refine lv_aload_n hx hb dX3_leave_135 rfl (lv_at hl 4 rfl) ?_
    refine xg (ci := 3) S inX3 rfl hK hP cW_65 8 (by decide) rfl kw_5_137 rfl dX3_leave_136 ?_
    refine lv_iload_n hx hb dX3_leave_139 rfl (lv_at hl 2 rfl) ?_
    refine lv_iconst (v := 4) hx hb dX3_leave_140 (by decide) ?_
    refine yVi (As := [.int x7, .int 4]) (cw := (cW o u cI cZ cJ 79)) (ci := 7) S (v_X7_at_74 l D cI cZ cJ o u 79 ra ga σ17 x7 4 _ H.size hok) mi_X7_at kw_3_18 rfl rfl ⟨Nat.le_of_ble_eq_true rfl, Nat.le_of_ble_eq_true rfl⟩ hP hD hK hS hA hB cW_74 rfl rfl hl.1 (Nat.le_of_ble_eq_true rfl) ⟨Nat.le_of_ble_eq_true rfl, Nat.le_of_ble_eq_true rfl⟩ dX3_leave_141 (fun x19 σ18 H locs hok hz hP hD hS => ?_)
    refine yp (ci := 3) (v := .int x19) (cw := (cW o u cI cZ cJ 79)) S inX3 tyX3 tyX3_ok nmX3 rfl hK hP hD hS cW_65 12 (by decide) kw_5_141 rfl rfl rfl rfl (Nat.le_of_ble_eq_true rfl) dX3_leave_144 cWp_65_12 (fun σ20 H locs eσ20 hP hD hS => ?_)
    have hok := hok σ20 eσ20
    exact yEndv S hr hlocks hP hD hS (Nat.le_of_ble_eq_true rfl) (Nat.le_of_ble_eq_true rfl) dX3_leave_147 hok
  · have hok := hok.2 c_53
    refine lv_aload_n hx hb dX3_leave_56 rfl (lv_at hl 2 rfl) ?_
    refine lv_iconst (v := 5) hx hb dX3_leave_57 (by decide) ?_
    refine lv_aload_n hx hb dX3_leave_58 rfl (lv_at hl 2 rfl) ?_
    refine xg (ci := 3) S inX3 rfl hK hP cW_65 3 (by decide) rfl kw_5_132 rfl dX3_leave_59 ?_
    refine xg (ci := 0) S inX0 rfl hK hP cW_52 10 (by decide) rfl kw_4_237 rfl dX3_leave_62 ?_
    refine lv_iload_n hx hb dX3_leave_65 rfl (lv_at hl 3 rfl) ?_
    have h_66 := hok.1
    have hok := hok.2
    refine xiald (t0 := 0) (v := (g σ6 58 a1)) S hK hP cW_58 rfl h_66 rfl dX3_leave_66 ?_
    refine yVv (As := [.int 5, .int (g σ6 58 a1)]) (cw := (cW o u cI cZ cJ 79)) (ci := 3) S (v_X3_trap_t80 l D cI cZ cJ o u ra ga σ6 5 (g σ6 58 a1) _ H.size hok) mi_X3_trap kw_3_35 rfl rfl ⟨Nat.le_of_ble_eq_true rfl, Nat.le_of_ble_eq_true rfl⟩ hP hD hK hS hA hB cW_65 rfl rfl hl.1 (Nat.le_of_ble_eq_true rfl) ⟨Nat.le_of_ble_eq_true rfl, Nat.le_of_ble_eq_true rfl⟩ dX3_leave_67 (fun σ21 H locs hok hz hP hD hS => ?_)
    exact yEndv S hr hlocks hP hD hS (Nat.le_of_ble_eq_true rfl) (Nat.le_of_ble_eq_true rfl) dX3_leave_70 hok

set_option maxHeartbeats 8000000 in
set_option maxRecDepth 100000 in
theorem v_X6_print_80 (l : Launch) (D : va_G) (cI cZ cJ : ClassId) (o : Nat) (u : Nat → Nat) (T : Nat) (ra : Nat → Nat) (ga : SG) (σ : FS) (a1 : Int32) (a2 : Int32) (Φ : FS → Prop) (sz : Nat) (hok : (wp_X6_print 80 σ a1 a2 Φ)) : Met l yX6_print (uW yX6_print cX6_print 3 none) ({ frames := 0, cells := 0, slots := 0, locals := 0 }) (va_Pc [.ref (u 79), .int a1, .int a2] (aS ra ga D (tyL cI cZ cJ) (cW o u cI cZ cJ T σ) sz)) (yQv Φ D (cW o u cI cZ cJ T) (va_A (cW o u cI cZ cJ T σ) sz)) 0 0 (va_A (cW o u cI cZ cJ T σ) sz) := by
  refine aStart (lv := [(0, .ref (u 79)), (1, .int a1), (2, .int a2)]) (Qc := fun A => yQv Φ D (cW o u cI cZ cJ T) A) (by decide) (Nat.le_of_ble_eq_true rfl) rfl ?_
  intro p e s m args below meth c ls A H S hr hlocks hnm hl hK hP hD hS hA hB
  have hx := S.1
  have hb := S.2.1
  refine lv_aload_n hx hb dX6_print_0 rfl (lv_at hl 0 rfl) ?_
  refine xg (ci := 6) S inX6 rfl hK hP cW_80 4 (by decide) rfl kw_5_80 rfl dX6_print_1 ?_
  refine lv_bipush (v := 50) hx hb dX6_print_4 (by decide) ?_
  refine lv_icmp_ge (tgt := 42) hx hb dX6_print_6 (by decide) (fun c_6 => ?_) (fun c_6 => ?_)
  · have hok := hok.1 c_6
    refine lv_aload_n hx hb dX6_print_42 rfl (lv_at hl 0 rfl) ?_
    refine lv_dup hx hb dX6_print_43 rfl ?_
    refine xg (ci := 6) S inX6 rfl hK hP cW_80 4 (by decide) rfl kw_5_80 rfl dX6_print_44 ?_
    refine lv_iconst (v := 1) hx hb dX6_print_47 (by decide) ?_
    refine xiadd (v := (σ.1 80 4) + 1) S dX6_print_48 rfl ?_
    refine yp (ci := 6) (v := .int ((σ.1 80 4) + 1)) (cw := (cW o u cI cZ cJ T)) S inX6 tyX6 tyX6_ok nmX6 rfl hK hP hD hS cW_80 4 (by decide) kw_5_80 rfl rfl rfl rfl (Nat.le_of_ble_eq_true rfl) dX6_print_49 cWp_80_4 (fun σ1 H locs eσ1 hP hD hS => ?_)
    have hok := hok σ1 eσ1
    refine lv_aload_n hx hb dX6_print_52 rfl (lv_at hl 0 rfl) ?_
    refine lv_dup hx hb dX6_print_53 rfl ?_
    refine xg (ci := 6) S inX6 rfl hK hP cW_80 10 (by decide) rfl kw_5_93 rfl dX6_print_54 ?_
    refine lv_iload_n hx hb dX6_print_57 rfl (lv_at hl 1 rfl) ?_
    refine lv_i2l (v := (a1 : Int32).toInt64) hx hb dX6_print_58 rfl ?_
    refine lv_ladd hx hb dX6_print_59 ?_
    refine yp (ci := 6) (v := .long ((σ1.2.1 80) + ((a1 : Int32).toInt64))) (cw := (cW o u cI cZ cJ T)) S inX6 tyX6 tyX6_ok nmX6 rfl hK hP hD hS cW_80 10 (by decide) kw_5_93 rfl rfl rfl rfl (Nat.le_of_ble_eq_true rfl) dX6_print_60 cWp_80_10 (fun σ2 H locs eσ2 hP hD hS => ?_)
    have hok := hok σ2 eσ2
    exact yEndv S hr hlocks hP hD hS (Nat.le_of_ble_eq_true rfl) (Nat.le_of_ble_eq_true rfl) dX6_print_63 hok
  · have hok := hok.2 c_6
    refine lv_aload_n hx hb dX6_print_9 rfl (lv_at hl 0 rfl) ?_
    refine xg (ci := 6) S inX6 rfl hK hP cW_80 11 (by decide) rfl kw_5_94 rfl dX6_print_10 ?_
    refine lv_aload_n hx hb dX6_print_13 rfl (lv_at hl 0 rfl) ?_
    refine xg (ci := 6) S inX6 rfl hK hP cW_80 4 (by decide) rfl kw_5_80 rfl dX6_print_14 ?_
    refine lv_iload_n hx hb dX6_print_17 rfl (lv_at hl 1 rfl) ?_
    have h_18 := hok.1
    have hok := hok.2
    refine yiast (t0 := 0) (cw := (cW o u cI cZ cJ T)) S hK hP hD hS cW_81 rfl h_18 dX6_print_18 cWa_81 (fun σ3 H locs eσ3 hP hD hS => ?_)
    have hok := hok σ3 eσ3
    refine lv_aload_n hx hb dX6_print_19 rfl (lv_at hl 0 rfl) ?_
    refine xg (ci := 6) S inX6 rfl hK hP cW_80 12 (by decide) rfl kw_5_96 rfl dX6_print_20 ?_
    refine lv_aload_n hx hb dX6_print_23 rfl (lv_at hl 0 rfl) ?_
    refine xg (ci := 6) S inX6 rfl hK hP cW_80 4 (by decide) rfl kw_5_80 rfl dX6_print_24 ?_
    refine lv_aload_n hx hb dX6_print_27 rfl (lv_at hl 0 rfl) ?_
    refine xg (ci := 6) S inX6 rfl hK hP cW_80 3 (by decide) rfl kw_5_78 rfl dX6_print_28 ?_
    have h_31 := hok.1
    have hok := hok.2
    refine yiast (t0 := 0) (cw := (cW o u cI cZ cJ T)) S hK hP hD hS cW_82 rfl h_31 dX6_print_31 cWa_82 (fun σ4 H locs eσ4 hP hD hS => ?_)
    have hok := hok σ4 eσ4
    refine lv_aload_n hx hb dX6_print_32 rfl (lv_at hl 0 rfl) ?_
    refine xg (ci := 6) S inX6 rfl hK hP cW_80 13 (by decide) rfl kw_5_98 rfl dX6_print_33 ?_
    refine lv_aload_n hx hb dX6_print_36 rfl (lv_at hl 0 rfl) ?_
    refine xg (ci := 6) S inX6 rfl hK hP cW_80 4 (by decide) rfl kw_5_80 rfl dX6_print_37 ?_
    refine lv_iload_n hx hb dX6_print_40 rfl (lv_at hl 2 rfl) ?_
    have h_41 := hok.1
    have hok := hok.2
    refine yiast (t0 := 0) (cw := (cW o u cI cZ cJ T)) S hK hP hD hS cW_83 rfl h_41 dX6_print_41 cWa_83 (fun σ5 H locs eσ5 hP hD hS => ?_)
    have hok := hok σ5 eσ5
    refine lv_aload_n hx hb dX6_print_42 rfl (lv_at hl 0 rfl) ?_
    refine lv_dup hx hb dX6_print_43 rfl ?_
    refine xg (ci := 6) S inX6 rfl hK hP cW_80 4 (by decide) rfl kw_5_80 rfl dX6_print_44 ?_
    refine lv_iconst (v := 1) hx hb dX6_print_47 (by decide) ?_
    refine xiadd (v := (σ5.1 80 4) + 1) S dX6_print_48 rfl ?_
    refine yp (ci := 6) (v := .int ((σ5.1 80 4) + 1)) (cw := (cW o u cI cZ cJ T)) S inX6 tyX6 tyX6_ok nmX6 rfl hK hP hD hS cW_80 4 (by decide) kw_5_80 rfl rfl rfl rfl (Nat.le_of_ble_eq_true rfl) dX6_print_49 cWp_80_4 (fun σ6 H locs eσ6 hP hD hS => ?_)
    have hok := hok σ6 eσ6
    refine lv_aload_n hx hb dX6_print_52 rfl (lv_at hl 0 rfl) ?_
    refine lv_dup hx hb dX6_print_53 rfl ?_
    refine xg (ci := 6) S inX6 rfl hK hP cW_80 10 (by decide) rfl kw_5_93 rfl dX6_print_54 ?_
    refine lv_iload_n hx hb dX6_print_57 rfl (lv_at hl 1 rfl) ?_
    refine lv_i2l (v := (a1 : Int32).toInt64) hx hb dX6_print_58 rfl ?_
    refine lv_ladd hx hb dX6_print_59 ?_
    refine yp (ci := 6) (v := .long ((σ6.2.1 80) + ((a1 : Int32).toInt64))) (cw := (cW o u cI cZ cJ T)) S inX6 tyX6 tyX6_ok nmX6 rfl hK hP hD hS cW_80 10 (by decide) kw_5_93 rfl rfl rfl rfl (Nat.le_of_ble_eq_true rfl) dX6_print_60 cWp_80_10 (fun σ7 H locs eσ7 hP hD hS => ?_)
    have hok := hok σ7 eσ7
    exact yEndv S hr hlocks hP hD hS (Nat.le_of_ble_eq_true rfl) (Nat.le_of_ble_eq_true rfl) dX6_print_63 hok

set_option maxHeartbeats 8000000 in
set_option maxRecDepth 100000 in
theorem v_X3_perform_t80 (l : Launch) (D : va_G) (cI cZ cJ : ClassId) (o : Nat) (u : Nat → Nat) (ra : Nat → Nat) (ga : SG) (σ : FS) (a1 : Int32) (a2 : Int32) (Φ : FS → Prop) (sz : Nat) (hok : (wp_X3_perform 80 σ a1 a2 Φ)) : Met l yX3_perform (uW yX3_perform cX3_perform 4 none) ({ frames := 5, cells := 0, slots := 0, locals := 121 }) (va_Pc [.ref (u 64), .int a1, .int a2] (aS ra ga D (tyL cI cZ cJ) (cW o u cI cZ cJ 79 σ) sz)) (yQv Φ D (cW o u cI cZ cJ 79) (va_A (cW o u cI cZ cJ 79 σ) sz)) 0 0 (va_A (cW o u cI cZ cJ 79 σ) sz) := by
  refine aStart (lv := [(0, .ref (u 64)), (1, .int a1), (2, .int a2)]) (Qc := fun A => yQv Φ D (cW o u cI cZ cJ 79) A) (by decide) (Nat.le_of_ble_eq_true rfl) rfl ?_
  intro p e s m args below meth c ls A H S hr hlocks hnm hl hK hP hD hS hA hB
  have hx := S.1
  have hb := S.2.1
  refine lv_aload_n hx hb dX3_perform_0 rfl (lv_at hl 0 rfl) ?_
  refine xg (ci := 3) S inX3 rfl hK hP cW_65 3 (by decide) rfl kw_5_132 rfl dX3_perform_1 ?_
  refine xg (ci := 0) S inX0 rfl hK hP cW_52 8 (by decide) rfl kw_4_231 rfl dX3_perform_4 ?_
  refine lv_iload_n hx hb dX3_perform_7 rfl (lv_at hl 1 rfl) ?_
  have h_8 := hok.1
  have hok := hok.2
  refine xiald (t0 := 0) (v := (g σ 56 a1)) S hK hP cW_56 rfl h_8 rfl dX3_perform_8 ?_
  refine lv_topi (fun x1 ex1 => ?_)
  have hok := hok x1 ex1
  refine lv_istore_n (lv' := [(3, .int x1), (0, .ref (u 64)), (1, .int a1), (2, .int a2)]) hx hb dX3_perform_9 rfl hl (by decide) rfl (fun ls hl => ?_)
  refine lv_iload_n hx hb dX3_perform_10 rfl (lv_at hl 3 rfl) ?_
  by_cases k_11_0 : a2 = 1
  · have hok := hok.1 k_11_0
    rw [k_11_0]
    refine lv_tableIn (off := 121) (tgt := 132) hx hb dX3_perform_11 (by decide) (by decide) (by decide) (by decide) ?_
    refine lv_aload_n hx hb dX3_perform_132 rfl (lv_at hl 1 rfl) ?_
    refine lv_iload_n hx hb dX3_perform_133 rfl (lv_at hl 0 rfl) ?_
    refine lv_iconst (v := 0) hx hb dX3_perform_134 (by decide) ?_
    refine yVv (As := [.int x1, .int 0]) (cw := (cW o u cI cZ cJ 79)) (ci := 3) S (v_X3_push l D cI cZ cJ o u 79 ra ga σ x1 0 _ H.size hok) mi_X3_push kw_3_43 rfl rfl ⟨Nat.le_of_ble_eq_true rfl, Nat.le_of_ble_eq_true rfl⟩ hP hD hK hS hA hB cW_65 rfl rfl hl.1 (Nat.le_of_ble_eq_true rfl) ⟨Nat.le_of_ble_eq_true rfl, Nat.le_of_ble_eq_true rfl⟩ dX3_perform_135 (fun σ2 H locs hok hz hP hD hS => ?_)
    refine lv_goto (tgt := 403) hx hb dX3_perform_138 (by decide) ?_
    exact yEndv S hr hlocks hP hD hS (Nat.le_of_ble_eq_true rfl) (Nat.le_of_ble_eq_true rfl) dX3_perform_403 hok
  · have hok := hok.2 k_11_0
    by_cases k_11_1 : a2 = 2
    · have hok := hok.1 k_11_1
      rw [k_11_1]
      refine lv_tableIn (off := 130) (tgt := 141) hx hb dX3_perform_11 (by decide) (by decide) (by decide) (by decide) ?_
      refine lv_aload_n hx hb dX3_perform_141 rfl (lv_at hl 1 rfl) ?_
      refine lv_aload_n hx hb dX3_perform_142 rfl (lv_at hl 1 rfl) ?_
      refine lv_iload_n hx hb dX3_perform_143 rfl (lv_at hl 2 rfl) ?_
      refine yVi (As := [.int a1]) (cw := (cW o u cI cZ cJ 79)) (ci := 3) S (v_X3_cellOf l D cI cZ cJ o u 79 ra ga σ a1 _ H.size hok) mi_X3_cellOf kw_3_47 rfl rfl ⟨Nat.le_of_ble_eq_true rfl, Nat.le_of_ble_eq_true rfl⟩ hP hD hK hS hA hB cW_65 rfl rfl hl.1 (Nat.le_of_ble_eq_true rfl) ⟨Nat.le_of_ble_eq_true rfl, Nat.le_of_ble_eq_true rfl⟩ dX3_perform_144 (fun x4 σ3 H locs hok hz hP hD hS => ?_)
      refine lv_iload_n hx hb dX3_perform_147 rfl (lv_at hl 2 rfl) ?_
      refine yVv (As := [.int x4, .int a1]) (cw := (cW o u cI cZ cJ 79)) (ci := 3) S (v_X3_get l D cI cZ cJ o u 79 ra ga σ3 x4 a1 _ H.size hok) mi_X3_get kw_3_55 rfl rfl ⟨Nat.le_of_ble_eq_true rfl, Nat.le_of_ble_eq_true rfl⟩ hP hD hK hS hA hB cW_65 rfl rfl hl.1 (Nat.le_of_ble_eq_true rfl) ⟨Nat.le_of_ble_eq_true rfl, Nat.le_of_ble_eq_true rfl⟩ dX3_perform_148 (fun σ5 H locs hok hz hP hD hS => ?_)
      refine lv_goto (tgt := 403) hx hb dX3_perform_151 (by decide) ?_
      exact yEndv S hr hlocks hP hD hS (Nat.le_of_ble_eq_true rfl) (Nat.le_of_ble_eq_true rfl) dX3_perform_403 hok
    · have hok := hok.2 k_11_1
      by_cases k_11_2 : a2 = 3
      · have hok := hok.1 k_11_2
        rw [k_11_2]
        refine lv_tableIn (off := 143) (tgt := 154) hx hb dX3_perform_11 (by decide) (by decide) (by decide) (by decide) ?_
        refine lv_aload_n hx hb dX3_perform_154 rfl (lv_at hl 1 rfl) ?_
        refine lv_aload_n hx hb dX3_perform_155 rfl (lv_at hl 1 rfl) ?_
        refine lv_iload_n hx hb dX3_perform_156 rfl (lv_at hl 2 rfl) ?_
        refine yVi (As := [.int a1]) (cw := (cW o u cI cZ cJ 79)) (ci := 3) S (v_X3_cellOf l D cI cZ cJ o u 79 ra ga σ a1 _ H.size hok) mi_X3_cellOf kw_3_47 rfl rfl ⟨Nat.le_of_ble_eq_true rfl, Nat.le_of_ble_eq_true rfl⟩ hP hD hK hS hA hB cW_65 rfl rfl hl.1 (Nat.le_of_ble_eq_true rfl) ⟨Nat.le_of_ble_eq_true rfl, Nat.le_of_ble_eq_true rfl⟩ dX3_perform_157 (fun x7 σ6 H locs hok hz hP hD hS => ?_)
        refine lv_iload_n hx hb dX3_perform_160 rfl (lv_at hl 2 rfl) ?_
        refine lv_iconst (v := 0) hx hb dX3_perform_161 (by decide) ?_
        refine yVv (As := [.int x7, .int a1, .int 0]) (cw := (cW o u cI cZ cJ 79)) (ci := 3) S (v_X3_pick_t80 l D cI cZ cJ o u ra ga σ6 x7 a1 0 _ H.size hok) mi_X3_pick kw_3_63 rfl rfl ⟨Nat.le_of_ble_eq_true rfl, Nat.le_of_ble_eq_true rfl⟩ hP hD hK hS hA hB cW_65 rfl rfl hl.1 (Nat.le_of_ble_eq_true rfl) ⟨Nat.le_of_ble_eq_true rfl, Nat.le_of_ble_eq_true rfl⟩ dX3_perform_162 (fun σ8 H locs hok hz hP hD hS => ?_)
        refine lv_goto (tgt := 403) hx hb dX3_perform_165 (by decide) ?_
        exact yEndv S hr hlocks hP hD hS (Nat.le_of_ble_eq_true rfl) (Nat.le_of_ble_eq_true rfl) dX3_perform_403 hok
      · have hok := hok.2 k_11_2
        by_cases k_11_3 : a2 = 4
        · have hok := hok.1 k_11_3
          rw [k_11_3]
          refine lv_tableIn (off := 386) (tgt := 397) hx hb dX3_perform_11 (by decide) (by decide) (by decide) (by decide) ?_
          refine lv_aload_n hx hb dX3_perform_397 rfl (lv_at hl 1 rfl) ?_
          refine lv_iload_n hx hb dX3_perform_398 rfl (lv_at hl 2 rfl) ?_
          refine lv_iload_n hx hb dX3_perform_399 rfl (lv_at hl 3 rfl) ?_
          refine yVv (As := [.int a1, .int a2]) (cw := (cW o u cI cZ cJ 79)) (ci := 3) S (v_X3_reckon_t80 l D cI cZ cJ o u ra ga σ a1 a2 _ H.size hok) mi_X3_reckon kw_3_125 rfl rfl ⟨Nat.le_of_ble_eq_true rfl, Nat.le_of_ble_eq_true rfl⟩ hP hD hK hS hA hB cW_65 rfl rfl hl.1 (Nat.le_of_ble_eq_true rfl) ⟨Nat.le_of_ble_eq_true rfl, Nat.le_of_ble_eq_true rfl⟩ dX3_perform_400 (fun σ9 H locs hok hz hP hD hS => ?_)
          exact yEndv S hr hlocks hP hD hS (Nat.le_of_ble_eq_true rfl) (Nat.le_of_ble_eq_true rfl) dX3_perform_403 hok
        · have hok := hok.2 k_11_3
          by_cases k_11_4 : a2 = 5
          · have hok := hok.1 k_11_4
            rw [k_11_4]
            refine lv_tableIn (off := 386) (tgt := 397) hx hb dX3_perform_11 (by decide) (by decide) (by decide) (by decide) ?_
            refine lv_aload_n hx hb dX3_perform_397 rfl (lv_at hl 1 rfl) ?_
            refine lv_iload_n hx hb dX3_perform_398 rfl (lv_at hl 2 rfl) ?_
            refine lv_iload_n hx hb dX3_perform_399 rfl (lv_at hl 3 rfl) ?_
            refine yVv (As := [.int a1, .int a2]) (cw := (cW o u cI cZ cJ 79)) (ci := 3) S (v_X3_reckon_t80 l D cI cZ cJ o u ra ga σ a1 a2 _ H.size hok) mi_X3_reckon kw_3_125 rfl rfl ⟨Nat.le_of_ble_eq_true rfl, Nat.le_of_ble_eq_true rfl⟩ hP hD hK hS hA hB cW_65 rfl rfl hl.1 (Nat.le_of_ble_eq_true rfl) ⟨Nat.le_of_ble_eq_true rfl, Nat.le_of_ble_eq_true rfl⟩ dX3_perform_400 (fun σ10 H locs hok hz hP hD hS => ?_)
            exact yEndv S hr hlocks hP hD hS (Nat.le_of_ble_eq_true rfl) (Nat.le_of_ble_eq_true rfl) dX3_perform_403 hok
          · have hok := hok.2 k_11_4
            by_cases k_11_5 : a2 = 6
            · have hok := hok.1 k_11_5
              rw [k_11_5]
              refine lv_tableIn (off := 386) (tgt := 397) hx hb dX3_perform_11 (by decide) (by decide) (by decide) (by decide) ?_
              refine lv_aload_n hx hb dX3_perform_397 rfl (lv_at hl 1 rfl) ?_
              refine lv_iload_n hx hb dX3_perform_398 rfl (lv_at hl 2 rfl) ?_
              refine lv_iload_n hx hb dX3_perform_399 rfl (lv_at hl 3 rfl) ?_
              refine yVv (As := [.int a1, .int a2]) (cw := (cW o u cI cZ cJ 79)) (ci := 3) S (v_X3_reckon_t80 l D cI cZ cJ o u ra ga σ a1 a2 _ H.size hok) mi_X3_reckon kw_3_125 rfl rfl ⟨Nat.le_of_ble_eq_true rfl, Nat.le_of_ble_eq_true rfl⟩ hP hD hK hS hA hB cW_65 rfl rfl hl.1 (Nat.le_of_ble_eq_true rfl) ⟨Nat.le_of_ble_eq_true rfl, Nat.le_of_ble_eq_true rfl⟩ dX3_perform_400 (fun σ11 H locs hok hz hP hD hS => ?_)
              exact yEndv S hr hlocks hP hD hS (Nat.le_of_ble_eq_true rfl) (Nat.le_of_ble_eq_true rfl) dX3_perform_403 hok
            · have hok := hok.2 k_11_5
              by_cases k_11_6 : a2 = 7
              · have hok := hok.1 k_11_6
                rw [k_11_6]
                refine lv_tableIn (off := 386) (tgt := 397) hx hb dX3_perform_11 (by decide) (by decide) (by decide) (by decide) ?_
                refine lv_aload_n hx hb dX3_perform_397 rfl (lv_at hl 1 rfl) ?_
                refine lv_iload_n hx hb dX3_perform_398 rfl (lv_at hl 2 rfl) ?_
                refine lv_iload_n hx hb dX3_perform_399 rfl (lv_at hl 3 rfl) ?_
                refine yVv (As := [.int a1, .int a2]) (cw := (cW o u cI cZ cJ 79)) (ci := 3) S (v_X3_reckon_t80 l D cI cZ cJ o u ra ga σ a1 a2 _ H.size hok) mi_X3_reckon kw_3_125 rfl rfl ⟨Nat.le_of_ble_eq_true rfl, Nat.le_of_ble_eq_true rfl⟩ hP hD hK hS hA hB cW_65 rfl rfl hl.1 (Nat.le_of_ble_eq_true rfl) ⟨Nat.le_of_ble_eq_true rfl, Nat.le_of_ble_eq_true rfl⟩ dX3_perform_400 (fun σ12 H locs hok hz hP hD hS => ?_)
                exact yEndv S hr hlocks hP hD hS (Nat.le_of_ble_eq_true rfl) (Nat.le_of_ble_eq_true rfl) dX3_perform_403 hok
              · have hok := hok.2 k_11_6
                by_cases k_11_7 : a2 = 8
                · have hok := hok.1 k_11_7
                  rw [k_11_7]
                  refine lv_tableIn (off := 386) (tgt := 397) hx hb dX3_perform_11 (by decide) (by decide) (by decide) (by decide) ?_
                  refine lv_aload_n hx hb dX3_perform_397 rfl (lv_at hl 1 rfl) ?_
                  refine lv_iload_n hx hb dX3_perform_398 rfl (lv_at hl 2 rfl) ?_
                  refine lv_iload_n hx hb dX3_perform_399 rfl (lv_at hl 3 rfl) ?_
                  refine yVv (As := [.int a1, .int a2]) (cw := (cW o u cI cZ cJ 79)) (ci := 3) S (v_X3_reckon_t80 l D cI cZ cJ o u ra ga σ a1 a2 _ H.size hok) mi_X3_reckon kw_3_125 rfl rfl ⟨Nat.le_of_ble_eq_true rfl, Nat.le_of_ble_eq_true rfl⟩ hP hD hK hS hA hB cW_65 rfl rfl hl.1 (Nat.le_of_ble_eq_true rfl) ⟨Nat.le_of_ble_eq_true rfl, Nat.le_of_ble_eq_true rfl⟩ dX3_perform_400 (fun σ13 H locs hok hz hP hD hS => ?_)
                  exact yEndv S hr hlocks hP hD hS (Nat.le_of_ble_eq_true rfl) (Nat.le_of_ble_eq_true rfl) dX3_perform_403 hok
                · have hok := hok.2 k_11_7
                  by_cases k_11_8 : a2 = 9
                  · have hok := hok.1 k_11_8
                    rw [k_11_8]
                    refine lv_tableIn (off := 157) (tgt := 168) hx hb dX3_perform_11 (by decide) (by decide) (by decide) (by decide) ?_
                    refine lv_aload_n hx hb dX3_perform_168 rfl (lv_at hl 1 rfl) ?_
                    refine lv_iload_n hx hb dX3_perform_169 rfl (lv_at hl 2 rfl) ?_
                    refine yVv (As := [.int a1]) (cw := (cW o u cI cZ cJ 79)) (ci := 3) S (v_X3_go_t80 l D cI cZ cJ o u ra ga σ a1 _ H.size hok) mi_X3_go kw_3_71 rfl rfl ⟨Nat.le_of_ble_eq_true rfl, Nat.le_of_ble_eq_true rfl⟩ hP hD hK hS hA hB cW_65 rfl rfl hl.1 (Nat.le_of_ble_eq_true rfl) ⟨Nat.le_of_ble_eq_true rfl, Nat.le_of_ble_eq_true rfl⟩ dX3_perform_170 (fun σ14 H locs hok hz hP hD hS => ?_)
                    refine lv_goto (tgt := 403) hx hb dX3_perform_173 (by decide) ?_
                    exact yEndv S hr hlocks hP hD hS (Nat.le_of_ble_eq_true rfl) (Nat.le_of_ble_eq_true rfl) dX3_perform_403 hok
                  · have hok := hok.2 k_11_8
                    by_cases k_11_9 : a2 = 10
                    · have hok := hok.1 k_11_9
                      rw [k_11_9]
                      refine lv_tableIn (off := 165) (tgt := 176) hx hb dX3_perform_11 (by decide) (by decide) (by decide) (by decide) ?_
                      refine lv_aload_n hx hb dX3_perform_176 rfl (lv_at hl 1 rfl) ?_
                      refine lv_aload_n hx hb dX3_perform_177 rfl (lv_at hl 1 rfl) ?_
                      refine lv_iload_n hx hb dX3_perform_178 rfl (lv_at hl 2 rfl) ?_
                      refine yVi (As := [.int a1]) (cw := (cW o u cI cZ cJ 79)) (ci := 3) S (v_X3_cellOf l D cI cZ cJ o u 79 ra ga σ a1 _ H.size hok) mi_X3_cellOf kw_3_47 rfl rfl ⟨Nat.le_of_ble_eq_true rfl, Nat.le_of_ble_eq_true rfl⟩ hP hD hK hS hA hB cW_65 rfl rfl hl.1 (Nat.le_of_ble_eq_true rfl) ⟨Nat.le_of_ble_eq_true rfl, Nat.le_of_ble_eq_true rfl⟩ dX3_perform_179 (fun x16 σ15 H locs hok hz hP hD hS => ?_)
                      refine lv_iload_n hx hb dX3_perform_182 rfl (lv_at hl 2 rfl) ?_
                      refine yVv (As := [.int x16, .int a1]) (cw := (cW o u cI cZ cJ 79)) (ci := 3) S (v_X3_goByProc_t80 l D cI cZ cJ o u ra ga σ15 x16 a1 _ H.size hok) mi_X3_goByProc kw_3_75 rfl rfl ⟨Nat.le_of_ble_eq_true rfl, Nat.le_of_ble_eq_true rfl⟩ hP hD hK hS hA hB cW_65 rfl rfl hl.1 (Nat.le_of_ble_eq_true rfl) ⟨Nat.le_of_ble_eq_true rfl, Nat.le_of_ble_eq_true rfl⟩ dX3_perform_183 (fun σ17 H locs hok hz hP hD hS => ?_)
                      refine lv_goto (tgt := 403) hx hb dX3_perform_186 (by decide) ?_
                      exact yEndv S hr hlocks hP hD hS (Nat.le_of_ble_eq_true rfl) (Nat.le_of_ble_eq_true rfl) dX3_perform_403 hok
                    · have hok := hok.2 k_11_9
                      by_cases k_11_10 : a2 = 11
                      · have hok := hok.1 k_11_10
                        rw [k_11_10]
                        refine lv_tableIn (off := 386) (tgt := 397) hx hb dX3_perform_11 (by decide) (by decide) (by decide) (by decide) ?_
                        refine lv_aload_n hx hb dX3_perform_397 rfl (lv_at hl 1 rfl) ?_
                        refine lv_iload_n hx hb dX3_perform_398 rfl (lv_at hl 2 rfl) ?_
                        refine lv_iload_n hx hb dX3_perform_399 rfl (lv_at hl 3 rfl) ?_
                        refine yVv (As := [.int a1, .int a2]) (cw := (cW o u cI cZ cJ 79)) (ci := 3) S (v_X3_reckon_t80 l D cI cZ cJ o u ra ga σ a1 a2 _ H.size hok) mi_X3_reckon kw_3_125 rfl rfl ⟨Nat.le_of_ble_eq_true rfl, Nat.le_of_ble_eq_true rfl⟩ hP hD hK hS hA hB cW_65 rfl rfl hl.1 (Nat.le_of_ble_eq_true rfl) ⟨Nat.le_of_ble_eq_true rfl, Nat.le_of_ble_eq_true rfl⟩ dX3_perform_400 (fun σ18 H locs hok hz hP hD hS => ?_)
                        exact yEndv S hr hlocks hP hD hS (Nat.le_of_ble_eq_true rfl) (Nat.le_of_ble_eq_true rfl) dX3_perform_403 hok
                      · have hok := hok.2 k_11_10
                        by_cases k_11_11 : a2 = 12
                        · have hok := hok.1 k_11_11
                          rw [k_11_11]
                          refine lv_tableIn (off := 178) (tgt := 189) hx hb dX3_perform_11 (by decide) (by decide) (by decide) (by decide) ?_
                          refine lv_aload_n hx hb dX3_perform_189 rfl (lv_at hl 1 rfl) ?_
                          refine lv_aload_n hx hb dX3_perform_190 rfl (lv_at hl 1 rfl) ?_
                          refine lv_iload_n hx hb dX3_perform_191 rfl (lv_at hl 2 rfl) ?_
                          refine yVi (As := [.int a1]) (cw := (cW o u cI cZ cJ 79)) (ci := 3) S (v_X3_cellOf l D cI cZ cJ o u 79 ra ga σ a1 _ H.size hok) mi_X3_cellOf kw_3_47 rfl rfl ⟨Nat.le_of_ble_eq_true rfl, Nat.le_of_ble_eq_true rfl⟩ hP hD hK hS hA hB cW_65 rfl rfl hl.1 (Nat.le_of_ble_eq_true rfl) ⟨Nat.le_of_ble_eq_true rfl, Nat.le_of_ble_eq_true rfl⟩ dX3_perform_192 (fun x20 σ19 H locs hok hz hP hD hS => ?_)
                          refine lv_iload_n hx hb dX3_perform_195 rfl (lv_at hl 2 rfl) ?_
                          refine yVv (As := [.int x20, .int a1]) (cw := (cW o u cI cZ cJ 79)) (ci := 3) S (v_X3_refer l D cI cZ cJ o u 79 ra ga σ19 x20 a1 _ H.size hok) mi_X3_refer kw_3_81 rfl rfl ⟨Nat.le_of_ble_eq_true rfl, Nat.le_of_ble_eq_true rfl⟩ hP hD hK hS hA hB cW_65 rfl rfl hl.1 (Nat.le_of_ble_eq_true rfl) ⟨Nat.le_of_ble_eq_true rfl, Nat.le_of_ble_eq_true rfl⟩ dX3_perform_196 (fun σ21 H locs hok hz hP hD hS => ?_)
                          refine lv_goto (tgt := 403) hx hb dX3_perform_199 (by decide) ?_
                          exact yEndv S hr hlocks hP hD hS (Nat.le_of_ble_eq_true rfl) (Nat.le_of_ble_eq_true rfl) dX3_perform_403 hok
                        · have hok := hok.2 k_11_11
                          by_cases k_11_12 : a2 = 13
                          · have hok := hok.1 k_11_12
                            rw [k_11_12]
                            refine lv_tableIn (off := 191) (tgt := 202) hx hb dX3_perform_11 (by decide) (by decide) (by decide) (by decide) ?_
                            refine lv_aload_n hx hb dX3_perform_202 rfl (lv_at hl 1 rfl) ?_
                            refine lv_aload_n hx hb dX3_perform_203 rfl (lv_at hl 1 rfl) ?_
                            refine lv_iload_n hx hb dX3_perform_204 rfl (lv_at hl 2 rfl) ?_
                            refine yVi (As := [.int a1]) (cw := (cW o u cI cZ cJ 79)) (ci := 3) S (v_X3_cellOf l D cI cZ cJ o u 79 ra ga σ a1 _ H.size hok) mi_X3_cellOf kw_3_47 rfl rfl ⟨Nat.le_of_ble_eq_true rfl, Nat.le_of_ble_eq_true rfl⟩ hP hD hK hS hA hB cW_65 rfl rfl hl.1 (Nat.le_of_ble_eq_true rfl) ⟨Nat.le_of_ble_eq_true rfl, Nat.le_of_ble_eq_true rfl⟩ dX3_perform_205 (fun x23 σ22 H locs hok hz hP hD hS => ?_)
                            refine lv_iload_n hx hb dX3_perform_208 rfl (lv_at hl 2 rfl) ?_
                            refine lv_iconst (v := 1) hx hb dX3_perform_209 (by decide) ?_
                            refine yVv (As := [.int x23, .int a1, .int 1]) (cw := (cW o u cI cZ cJ 79)) (ci := 3) S (v_X3_pick_t80 l D cI cZ cJ o u ra ga σ22 x23 a1 1 _ H.size hok) mi_X3_pick kw_3_63 rfl rfl ⟨Nat.le_of_ble_eq_true rfl, Nat.le_of_ble_eq_true rfl⟩ hP hD hK hS hA hB cW_65 rfl rfl hl.1 (Nat.le_of_ble_eq_true rfl) ⟨Nat.le_of_ble_eq_true rfl, Nat.le_of_ble_eq_true rfl⟩ dX3_perform_210 (fun σ24 H locs hok hz hP hD hS => ?_)
                            refine lv_goto (tgt := 403) hx hb dX3_perform_213 (by decide) ?_
                            exact yEndv S hr hlocks hP hD hS (Nat.le_of_ble_eq_true rfl) (Nat.le_of_ble_eq_true rfl) dX3_perform_403 hok
                          · have hok := hok.2 k_11_12
                            by_cases k_11_13 : a2 = 14
                            · have hok := hok.1 k_11_13
                              rw [k_11_13]
                              refine lv_tableIn (off := 205) (tgt := 216) hx hb dX3_perform_11 (by decide) (by decide) (by decide) (by decide) ?_
                              refine lv_aload_n hx hb dX3_perform_216 rfl (lv_at hl 1 rfl) ?_
                              refine lv_iload_n hx hb dX3_perform_217 rfl (lv_at hl 2 rfl) ?_
                              refine yVv (As := [.int a1]) (cw := (cW o u cI cZ cJ 79)) (ci := 3) S (v_X3_later l D cI cZ cJ o u 79 ra ga σ a1 _ H.size hok) mi_X3_later kw_3_85 rfl rfl ⟨Nat.le_of_ble_eq_true rfl, Nat.le_of_ble_eq_true rfl⟩ hP hD hK hS hA hB cW_65 rfl rfl hl.1 (Nat.le_of_ble_eq_true rfl) ⟨Nat.le_of_ble_eq_true rfl, Nat.le_of_ble_eq_true rfl⟩ dX3_perform_218 (fun σ25 H locs hok hz hP hD hS => ?_)
                              refine lv_goto (tgt := 403) hx hb dX3_perform_221 (by decide) ?_
                              exact yEndv S hr hlocks hP hD hS (Nat.le_of_ble_eq_true rfl) (Nat.le_of_ble_eq_true rfl) dX3_perform_403 hok
                            · have hok := hok.2 k_11_13
                              by_cases k_11_14 : a2 = 15
                              · have hok := hok.1 k_11_14
                                rw [k_11_14]
                                refine lv_tableIn (off := 213) (tgt := 224) hx hb dX3_perform_11 (by decide) (by decide) (by decide) (by decide) ?_
                                refine lv_aload_n hx hb dX3_perform_224 rfl (lv_at hl 1 rfl) ?_
                                refine yVv (As := []) (cw := (cW o u cI cZ cJ 79)) (ci := 3) S (v_X3_goBack_t80 l D cI cZ cJ o u ra ga σ _ H.size hok) mi_X3_goBack kw_3_93 rfl rfl ⟨Nat.le_of_ble_eq_true rfl, Nat.le_of_ble_eq_true rfl⟩ hP hD hK hS hA hB cW_65 rfl rfl hl.1 (Nat.le_of_ble_eq_true rfl) ⟨Nat.le_of_ble_eq_true rfl, Nat.le_of_ble_eq_true rfl⟩ dX3_perform_225 (fun σ26 H locs hok hz hP hD hS => ?_)
                                refine lv_goto (tgt := 403) hx hb dX3_perform_228 (by decide) ?_
                                exact yEndv S hr hlocks hP hD hS (Nat.le_of_ble_eq_true rfl) (Nat.le_of_ble_eq_true rfl) dX3_perform_403 hok
                              · have hok := hok.2 k_11_14
                                by_cases k_11_15 : a2 = 16
                                · have hok := hok.1 k_11_15
                                  rw [k_11_15]
                                  refine lv_tableIn (off := 220) (tgt := 231) hx hb dX3_perform_11 (by decide) (by decide) (by decide) (by decide) ?_
                                  refine lv_aload_n hx hb dX3_perform_231 rfl (lv_at hl 1 rfl) ?_
                                  refine lv_aload_n hx hb dX3_perform_232 rfl (lv_at hl 1 rfl) ?_
                                  refine lv_iload_n hx hb dX3_perform_233 rfl (lv_at hl 2 rfl) ?_
                                  refine yVi (As := [.int a1]) (cw := (cW o u cI cZ cJ 79)) (ci := 3) S (v_X3_cellOf l D cI cZ cJ o u 79 ra ga σ a1 _ H.size hok) mi_X3_cellOf kw_3_47 rfl rfl ⟨Nat.le_of_ble_eq_true rfl, Nat.le_of_ble_eq_true rfl⟩ hP hD hK hS hA hB cW_65 rfl rfl hl.1 (Nat.le_of_ble_eq_true rfl) ⟨Nat.le_of_ble_eq_true rfl, Nat.le_of_ble_eq_true rfl⟩ dX3_perform_234 (fun x28 σ27 H locs hok hz hP hD hS => ?_)
                                  refine yVv (As := [.int x28]) (cw := (cW o u cI cZ cJ 79)) (ci := 3) S (v_X3_copy l D cI cZ cJ o u 79 ra ga σ27 x28 _ H.size hok) mi_X3_copy kw_3_97 rfl rfl ⟨Nat.le_of_ble_eq_true rfl, Nat.le_of_ble_eq_true rfl⟩ hP hD hK hS hA hB cW_65 rfl rfl hl.1 (Nat.le_of_ble_eq_true rfl) ⟨Nat.le_of_ble_eq_true rfl, Nat.le_of_ble_eq_true rfl⟩ dX3_perform_237 (fun σ29 H locs hok hz hP hD hS => ?_)
                                  refine lv_goto (tgt := 403) hx hb dX3_perform_240 (by decide) ?_
                                  exact yEndv S hr hlocks hP hD hS (Nat.le_of_ble_eq_true rfl) (Nat.le_of_ble_eq_true rfl) dX3_perform_403 hok
                                · have hok := hok.2 k_11_15
                                  by_cases k_11_16 : a2 = 17
                                  · have hok := hok.1 k_11_16
                                    rw [k_11_16]
                                    refine lv_tableIn (off := 232) (tgt := 243) hx hb dX3_perform_11 (by decide) (by decide) (by decide) (by decide) ?_
                                    refine lv_aload_n hx hb dX3_perform_243 rfl (lv_at hl 1 rfl) ?_
                                    refine lv_aload_n hx hb dX3_perform_244 rfl (lv_at hl 1 rfl) ?_
                                    refine lv_iload_n hx hb dX3_perform_245 rfl (lv_at hl 2 rfl) ?_
                                    refine yVi (As := [.int a1]) (cw := (cW o u cI cZ cJ 79)) (ci := 3) S (v_X3_cellOf l D cI cZ cJ o u 79 ra ga σ a1 _ H.size hok) mi_X3_cellOf kw_3_47 rfl rfl ⟨Nat.le_of_ble_eq_true rfl, Nat.le_of_ble_eq_true rfl⟩ hP hD hK hS hA hB cW_65 rfl rfl hl.1 (Nat.le_of_ble_eq_true rfl) ⟨Nat.le_of_ble_eq_true rfl, Nat.le_of_ble_eq_true rfl⟩ dX3_perform_246 (fun x31 σ30 H locs hok hz hP hD hS => ?_)
                                    refine yVv (As := [.int x31]) (cw := (cW o u cI cZ cJ 79)) (ci := 3) S (v_X3_pushCell l D cI cZ cJ o u 79 ra ga σ30 x31 _ H.size hok) mi_X3_pushCell kw_3_59 rfl rfl ⟨Nat.le_of_ble_eq_true rfl, Nat.le_of_ble_eq_true rfl⟩ hP hD hK hS hA hB cW_65 rfl rfl hl.1 (Nat.le_of_ble_eq_true rfl) ⟨Nat.le_of_ble_eq_true rfl, Nat.le_of_ble_eq_true rfl⟩ dX3_perform_249 (fun σ32 H locs hok hz hP hD hS => ?_)
                                    refine lv_goto (tgt := 403) hx hb dX3_perform_252 (by decide) ?_
                                    exact yEndv S hr hlocks hP hD hS (Nat.le_of_ble_eq_true rfl) (Nat.le_of_ble_eq_true rfl) dX3_perform_403 hok
                                  · have hok := hok.2 k_11_16
                                    by_cases k_11_17 : a2 = 18
                                    · have hok := hok.1 k_11_17
                                      rw [k_11_17]
                                      refine lv_tableIn (off := 244) (tgt := 255) hx hb dX3_perform_11 (by decide) (by decide) (by decide) (by decide) ?_
                                      refine lv_aload_n hx hb dX3_perform_255 rfl (lv_at hl 1 rfl) ?_
                                      refine lv_aload_n hx hb dX3_perform_256 rfl (lv_at hl 1 rfl) ?_
                                      refine xg (ci := 3) S inX3 rfl hK hP cW_65 3 (by decide) rfl kw_5_132 rfl dX3_perform_257 ?_
                                      refine xg (ci := 0) S inX0 rfl hK hP cW_52 9 (by decide) rfl kw_4_234 rfl dX3_perform_260 ?_
                                      refine lv_iload_n hx hb dX3_perform_263 rfl (lv_at hl 2 rfl) ?_
                                      have h_264 := hok.1
                                      have hok := hok.2
                                      refine xiald (t0 := 0) (v := (g σ 57 a1)) S hK hP cW_57 rfl h_264 rfl dX3_perform_264 ?_
                                      refine lv_aload_n hx hb dX3_perform_265 rfl (lv_at hl 1 rfl) ?_
                                      refine lv_iload_n hx hb dX3_perform_266 rfl (lv_at hl 0 rfl) ?_
                                      refine yVi (As := [.int x1]) (cw := (cW o u cI cZ cJ 79)) (ci := 3) S (v_X3_frameAt l D cI cZ cJ o u 79 ra ga σ x1 _ H.size hok) mi_X3_frameAt kw_3_51 rfl rfl ⟨Nat.le_of_ble_eq_true rfl, Nat.le_of_ble_eq_true rfl⟩ hP hD hK hS hA hB cW_65 rfl rfl hl.1 (Nat.le_of_ble_eq_true rfl) ⟨Nat.le_of_ble_eq_true rfl, Nat.le_of_ble_eq_true rfl⟩ dX3_perform_267 (fun x34 σ33 H locs hok hz hP hD hS => ?_)
                                      refine yVv (As := [.int (g σ 57 a1), .int x34]) (cw := (cW o u cI cZ cJ 79)) (ci := 3) S (v_X3_push l D cI cZ cJ o u 79 ra ga σ33 (g σ 57 a1) x34 _ H.size hok) mi_X3_push kw_3_43 rfl rfl ⟨Nat.le_of_ble_eq_true rfl, Nat.le_of_ble_eq_true rfl⟩ hP hD hK hS hA hB cW_65 rfl rfl hl.1 (Nat.le_of_ble_eq_true rfl) ⟨Nat.le_of_ble_eq_true rfl, Nat.le_of_ble_eq_true rfl⟩ dX3_perform_270 (fun σ35 H locs hok hz hP hD hS => ?_)
                                      refine lv_goto (tgt := 403) hx hb dX3_perform_273 (by decide) ?_
                                      exact yEndv S hr hlocks hP hD hS (Nat.le_of_ble_eq_true rfl) (Nat.le_of_ble_eq_true rfl) dX3_perform_403 hok
                                    · have hok := hok.2 k_11_17
                                      by_cases k_11_18 : a2 = 19
                                      · have hok := hok.1 k_11_18
                                        rw [k_11_18]
                                        refine lv_tableIn (off := 265) (tgt := 276) hx hb dX3_perform_11 (by decide) (by decide) (by decide) (by decide) ?_
                                        refine lv_aload_n hx hb dX3_perform_276 rfl (lv_at hl 1 rfl) ?_
                                        refine lv_aload_n hx hb dX3_perform_277 rfl (lv_at hl 1 rfl) ?_
                                        refine lv_iload_n hx hb dX3_perform_278 rfl (lv_at hl 2 rfl) ?_
                                        refine yVi (As := [.int a1]) (cw := (cW o u cI cZ cJ 79)) (ci := 3) S (v_X3_cellOf l D cI cZ cJ o u 79 ra ga σ a1 _ H.size hok) mi_X3_cellOf kw_3_47 rfl rfl ⟨Nat.le_of_ble_eq_true rfl, Nat.le_of_ble_eq_true rfl⟩ hP hD hK hS hA hB cW_65 rfl rfl hl.1 (Nat.le_of_ble_eq_true rfl) ⟨Nat.le_of_ble_eq_true rfl, Nat.le_of_ble_eq_true rfl⟩ dX3_perform_279 (fun x37 σ36 H locs hok hz hP hD hS => ?_)
                                        refine lv_iload_n hx hb dX3_perform_282 rfl (lv_at hl 2 rfl) ?_
                                        refine yVv (As := [.int x37, .int a1]) (cw := (cW o u cI cZ cJ 79)) (ci := 3) S (v_X3_put l D cI cZ cJ o u 79 ra ga σ36 x37 a1 _ H.size hok) mi_X3_put kw_3_101 rfl rfl ⟨Nat.le_of_ble_eq_true rfl, Nat.le_of_ble_eq_true rfl⟩ hP hD hK hS hA hB cW_65 rfl rfl hl.1 (Nat.le_of_ble_eq_true rfl) ⟨Nat.le_of_ble_eq_true rfl, Nat.le_of_ble_eq_true rfl⟩ dX3_perform_283 (fun σ38 H locs hok hz hP hD hS => ?_)
                                        refine lv_goto (tgt := 403) hx hb dX3_perform_286 (by decide) ?_
                                        exact yEndv S hr hlocks hP hD hS (Nat.le_of_ble_eq_true rfl) (Nat.le_of_ble_eq_true rfl) dX3_perform_403 hok
                                      · have hok := hok.2 k_11_18
                                        by_cases k_11_19 : a2 = 20
                                        · have hok := hok.1 k_11_19
                                          rw [k_11_19]
                                          refine lv_tableIn (off := 278) (tgt := 289) hx hb dX3_perform_11 (by decide) (by decide) (by decide) (by decide) ?_
                                          refine lv_aload_n hx hb dX3_perform_289 rfl (lv_at hl 1 rfl) ?_
                                          refine lv_aload_n hx hb dX3_perform_290 rfl (lv_at hl 1 rfl) ?_
                                          refine lv_iload_n hx hb dX3_perform_291 rfl (lv_at hl 2 rfl) ?_
                                          refine yVi (As := [.int a1]) (cw := (cW o u cI cZ cJ 79)) (ci := 3) S (v_X3_cellOf l D cI cZ cJ o u 79 ra ga σ a1 _ H.size hok) mi_X3_cellOf kw_3_47 rfl rfl ⟨Nat.le_of_ble_eq_true rfl, Nat.le_of_ble_eq_true rfl⟩ hP hD hK hS hA hB cW_65 rfl rfl hl.1 (Nat.le_of_ble_eq_true rfl) ⟨Nat.le_of_ble_eq_true rfl, Nat.le_of_ble_eq_true rfl⟩ dX3_perform_292 (fun x40 σ39 H locs hok hz hP hD hS => ?_)
                                          refine lv_iload_n hx hb dX3_perform_295 rfl (lv_at hl 2 rfl) ?_
                                          refine yVv (As := [.int x40, .int a1]) (cw := (cW o u cI cZ cJ 79)) (ci := 3) S (v_X3_stow_t80 l D cI cZ cJ o u ra ga σ39 x40 a1 _ H.size hok) mi_X3_stow kw_3_105 rfl rfl ⟨Nat.le_of_ble_eq_true rfl, Nat.le_of_ble_eq_true rfl⟩ hP hD hK hS hA hB cW_65 rfl rfl hl.1 (Nat.le_of_ble_eq_true rfl) ⟨Nat.le_of_ble_eq_true rfl, Nat.le_of_ble_eq_true rfl⟩ dX3_perform_296 (fun σ41 H locs hok hz hP hD hS => ?_)
                                          refine lv_goto (tgt := 403) hx hb dX3_perform_299 (by decide) ?_
                                          exact yEndv S hr hlocks hP hD hS (Nat.le_of_ble_eq_true rfl) (Nat.le_of_ble_eq_true rfl) dX3_perform_403 hok
                                        · have hok := hok.2 k_11_19
                                          by_cases k_11_20 : a2 = 21
                                          · have hok := hok.1 k_11_20
                                            rw [k_11_20]
                                            refine lv_tableIn (off := 291) (tgt := 302) hx hb dX3_perform_11 (by decide) (by decide) (by decide) (by decide) ?_
                                            refine lv_aload_n hx hb dX3_perform_302 rfl (lv_at hl 1 rfl) ?_
                                            refine lv_aload_n hx hb dX3_perform_303 rfl (lv_at hl 1 rfl) ?_
                                            refine yVi (As := []) (cw := (cW o u cI cZ cJ 79)) (ci := 3) S (v_X3_pop l D cI cZ cJ o u 79 ra ga σ _ H.size hok) mi_X3_pop kw_3_67 rfl rfl ⟨Nat.le_of_ble_eq_true rfl, Nat.le_of_ble_eq_true rfl⟩ hP hD hK hS hA hB cW_65 rfl rfl hl.1 (Nat.le_of_ble_eq_true rfl) ⟨Nat.le_of_ble_eq_true rfl, Nat.le_of_ble_eq_true rfl⟩ dX3_perform_304 (fun x43 σ42 H locs hok hz hP hD hS => ?_)
                                            refine lv_if_ne (tgt := 314) hx hb dX3_perform_307 (by decide) (fun c_307 => ?_) (fun c_307 => ?_)
                                            · have hok := hok.2 c_307
                                              refine lv_iconst (v := 0) hx hb dX3_perform_314 (by decide) ?_
                                              refine lv_iload_n hx hb dX3_perform_315 rfl (lv_at hl 0 rfl) ?_
                                              refine yVv (As := [.int 0, .int x1]) (cw := (cW o u cI cZ cJ 79)) (ci := 3) S (v_X3_skip l D cI cZ cJ o u 79 ra ga σ42 0 x1 _ H.size hok) mi_X3_skip kw_3_89 rfl rfl ⟨Nat.le_of_ble_eq_true rfl, Nat.le_of_ble_eq_true rfl⟩ hP hD hK hS hA hB cW_65 rfl rfl hl.1 (Nat.le_of_ble_eq_true rfl) ⟨Nat.le_of_ble_eq_true rfl, Nat.le_of_ble_eq_true rfl⟩ dX3_perform_316 (fun σ44 H locs hok hz hP hD hS => ?_)
                                              refine lv_goto (tgt := 403) hx hb dX3_perform_319 (by decide) ?_
                                              exact yEndv S hr hlocks hP hD hS (Nat.le_of_ble_eq_true rfl) (Nat.le_of_ble_eq_true rfl) dX3_perform_403 hok
                                            · have hok := hok.1 c_307
                                              refine lv_iconst (v := 1) hx hb dX3_perform_310 (by decide) ?_
                                              refine lv_goto (tgt := 315) hx hb dX3_perform_311 (by decide) ?_
                                              refine lv_iload_n hx hb dX3_perform_315 rfl (lv_at hl 0 rfl) ?_
                                              refine yVv (As := [.int 1, .int x1]) (cw := (cW o u cI cZ cJ 79)) (ci := 3) S (v_X3_skip l D cI cZ cJ o u 79 ra ga σ42 1 x1 _ H.size hok) mi_X3_skip kw_3_89 rfl rfl ⟨Nat.le_of_ble_eq_true rfl, Nat.le_of_ble_eq_true rfl⟩ hP hD hK hS hA hB cW_65 rfl rfl hl.1 (Nat.le_of_ble_eq_true rfl) ⟨Nat.le_of_ble_eq_true rfl, Nat.le_of_ble_eq_true rfl⟩ dX3_perform_316 (fun σ45 H locs hok hz hP hD hS => ?_)
                                              refine lv_goto (tgt := 403) hx hb dX3_perform_319 (by decide) ?_
                                              exact yEndv S hr hlocks hP hD hS (Nat.le_of_ble_eq_true rfl) (Nat.le_of_ble_eq_true rfl) dX3_perform_403 hok
                                          · have hok := hok.2 k_11_20
                                            by_cases k_11_21 : a2 = 22
                                            · have hok := hok.1 k_11_21
                                              rw [k_11_21]
                                              refine lv_tableIn (off := 311) (tgt := 322) hx hb dX3_perform_11 (by decide) (by decide) (by decide) (by decide) ?_
                                              refine lv_aload_n hx hb dX3_perform_322 rfl (lv_at hl 1 rfl) ?_
                                              refine lv_iconst (v := 1) hx hb dX3_perform_323 (by decide) ?_
                                              refine lv_iload_n hx hb dX3_perform_324 rfl (lv_at hl 0 rfl) ?_
                                              refine yVv (As := [.int 1, .int x1]) (cw := (cW o u cI cZ cJ 79)) (ci := 3) S (v_X3_skip l D cI cZ cJ o u 79 ra ga σ 1 x1 _ H.size hok) mi_X3_skip kw_3_89 rfl rfl ⟨Nat.le_of_ble_eq_true rfl, Nat.le_of_ble_eq_true rfl⟩ hP hD hK hS hA hB cW_65 rfl rfl hl.1 (Nat.le_of_ble_eq_true rfl) ⟨Nat.le_of_ble_eq_true rfl, Nat.le_of_ble_eq_true rfl⟩ dX3_perform_325 (fun σ46 H locs hok hz hP hD hS => ?_)
                                              refine lv_goto (tgt := 403) hx hb dX3_perform_328 (by decide) ?_
                                              exact yEndv S hr hlocks hP hD hS (Nat.le_of_ble_eq_true rfl) (Nat.le_of_ble_eq_true rfl) dX3_perform_403 hok
                                            · have hok := hok.2 k_11_21
                                              by_cases k_11_22 : a2 = 23
                                              · have hok := hok.1 k_11_22
                                                rw [k_11_22]
                                                refine lv_tableIn (off := 320) (tgt := 331) hx hb dX3_perform_11 (by decide) (by decide) (by decide) (by decide) ?_
                                                refine lv_aload_n hx hb dX3_perform_331 rfl (lv_at hl 1 rfl) ?_
                                                refine lv_iload_n hx hb dX3_perform_332 rfl (lv_at hl 2 rfl) ?_
                                                refine yVv (As := [.int a1]) (cw := (cW o u cI cZ cJ 79)) (ci := 3) S (v_X3_open l D cI cZ cJ o u 79 ra ga σ a1 _ H.size hok) mi_X3_open kw_3_109 rfl rfl ⟨Nat.le_of_ble_eq_true rfl, Nat.le_of_ble_eq_true rfl⟩ hP hD hK hS hA hB cW_65 rfl rfl hl.1 (Nat.le_of_ble_eq_true rfl) ⟨Nat.le_of_ble_eq_true rfl, Nat.le_of_ble_eq_true rfl⟩ dX3_perform_333 (fun σ47 H locs hok hz hP hD hS => ?_)
                                                refine lv_goto (tgt := 403) hx hb dX3_perform_336 (by decide) ?_
                                                exact yEndv S hr hlocks hP hD hS (Nat.le_of_ble_eq_true rfl) (Nat.le_of_ble_eq_true rfl) dX3_perform_403 hok
                                              · have hok := hok.2 k_11_22
                                                by_cases k_11_23 : a2 = 24
                                                · have hok := hok.1 k_11_23
                                                  rw [k_11_23]
                                                  refine lv_tableIn (off := 328) (tgt := 339) hx hb dX3_perform_11 (by decide) (by decide) (by decide) (by decide) ?_
                                                  refine lv_aload_n hx hb dX3_perform_339 rfl (lv_at hl 1 rfl) ?_
                                                  refine xg (ci := 3) S inX3 rfl hK hP cW_65 8 (by decide) rfl kw_5_137 rfl dX3_perform_340 ?_
                                                  refine lv_aload_n hx hb dX3_perform_343 rfl (lv_at hl 1 rfl) ?_
                                                  refine xg (ci := 3) S inX3 rfl hK hP cW_65 8 (by decide) rfl kw_5_137 rfl dX3_perform_344 ?_
                                                  refine xg (ci := 7) S inX7 rfl hK hP cW_74 2 (by decide) rfl kw_5_57 rfl dX3_perform_347 ?_
                                                  refine lv_iconst (v := 1) hx hb dX3_perform_350 (by decide) ?_
                                                  refine xisub (v := (σ.1 74 2) - 1) S dX3_perform_351 rfl ?_
                                                  refine yVv (As := [.int ((σ.1 74 2) - 1)]) (cw := (cW o u cI cZ cJ 79)) (ci := 7) S (v_X7_cut_74 l D cI cZ cJ o u 79 ra ga σ ((σ.1 74 2) - 1) _ H.size hok) mi_X7_cut kw_2_212 rfl rfl ⟨Nat.le_of_ble_eq_true rfl, Nat.le_of_ble_eq_true rfl⟩ hP hD hK hS hA hB cW_74 rfl rfl hl.1 (Nat.le_of_ble_eq_true rfl) ⟨Nat.le_of_ble_eq_true rfl, Nat.le_of_ble_eq_true rfl⟩ dX3_perform_352 (fun σ48 H locs hok hz hP hD hS => ?_)
                                                  refine lv_goto (tgt := 403) hx hb dX3_perform_355 (by decide) ?_
                                                  exact yEndv S hr hlocks hP hD hS (Nat.le_of_ble_eq_true rfl) (Nat.le_of_ble_eq_true rfl) dX3_perform_403 hok
                                                · have hok := hok.2 k_11_23
                                                  by_cases k_11_24 : a2 = 25
                                                  · have hok := hok.1 k_11_24
                                                    rw [k_11_24]
                                                    refine lv_tableIn (off := 347) (tgt := 358) hx hb dX3_perform_11 (by decide) (by decide) (by decide) (by decide) ?_
                                                    refine lv_aload_n hx hb dX3_perform_358 rfl (lv_at hl 1 rfl) ?_
                                                    refine lv_iload_n hx hb dX3_perform_359 rfl (lv_at hl 2 rfl) ?_
                                                    refine yVv (As := [.int a1]) (cw := (cW o u cI cZ cJ 79)) (ci := 3) S (v_X3_leave_t80 l D cI cZ cJ o u ra ga σ a1 _ H.size hok) mi_X3_leave kw_3_113 rfl rfl ⟨Nat.le_of_ble_eq_true rfl, Nat.le_of_ble_eq_true rfl⟩ hP hD hK hS hA hB cW_65 rfl rfl hl.1 (Nat.le_of_ble_eq_true rfl) ⟨Nat.le_of_ble_eq_true rfl, Nat.le_of_ble_eq_true rfl⟩ dX3_perform_360 (fun σ49 H locs hok hz hP hD hS => ?_)
                                                    refine lv_goto (tgt := 403) hx hb dX3_perform_363 (by decide) ?_
                                                    exact yEndv S hr hlocks hP hD hS (Nat.le_of_ble_eq_true rfl) (Nat.le_of_ble_eq_true rfl) dX3_perform_403 hok
                                                  · have hok := hok.2 k_11_24
                                                    by_cases k_11_25 : a2 = 26
                                                    · have hok := hok.1 k_11_25
                                                      rw [k_11_25]
                                                      refine lv_tableIn (off := 355) (tgt := 366) hx hb dX3_perform_11 (by decide) (by decide) (by decide) (by decide) ?_
                                                      refine lv_aload_n hx hb dX3_perform_366 rfl (lv_at hl 1 rfl) ?_
                                                      refine xg (ci := 3) S inX3 rfl hK hP cW_65 9 (by decide) rfl kw_5_138 rfl dX3_perform_367 ?_
                                                      refine lv_aload_n hx hb dX3_perform_370 rfl (lv_at hl 1 rfl) ?_
                                                      refine yVi (As := []) (cw := (cW o u cI cZ cJ 79)) (ci := 3) S (v_X3_pop l D cI cZ cJ o u 79 ra ga σ _ H.size hok) mi_X3_pop kw_3_67 rfl rfl ⟨Nat.le_of_ble_eq_true rfl, Nat.le_of_ble_eq_true rfl⟩ hP hD hK hS hA hB cW_65 rfl rfl hl.1 (Nat.le_of_ble_eq_true rfl) ⟨Nat.le_of_ble_eq_true rfl, Nat.le_of_ble_eq_true rfl⟩ dX3_perform_371 (fun x51 σ50 H locs hok hz hP hD hS => ?_)
                                                      refine lv_aload_n hx hb dX3_perform_374 rfl (lv_at hl 1 rfl) ?_
                                                      refine xg (ci := 3) S inX3 rfl hK hP cW_65 3 (by decide) rfl kw_5_132 rfl dX3_perform_375 ?_
                                                      refine xg (ci := 0) S inX0 rfl hK hP cW_52 10 (by decide) rfl kw_4_237 rfl dX3_perform_378 ?_
                                                      refine lv_iload_n hx hb dX3_perform_381 rfl (lv_at hl 2 rfl) ?_
                                                      have h_382 := hok.1
                                                      have hok := hok.2
                                                      refine xiald (t0 := 0) (v := (g σ50 58 a1)) S hK hP cW_58 rfl h_382 rfl dX3_perform_382 ?_
                                                      refine yVv (As := [.int x51, .int (g σ50 58 a1)]) (cw := (cW o u cI cZ cJ 79)) (ci := 6) S (v_X6_print_80 l D cI cZ cJ o u 79 ra ga σ50 x51 (g σ50 58 a1) _ H.size hok) mi_X6_print kw_3_121 rfl rfl ⟨Nat.le_of_ble_eq_true rfl, Nat.le_of_ble_eq_true rfl⟩ hP hD hK hS hA hB cW_80 rfl rfl hl.1 (Nat.le_of_ble_eq_true rfl) ⟨Nat.le_of_ble_eq_true rfl, Nat.le_of_ble_eq_true rfl⟩ dX3_perform_383 (fun σ52 H locs hok hz hP hD hS => ?_)
                                                      refine lv_goto (tgt := 403) hx hb dX3_perform_386 (by decide) ?_
                                                      exact yEndv S hr hlocks hP hD hS (Nat.le_of_ble_eq_true rfl) (Nat.le_of_ble_eq_true rfl) dX3_perform_403 hok
                                                    · have hok := hok.2 k_11_25
                                                      by_cases k_11_26 : a2 = 27
                                                      · have hok := hok.1 k_11_26
                                                        rw [k_11_26]
                                                        refine lv_tableIn (off := 378) (tgt := 389) hx hb dX3_perform_11 (by decide) (by decide) (by decide) (by decide) ?_
                                                        refine lv_aload_n hx hb dX3_perform_389 rfl (lv_at hl 1 rfl) ?_
                                                        refine yVi (As := []) (cw := (cW o u cI cZ cJ 79)) (ci := 3) S (v_X3_pop l D cI cZ cJ o u 79 ra ga σ _ H.size hok) mi_X3_pop kw_3_67 rfl rfl ⟨Nat.le_of_ble_eq_true rfl, Nat.le_of_ble_eq_true rfl⟩ hP hD hK hS hA hB cW_65 rfl rfl hl.1 (Nat.le_of_ble_eq_true rfl) ⟨Nat.le_of_ble_eq_true rfl, Nat.le_of_ble_eq_true rfl⟩ dX3_perform_390 (fun x54 σ53 H locs hok hz hP hD hS => ?_)
                                                        refine lv_pop hx hb dX3_perform_393 rfl ?_
                                                        refine lv_goto (tgt := 403) hx hb dX3_perform_394 (by decide) ?_
                                                        exact yEndv S hr hlocks hP hD hS (Nat.le_of_ble_eq_true rfl) (Nat.le_of_ble_eq_true rfl) dX3_perform_403 hok
                                                      · have hok := hok.2 k_11_26
                                                        have q_11_0 := sw_ni k_11_0 (z := 1) (by decide)
                                                        have q_11_1 := sw_ni k_11_1 (z := 2) (by decide)
                                                        have q_11_2 := sw_ni k_11_2 (z := 3) (by decide)
                                                        have q_11_3 := sw_ni k_11_3 (z := 4) (by decide)
                                                        have q_11_4 := sw_ni k_11_4 (z := 5) (by decide)
                                                        have q_11_5 := sw_ni k_11_5 (z := 6) (by decide)
                                                        have q_11_6 := sw_ni k_11_6 (z := 7) (by decide)
                                                        have q_11_7 := sw_ni k_11_7 (z := 8) (by decide)
                                                        have q_11_8 := sw_ni k_11_8 (z := 9) (by decide)
                                                        have q_11_9 := sw_ni k_11_9 (z := 10) (by decide)
                                                        have q_11_10 := sw_ni k_11_10 (z := 11) (by decide)
                                                        have q_11_11 := sw_ni k_11_11 (z := 12) (by decide)
                                                        have q_11_12 := sw_ni k_11_12 (z := 13) (by decide)
                                                        have q_11_13 := sw_ni k_11_13 (z := 14) (by decide)
                                                        have q_11_14 := sw_ni k_11_14 (z := 15) (by decide)
                                                        have q_11_15 := sw_ni k_11_15 (z := 16) (by decide)
                                                        have q_11_16 := sw_ni k_11_16 (z := 17) (by decide)
                                                        have q_11_17 := sw_ni k_11_17 (z := 18) (by decide)
                                                        have q_11_18 := sw_ni k_11_18 (z := 19) (by decide)
                                                        have q_11_19 := sw_ni k_11_19 (z := 20) (by decide)
                                                        have q_11_20 := sw_ni k_11_20 (z := 21) (by decide)
                                                        have q_11_21 := sw_ni k_11_21 (z := 22) (by decide)
                                                        have q_11_22 := sw_ni k_11_22 (z := 23) (by decide)
                                                        have q_11_23 := sw_ni k_11_23 (z := 24) (by decide)
                                                        have q_11_24 := sw_ni k_11_24 (z := 25) (by decide)
                                                        have q_11_25 := sw_ni k_11_25 (z := 26) (by decide)
                                                        have q_11_26 := sw_ni k_11_26 (z := 27) (by decide)
                                                        refine lv_tableOut (tgt := 397) hx hb dX3_perform_11 (by omega) (by decide) ?_
                                                        refine lv_aload_n hx hb dX3_perform_397 rfl (lv_at hl 1 rfl) ?_
                                                        refine lv_iload_n hx hb dX3_perform_398 rfl (lv_at hl 2 rfl) ?_
                                                        refine lv_iload_n hx hb dX3_perform_399 rfl (lv_at hl 3 rfl) ?_
                                                        refine yVv (As := [.int a1, .int a2]) (cw := (cW o u cI cZ cJ 79)) (ci := 3) S (v_X3_reckon_t80 l D cI cZ cJ o u ra ga σ a1 a2 _ H.size hok) mi_X3_reckon kw_3_125 rfl rfl ⟨Nat.le_of_ble_eq_true rfl, Nat.le_of_ble_eq_true rfl⟩ hP hD hK hS hA hB cW_65 rfl rfl hl.1 (Nat.le_of_ble_eq_true rfl) ⟨Nat.le_of_ble_eq_true rfl, Nat.le_of_ble_eq_true rfl⟩ dX3_perform_400 (fun σ55 H locs hok hz hP hD hS => ?_)
                                                        exact yEndv S hr hlocks hP hD hS (Nat.le_of_ble_eq_true rfl) (Nat.le_of_ble_eq_true rfl) dX3_perform_403 hok
