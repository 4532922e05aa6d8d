set_option maxHeartbeats 8000000 in
set_option maxRecDepth 100000 in
theorem v_X8_needArgument (l : Launch) (D : va_G) (cI cZ cJ : ClassId) (o : Nat) (u : Nat → Nat) (T : Nat) (ra : Nat → Nat) (ga : SG) (σ : FS) (a1 : Int32) (Φ : FS → Prop) (sz : Nat) (hok : (wp_X8_needArgument σ a1 Φ)) : Met l yX8_needArgument (uW yX8_needArgument cX8_needArgument 1 none) ({ frames := 0, cells := 0, slots := 0, locals := 0 }) (va_Pc [.int a1] (aS ra ga D (tyL cI cZ cJ) (cW o u cI cZ cJ T σ) sz)) (yQv Φ D (cW o u cI cZ cJ T) (va_A (cW o u cI cZ cJ T σ) sz)) 0 0 (va_A (cW o u cI cZ cJ T σ) sz) := by
  refine aStart (lv := [(0, .int a1)]) (Qc := fun A => yQv Φ D (cW o u cI cZ cJ T) A) (by decide) (Nat.le_of_ble_eq_true rfl) rfl ?_
  intro p e s m args below meth c ls A H S hr hlocks hnm hl hK hP hD hS hA hB
  have hx := S.1
  have hb := S.2.1
  refine lv_iload_n hx hb dX8_needArgument_0 rfl (lv_at hl 0 rfl) ?_
  refine lv_if_ne (tgt := 15) hx hb dX8_needArgument_1 (by decide) (fun c_1 => ?_) (fun c_1 => ?_)
  · have hok := hok.2 c_1
    exact yEndv S hr hlocks hP hD hS (Nat.le_of_ble_eq_true rfl) (Nat.le_of_ble_eq_true rfl) dX8_needArgument_15 hok
  · have hok := hok.1 c_1
    exact False.elim hok

set_option maxHeartbeats 8000000 in
set_option maxRecDepth 100000 in
theorem v_X4_findWhereNodesAre (l : Launch) (D : va_G) (cI cZ cJ : ClassId) (o : Nat) (u : Nat → Nat) (T : Nat) (ra : Nat → Nat) (ga : SG) (σ : FS) (Φ : FS → Prop) (sz : Nat) (hok : (wp_X4_findWhereNodesAre σ Φ)) : Met l yX4_findWhereNodesAre (uW yX4_findWhereNodesAre cX4_findWhereNodesAre 2 none) ({ frames := 0, cells := 0, slots := 0, locals := 0 }) (va_Pc [.ref (u 19)] (aS ra ga D (tyL cI cZ cJ) (cW o u cI cZ cJ T σ) sz)) (yQv Φ D (cW o u cI cZ cJ T) (va_A (cW o u cI cZ cJ T σ) sz)) 0 0 (va_A (cW o u cI cZ cJ T σ) sz) := by
  refine aStart (lv := [(0, .ref (u 19))]) (Qc := fun A => yQv Φ D (cW o u cI cZ cJ T) A) (by decide) (Nat.le_of_ble_eq_true rfl) rfl ?_
  intro p e s m args below meth c ls A H S hr hlocks hnm hl hK hP hD hS hA hB
  have hx := S.1
  have hb := S.2.1
  refine lv_aload_n hx hb dX4_findWhereNodesAre_0 rfl (lv_at hl 0 rfl) ?_
  refine xg (ci := 4) S inX4 rfl hK hP cW_20 1 (by decide) rfl kw_4_88 rfl dX4_findWhereNodesAre_1 ?_
  refine xg (ci := 5) S inX5 rfl hK hP cW_13 0 (by decide) rfl kw_4_38 rfl dX4_findWhereNodesAre_4 ?_
  refine lv_iconst (v := 1) hx hb dX4_findWhereNodesAre_7 (by decide) ?_
  refine xisub (v := (σ.1 13 0) - 1) S dX4_findWhereNodesAre_8 rfl ?_
  refine lv_topi (fun x1 ex1 => ?_)
  have hok := hok x1 ex1
  refine lv_istore_n (lv' := [(1, .int x1), (0, .ref (u 19))]) hx hb dX4_findWhereNodesAre_9 rfl hl (by decide) rfl (fun ls hl => ?_)
  have lp10 : ∀ (K : FS → Int32 → Prop), (∀ (τ0 : FS) (l1_0 : Int32) (H : Heap) (locs : List Loc) (ls : Array Slot), K τ0 l1_0 → lv_has ls 2 [(1, .int l1_0), (0, .ref (u 19))] → va_P D vwCl (cW o u cI cZ cJ T τ0) H → va_D A (cW o u cI cZ cJ T τ0) → va_S A s.heap H locs → W p l e ({ frames := 0, cells := 0, slots := 0, locals := 0 }) s m args below meth c H locs 0 0 (MQ below (yQv Φ D (cW o u cI cZ cJ T) A) args s 0 0 A) (F0 m 88 ls [])) → ∀ (n0 : Nat) (τ0 : FS) (l1_0 : Int32) (H : Heap) (locs : List Loc) (ls : Array Slot), wp_X4_findWhereNodesAre_10 Φ K n0 τ0 l1_0 → lv_has ls 2 [(1, .int l1_0), (0, .ref (u 19))] → va_P D vwCl (cW o u cI cZ cJ T τ0) H → va_D A (cW o u cI cZ cJ T τ0) → va_S A s.heap H locs → W p l e ({ frames := 0, cells := 0, slots := 0, locals := 0 }) s m args below meth c H locs 0 0 (MQ below (yQv Φ D (cW o u cI cZ cJ T) A) args s 0 0 A) (F0 m 10 ls []) := by
    intro K hk n0
    induction n0 with
    | zero => intro τ0 l1_0 H locs ls hok; exact False.elim hok
    | succ n0 ih10 =>
      intro τ0 l1_0 H locs ls hok hl hP hD hS
      refine lv_iload_n hx hb dX4_findWhereNodesAre_10 rfl (lv_at hl 0 rfl) ?_
      refine lv_if_lt (tgt := 88) hx hb dX4_findWhereNodesAre_11 (by decide) (fun c_11 => ?_) (fun c_11 => ?_)
      · have hok := hok.1 c_11
        exact hk τ0 l1_0 H locs ls hok (lv_sub hl [0, 1] rfl) hP hD hS
      · have hok := hok.2 c_11
        refine lv_aload_n hx hb dX4_findWhereNodesAre_14 rfl (lv_at hl 1 rfl) ?_
        refine xg (ci := 4) S inX4 rfl hK hP cW_20 1 (by decide) rfl kw_4_88 rfl dX4_findWhereNodesAre_15 ?_
        refine xg (ci := 5) S inX5 rfl hK hP cW_13 6 (by decide) rfl kw_4_65 rfl dX4_findWhereNodesAre_18 ?_
        refine lv_iload_n hx hb dX4_findWhereNodesAre_21 rfl (lv_at hl 0 rfl) ?_
        have h_22 := hok.1
        have hok := hok.2
        refine xiald (t0 := 0) (v := (g τ0 19 l1_0)) S hK hP cW_19 rfl h_22 rfl dX4_findWhereNodesAre_22 ?_
        refine lv_iconst (v := (-1)) hx hb dX4_findWhereNodesAre_23 (by decide) ?_
        refine lv_icmp_eq (tgt := 45) hx hb dX4_findWhereNodesAre_24 (by decide) (fun c_24 => ?_) (fun c_24 => ?_)
        · have hok := hok.1 c_24
          refine lv_aload_n hx hb dX4_findWhereNodesAre_45 rfl (lv_at hl 1 rfl) ?_
          refine xg (ci := 4) S inX4 rfl hK hP cW_20 2 (by decide) rfl kw_4_89 rfl dX4_findWhereNodesAre_46 ?_
          refine lv_iload_n hx hb dX4_findWhereNodesAre_49 rfl (lv_at hl 0 rfl) ?_
          refine lv_aload_n hx hb dX4_findWhereNodesAre_50 rfl (lv_at hl 1 rfl) ?_
          refine xg (ci := 4) S inX4 rfl hK hP cW_20 1 (by decide) rfl kw_4_88 rfl dX4_findWhereNodesAre_51 ?_
          refine xg (ci := 5) S inX5 rfl hK hP cW_13 5 (by decide) rfl kw_4_61 rfl dX4_findWhereNodesAre_54 ?_
          refine lv_iload_n hx hb dX4_findWhereNodesAre_57 rfl (lv_at hl 0 rfl) ?_
          have h_58 := hok.1
          have hok := hok.2
          refine xiald (t0 := 0) (v := (g τ0 18 l1_0)) S hK hP cW_18 rfl h_58 rfl dX4_findWhereNodesAre_58 ?_
          refine lv_iconst (v := (-1)) hx hb dX4_findWhereNodesAre_59 (by decide) ?_
          refine lv_icmp_ne (tgt := 67) hx hb dX4_findWhereNodesAre_60 (by decide) (fun c_60 => ?_) (fun c_60 => ?_)
          · have hok := hok.2 c_60
            refine lv_aload_n hx hb dX4_findWhereNodesAre_67 rfl (lv_at hl 1 rfl) ?_
            refine xg (ci := 4) S inX4 rfl hK hP cW_20 2 (by decide) rfl kw_4_89 rfl dX4_findWhereNodesAre_68 ?_
            refine lv_aload_n hx hb dX4_findWhereNodesAre_71 rfl (lv_at hl 1 rfl) ?_
            refine xg (ci := 4) S inX4 rfl hK hP cW_20 1 (by decide) rfl kw_4_88 rfl dX4_findWhereNodesAre_72 ?_
            refine xg (ci := 5) S inX5 rfl hK hP cW_13 5 (by decide) rfl kw_4_61 rfl dX4_findWhereNodesAre_75 ?_
            refine lv_iload_n hx hb dX4_findWhereNodesAre_78 rfl (lv_at hl 0 rfl) ?_
            have h_79 := hok.1
            have hok := hok.2
            refine xiald (t0 := 0) (v := (g τ0 18 l1_0)) S hK hP cW_18 rfl h_79 rfl dX4_findWhereNodesAre_79 ?_
            have h_80 := hok.1
            have hok := hok.2
            refine xiald (t0 := 0) (v := (g τ0 21 (g τ0 18 l1_0))) S hK hP cW_21 rfl h_80 rfl dX4_findWhereNodesAre_80 ?_
            have h_81 := hok.1
            have hok := hok.2
            refine yiast (t0 := 0) (cw := (cW o u cI cZ cJ T)) S hK hP hD hS cW_21 rfl h_81 dX4_findWhereNodesAre_81 cWa_21 (fun σ2 H locs eσ2 hP hD hS => ?_)
            have hok := hok σ2 eσ2
            refine lv_iinc (v := l1_0 + (-1)) (lv' := [(1, .int (l1_0 + (-1))), (0, .ref (u 19))]) hx hb dX4_findWhereNodesAre_82 hl (k := 0) rfl rfl (by decide) rfl (fun ls hl => ?_)
            refine lv_goto (tgt := 10) hx hb dX4_findWhereNodesAre_85 (by decide) ?_
            exact ih10 σ2 (l1_0 + (-1)) H locs ls hok (lv_sub hl [0, 1] rfl) hP hD hS
          · have hok := hok.1 c_60
            refine lv_iconst (v := (-1)) hx hb dX4_findWhereNodesAre_63 (by decide) ?_
            refine lv_goto (tgt := 81) hx hb dX4_findWhereNodesAre_64 (by decide) ?_
            have h_81 := hok.1
            have hok := hok.2
            refine yiast (t0 := 0) (cw := (cW o u cI cZ cJ T)) S hK hP hD hS cW_21 rfl h_81 dX4_findWhereNodesAre_81 cWa_21 (fun σ3 H locs eσ3 hP hD hS => ?_)
            have hok := hok σ3 eσ3
            refine lv_iinc (v := l1_0 + (-1)) (lv' := [(1, .int (l1_0 + (-1))), (0, .ref (u 19))]) hx hb dX4_findWhereNodesAre_82 hl (k := 0) rfl rfl (by decide) rfl (fun ls hl => ?_)
            refine lv_goto (tgt := 10) hx hb dX4_findWhereNodesAre_85 (by decide) ?_
            exact ih10 σ3 (l1_0 + (-1)) H locs ls hok (lv_sub hl [0, 1] rfl) hP hD hS
        · have hok := hok.2 c_24
          refine lv_aload_n hx hb dX4_findWhereNodesAre_27 rfl (lv_at hl 1 rfl) ?_
          refine xg (ci := 4) S inX4 rfl hK hP cW_20 2 (by decide) rfl kw_4_89 rfl dX4_findWhereNodesAre_28 ?_
          refine lv_iload_n hx hb dX4_findWhereNodesAre_31 rfl (lv_at hl 0 rfl) ?_
          refine lv_aload_n hx hb dX4_findWhereNodesAre_32 rfl (lv_at hl 1 rfl) ?_
          refine xg (ci := 4) S inX4 rfl hK hP cW_20 1 (by decide) rfl kw_4_88 rfl dX4_findWhereNodesAre_33 ?_
          refine xg (ci := 5) S inX5 rfl hK hP cW_13 6 (by decide) rfl kw_4_65 rfl dX4_findWhereNodesAre_36 ?_
          refine lv_iload_n hx hb dX4_findWhereNodesAre_39 rfl (lv_at hl 0 rfl) ?_
          have h_40 := hok.1
          have hok := hok.2
          refine xiald (t0 := 0) (v := (g τ0 19 l1_0)) S hK hP cW_19 rfl h_40 rfl dX4_findWhereNodesAre_40 ?_
          have h_41 := hok.1
          have hok := hok.2
          refine yiast (t0 := 0) (cw := (cW o u cI cZ cJ T)) S hK hP hD hS cW_21 rfl h_41 dX4_findWhereNodesAre_41 cWa_21 (fun σ4 H locs eσ4 hP hD hS => ?_)
          have hok := hok σ4 eσ4
          refine lv_goto (tgt := 82) hx hb dX4_findWhereNodesAre_42 (by decide) ?_
          refine lv_iinc (v := l1_0 + (-1)) (lv' := [(1, .int (l1_0 + (-1))), (0, .ref (u 19))]) hx hb dX4_findWhereNodesAre_82 hl (k := 0) rfl rfl (by decide) rfl (fun ls hl => ?_)
          refine lv_goto (tgt := 10) hx hb dX4_findWhereNodesAre_85 (by decide) ?_
          exact ih10 σ4 (l1_0 + (-1)) H locs ls hok (lv_sub hl [0, 1] rfl) hP hD hS
  refine lp10 _ ?_ FUEL σ x1 _ _ _ hok (lv_sub hl [0, 1] rfl) hP hD hS
  intro σ5 x6 H locs ls hok hl hP hD hS
  exact yEndv S hr hlocks hP hD hS (Nat.le_of_ble_eq_true rfl) (Nat.le_of_ble_eq_true rfl) dX4_findWhereNodesAre_88 hok

set_option maxHeartbeats 8000000 in
set_option maxRecDepth 100000 in
theorem v_X1_hopsTo (l : Launch) (D : va_G) (cI cZ cJ : ClassId) (o : Nat) (u : Nat → Nat) (T : Nat) (ra : Nat → Nat) (ga : SG) (σ : FS) (a1 : Int32) (a2 : Int32) (Φ : Int32 → FS → Prop) (sz : Nat) (hok : (wp_X1_hopsTo σ a1 a2 Φ)) : Met l yX1_hopsTo (uW yX1_hopsTo cX1_hopsTo 5 (some .int)) ({ frames := 0, cells := 0, slots := 0, locals := 0 }) (va_Pc [.ref (u 0), .int a1, .int a2] (aS ra ga D (tyL cI cZ cJ) (cW o u cI cZ cJ T σ) sz)) (yQi Φ D (cW o u cI cZ cJ T) (va_A (cW o u cI cZ cJ T σ) sz)) 0 0 (va_A (cW o u cI cZ cJ T σ) sz) := by
  refine aStart (lv := [(0, .ref (u 0)), (1, .int a1), (2, .int a2)]) (Qc := fun A => yQi Φ D (cW o u cI cZ cJ T) A) (by decide) (Nat.le_of_ble_eq_true rfl) rfl ?_
  intro p e s m args below meth c ls A H S hr hlocks hnm hl hK hP hD hS hA hB
  have hx := S.1
  have hb := S.2.1
  refine lv_iload_n hx hb dX1_hopsTo_0 rfl (lv_at hl 2 rfl) ?_
  refine lv_istore_n (lv' := [(3, .int a2), (0, .ref (u 0)), (1, .int a1), (2, .int a2)]) hx hb dX1_hopsTo_1 rfl hl (by decide) rfl (fun ls hl => ?_)
  refine lv_iconst (v := 0) hx hb dX1_hopsTo_2 (by decide) ?_
  refine lv_istore (lv' := [(4, .int 0), (3, .int a2), (0, .ref (u 0)), (1, .int a1), (2, .int a2)]) hx hb dX1_hopsTo_3 hl (by decide) rfl (fun ls hl => ?_)
  have lp5 : ∀ (K : FS → Int32 → Int32 → Prop), (∀ (τ0 : FS) (l4_0 : Int32) (l3_0 : Int32) (H : Heap) (locs : List Loc) (ls : Array Slot), K τ0 l4_0 l3_0 → lv_has ls 5 [(4, .int l4_0), (3, .int l3_0), (0, .ref (u 0)), (1, .int a1), (2, .int a2)] → va_P D vwCl (cW o u cI cZ cJ T τ0) H → va_D A (cW o u cI cZ cJ T τ0) → va_S A s.heap H locs → W p l e ({ frames := 0, cells := 0, slots := 0, locals := 0 }) s m args below meth c H locs 0 0 (MQ below (yQi Φ D (cW o u cI cZ cJ T) A) args s 0 0 A) (F0 m 35 ls [])) → ∀ (n0 : Nat) (τ0 : FS) (l4_0 : Int32) (l3_0 : Int32) (H : Heap) (locs : List Loc) (ls : Array Slot), wp_X1_hopsTo_5 a1 a2 Φ K n0 τ0 l4_0 l3_0 → lv_has ls 5 [(4, .int l4_0), (3, .int l3_0), (0, .ref (u 0)), (1, .int a1), (2, .int a2)] → va_P D vwCl (cW o u cI cZ cJ T τ0) H → va_D A (cW o u cI cZ cJ T τ0) → va_S A s.heap H locs → W p l e ({ frames := 0, cells := 0, slots := 0, locals := 0 }) s m args below meth c H locs 0 0 (MQ below (yQi Φ D (cW o u cI cZ cJ T) A) args s 0 0 A) (F0 m 5 ls []) := by
    intro K hk n0
    induction n0 with
    | zero => intro τ0 l4_0 l3_0 H locs ls hok; exact False.elim hok
    | succ n0 ih5 =>
      intro τ0 l4_0 l3_0 H locs ls hok hl hP hD hS
      refine lv_iload hx hb dX1_hopsTo_5 (lv_at hl 0 rfl) ?_
      refine lv_bipush (v := 10) hx hb dX1_hopsTo_7 (by decide) ?_
      refine lv_icmp_ge (tgt := 35) hx hb dX1_hopsTo_9 (by decide) (fun c_9 => ?_) (fun c_9 => ?_)
      · have hok := hok.1 c_9
        exact hk τ0 l4_0 l3_0 H locs ls hok (lv_sub hl [0, 1, 2, 3, 4] rfl) hP hD hS
      · have hok := hok.2 c_9
        refine lv_iload_n hx hb dX1_hopsTo_12 rfl (lv_at hl 1 rfl) ?_
        refine lv_iload_n hx hb dX1_hopsTo_13 rfl (lv_at hl 3 rfl) ?_
        refine lv_icmp_eq (tgt := 35) hx hb dX1_hopsTo_14 (by decide) (fun c_14 => ?_) (fun c_14 => ?_)
        · have hok := hok.1 c_14
          exact hk τ0 l4_0 l3_0 H locs ls hok (lv_sub hl [0, 1, 2, 3, 4] rfl) hP hD hS
        · have hok := hok.2 c_14
          refine lv_iload_n hx hb dX1_hopsTo_17 rfl (lv_at hl 1 rfl) ?_
          refine lv_iconst (v := (-1)) hx hb dX1_hopsTo_18 (by decide) ?_
          refine lv_icmp_eq (tgt := 35) hx hb dX1_hopsTo_19 (by decide) (fun c_19 => ?_) (fun c_19 => ?_)
          · have hok := hok.1 c_19
            exact hk τ0 l4_0 l3_0 H locs ls hok (lv_sub hl [0, 1, 2, 3, 4] rfl) hP hD hS
          · have hok := hok.2 c_19
            refine lv_aload_n hx hb dX1_hopsTo_22 rfl (lv_at hl 2 rfl) ?_
            refine xg (ci := 1) S inX1 rfl hK hP cW_1 1 (by decide) rfl kw_3_217 rfl dX1_hopsTo_23 ?_
            refine lv_iload_n hx hb dX1_hopsTo_26 rfl (lv_at hl 1 rfl) ?_
            have h_27 := hok.1
            have hok := hok.2
            refine xiald (t0 := 0) (v := (g τ0 2 l3_0)) S hK hP cW_2 rfl h_27 rfl dX1_hopsTo_27 ?_
            refine lv_topi (fun x1 ex1 => ?_)
            have hok := hok x1 ex1
            refine lv_istore_n (lv' := [(3, .int x1), (4, .int l4_0), (0, .ref (u 0)), (1, .int a1), (2, .int a2)]) hx hb dX1_hopsTo_28 rfl hl (by decide) rfl (fun ls hl => ?_)
            refine lv_iinc (v := l4_0 + 1) (lv' := [(4, .int (l4_0 + 1)), (3, .int x1), (0, .ref (u 0)), (1, .int a1), (2, .int a2)]) hx hb dX1_hopsTo_29 hl (k := 1) rfl rfl (by decide) rfl (fun ls hl => ?_)
            refine lv_goto (tgt := 5) hx hb dX1_hopsTo_32 (by decide) ?_
            exact ih5 τ0 (l4_0 + 1) x1 H locs ls hok (lv_sub hl [0, 1, 2, 3, 4] rfl) hP hD hS
  refine lp5 _ ?_ FUEL σ 0 a2 _ _ _ hok (lv_sub hl [0, 1, 2, 3, 4] rfl) hP hD hS
  intro σ2 x3 x4 H locs ls hok hl hP hD hS
  refine lv_iload hx hb dX1_hopsTo_35 (lv_at hl 0 rfl) ?_
  exact yEnd S hr hlocks hP hD hS (Nat.le_of_ble_eq_true rfl) (Nat.le_of_ble_eq_true rfl) dX1_hopsTo_37 hok

set_option maxHeartbeats 8000000 in
set_option maxRecDepth 100000 in
theorem v_X4_hasPlace (l : Launch) (D : va_G) (cI cZ cJ : ClassId) (o : Nat) (u : Nat → Nat) (T : Nat) (ra : Nat → Nat) (ga : SG) (σ : FS) (a1 : Int32) (Φ : Int32 → FS → Prop) (sz : Nat) (hok : (wp_X4_hasPlace σ a1 Φ)) : Met l yX4_hasPlace (uW yX4_hasPlace cX4_hasPlace 2 (some .boolean)) ({ frames := 0, cells := 0, slots := 0, locals := 0 }) (va_Pc [.ref (u 19), .int a1] (aS ra ga D (tyL cI cZ cJ) (cW o u cI cZ cJ T σ) sz)) (yQi Φ D (cW o u cI cZ cJ T) (va_A (cW o u cI cZ cJ T σ) sz)) 0 0 (va_A (cW o u cI cZ cJ T σ) sz) := by
  refine aStart (lv := [(0, .ref (u 19)), (1, .int a1)]) (Qc := fun A => yQi Φ D (cW o u cI cZ cJ T) A) (by decide) (Nat.le_of_ble_eq_true rfl) rfl ?_
  intro p e s m args below meth c ls A H S hr hlocks hnm hl hK hP hD hS hA hB
  have hx := S.1
  have hb := S.2.1
  refine lv_aload_n hx hb dX4_hasPlace_0 rfl (lv_at hl 0 rfl) ?_
  refine xg (ci := 4) S inX4 rfl hK hP cW_20 5 (by decide) rfl kw_4_97 rfl dX4_hasPlace_1 ?_
  refine lv_iload_n hx hb dX4_hasPlace_4 rfl (lv_at hl 1 rfl) ?_
  have h_5 := hok.1
  have hok := hok.2
  refine xiald (t0 := 0) (v := (g σ 24 a1)) S hK hP cW_24 rfl h_5 rfl dX4_hasPlace_5 ?_
  refine lv_iconst (v := (-1)) hx hb dX4_hasPlace_6 (by decide) ?_
  refine lv_icmp_eq (tgt := 36) hx hb dX4_hasPlace_7 (by decide) (fun c_7 => ?_) (fun c_7 => ?_)
  · have hok := hok.1 c_7
    refine lv_iconst (v := 0) hx hb dX4_hasPlace_36 (by decide) ?_
    exact yEndZ S hr hlocks hP hD hS (Nat.le_of_ble_eq_true rfl) (Nat.le_of_ble_eq_true rfl) dX4_hasPlace_37 rfl hok
  · have hok := hok.2 c_7
    refine lv_aload_n hx hb dX4_hasPlace_10 rfl (lv_at hl 0 rfl) ?_
    refine xg (ci := 4) S inX4 rfl hK hP cW_20 5 (by decide) rfl kw_4_97 rfl dX4_hasPlace_11 ?_
    refine lv_iload_n hx hb dX4_hasPlace_14 rfl (lv_at hl 1 rfl) ?_
    have h_15 := hok.1
    have hok := hok.2
    refine xiald (t0 := 0) (v := (g σ 24 a1)) S hK hP cW_24 rfl h_15 rfl dX4_hasPlace_15 ?_
    refine lv_bipush (v := 9) hx hb dX4_hasPlace_16 (by decide) ?_
    refine lv_icmp_eq (tgt := 36) hx hb dX4_hasPlace_18 (by decide) (fun c_18 => ?_) (fun c_18 => ?_)
    · have hok := hok.1 c_18
      refine lv_iconst (v := 0) hx hb dX4_hasPlace_36 (by decide) ?_
      exact yEndZ S hr hlocks hP hD hS (Nat.le_of_ble_eq_true rfl) (Nat.le_of_ble_eq_true rfl) dX4_hasPlace_37 rfl hok
    · have hok := hok.2 c_18
      refine lv_aload_n hx hb dX4_hasPlace_21 rfl (lv_at hl 0 rfl) ?_
      refine xg (ci := 4) S inX4 rfl hK hP cW_20 5 (by decide) rfl kw_4_97 rfl dX4_hasPlace_22 ?_
      refine lv_iload_n hx hb dX4_hasPlace_25 rfl (lv_at hl 1 rfl) ?_
      have h_26 := hok.1
      have hok := hok.2
      refine xiald (t0 := 0) (v := (g σ 24 a1)) S hK hP cW_24 rfl h_26 rfl dX4_hasPlace_26 ?_
      refine lv_bipush (v := 10) hx hb dX4_hasPlace_27 (by decide) ?_
      refine lv_icmp_eq (tgt := 36) hx hb dX4_hasPlace_29 (by decide) (fun c_29 => ?_) (fun c_29 => ?_)
      · have hok := hok.1 c_29
        refine lv_iconst (v := 0) hx hb dX4_hasPlace_36 (by decide) ?_
        exact yEndZ S hr hlocks hP hD hS (Nat.le_of_ble_eq_true rfl) (Nat.le_of_ble_eq_true rfl) dX4_hasPlace_37 rfl hok
      · have hok := hok.2 c_29
        refine lv_iconst (v := 1) hx hb dX4_hasPlace_32 (by decide) ?_
        refine lv_goto (tgt := 37) hx hb dX4_hasPlace_33 (by decide) ?_
        exact yEndZ S hr hlocks hP hD hS (Nat.le_of_ble_eq_true rfl) (Nat.le_of_ble_eq_true rfl) dX4_hasPlace_37 rfl hok

set_option maxHeartbeats 8000000 in
set_option maxRecDepth 100000 in
theorem v_X5_hasName (l : Launch) (D : va_G) (cI cZ cJ : ClassId) (o : Nat) (u : Nat → Nat) (T : Nat) (ra : Nat → Nat) (ga : SG) (σ : FS) (a1 : Int32) (Φ : Int32 → FS → Prop) (sz : Nat) (hok : (wp_X5_hasName σ a1 Φ)) : Met l yX5_hasName (uW yX5_hasName cX5_hasName 2 (some .boolean)) ({ frames := 0, cells := 0, slots := 0, locals := 0 }) (va_Pc [.ref (u 12), .int a1] (aS ra ga D (tyL cI cZ cJ) (cW o u cI cZ cJ T σ) sz)) (yQi Φ D (cW o u cI cZ cJ T) (va_A (cW o u cI cZ cJ T σ) sz)) 0 0 (va_A (cW o u cI cZ cJ T σ) sz) := by
  refine aStart (lv := [(0, .ref (u 12)), (1, .int a1)]) (Qc := fun A => yQi Φ D (cW o u cI cZ cJ T) A) (by decide) (Nat.le_of_ble_eq_true rfl) rfl ?_
  intro p e s m args below meth c ls A H S hr hlocks hnm hl hK hP hD hS hA hB
  have hx := S.1
  have hb := S.2.1
  refine xgs S hB.z0 hS kw_1_144 rfl dX5_hasName_0 ?_
  refine lv_aload_n hx hb dX5_hasName_3 rfl (lv_at hl 0 rfl) ?_
  refine xg (ci := 5) S inX5 rfl hK hP cW_13 1 (by decide) rfl kw_4_41 rfl dX5_hasName_4 ?_
  refine lv_iload_n hx hb dX5_hasName_7 rfl (lv_at hl 1 rfl) ?_
  have h_8 := hok.1
  have hok := hok.2
  refine xiald (t0 := 0) (v := (g σ 14 a1)) S hK hP cW_14 rfl h_8 rfl dX5_hasName_8 ?_
  have h_9 := hok.1
  have hok := hok.2
  refine xti (v := (tROLE_A ((g σ 14 a1) : Int32).toNatClampNeg)) S hB.t0 hS h_9 rfl dX5_hasName_9 ?_
  refine lv_topi (fun x1 ex1 => ?_)
  have hok := hok x1 ex1
  refine lv_iconst (v := 2) hx hb dX5_hasName_10 (by decide) ?_
  refine lv_icmp_ne (tgt := 18) hx hb dX5_hasName_11 (by decide) (fun c_11 => ?_) (fun c_11 => ?_)
  · have hok := hok.2 c_11
    refine lv_iconst (v := 0) hx hb dX5_hasName_18 (by decide) ?_
    exact yEndZ S hr hlocks hP hD hS (Nat.le_of_ble_eq_true rfl) (Nat.le_of_ble_eq_true rfl) dX5_hasName_19 rfl hok
  · have hok := hok.1 c_11
    refine lv_iconst (v := 1) hx hb dX5_hasName_14 (by decide) ?_
    refine lv_goto (tgt := 19) hx hb dX5_hasName_15 (by decide) ?_
    exact yEndZ S hr hlocks hP hD hS (Nat.le_of_ble_eq_true rfl) (Nat.le_of_ble_eq_true rfl) dX5_hasName_19 rfl hok

set_option maxHeartbeats 8000000 in
set_option maxRecDepth 100000 in
theorem v_X1_declares (l : Launch) (D : va_G) (cI cZ cJ : ClassId) (o : Nat) (u : Nat → Nat) (T : Nat) (ra : Nat → Nat) (ga : SG) (σ : FS) (a1 : Int32) (a2 : Int32) (Φ : Int32 → FS → Prop) (sz : Nat) (hok : (wp_X1_declares σ a1 a2 Φ)) : Met l yX1_declares (uW yX1_declares cX1_declares 3 (some .boolean)) ({ frames := 0, cells := 0, slots := 0, locals := 0 }) (va_Pc [.ref (u 0), .int a1, .int a2] (aS ra ga D (tyL cI cZ cJ) (cW o u cI cZ cJ T σ) sz)) (yQi Φ D (cW o u cI cZ cJ T) (va_A (cW o u cI cZ cJ T σ) sz)) 0 0 (va_A (cW o u cI cZ cJ T σ) sz) := by
  refine aStart (lv := [(0, .ref (u 0)), (1, .int a1), (2, .int a2)]) (Qc := fun A => yQi Φ D (cW o u cI cZ cJ T) A) (by decide) (Nat.le_of_ble_eq_true rfl) rfl ?_
  intro p e s m args below meth c ls A H S hr hlocks hnm hl hK hP hD hS hA hB
  have hx := S.1
  have hb := S.2.1
  refine lv_aload_n hx hb dX1_declares_0 rfl (lv_at hl 0 rfl) ?_
  refine xg (ci := 1) S inX1 rfl hK hP cW_1 7 (by decide) rfl kw_3_235 rfl dX1_declares_1 ?_
  refine lv_iload_n hx hb dX1_declares_4 rfl (lv_at hl 1 rfl) ?_
  refine lv_bipush (v := 16) hx hb dX1_declares_5 (by decide) ?_
  refine ximul (v := a1 * 16) S dX1_declares_7 rfl ?_
  refine lv_iload_n hx hb dX1_declares_8 rfl (lv_at hl 2 rfl) ?_
  refine xiadd (v := (a1 * 16) + a2) S dX1_declares_9 rfl ?_
  have h_10 := hok.1
  have hok := hok.2
  refine xiald (t0 := 0) (v := (g σ 8 ((a1 * 16) + a2))) S hK hP cW_8 rfl h_10 rfl dX1_declares_10 ?_
  refine lv_iconst (v := (-1)) hx hb dX1_declares_11 (by decide) ?_
  refine lv_icmp_eq (tgt := 19) hx hb dX1_declares_12 (by decide) (fun c_12 => ?_) (fun c_12 => ?_)
  · have hok := hok.1 c_12
    refine lv_iconst (v := 0) hx hb dX1_declares_19 (by decide) ?_
    exact yEndZ S hr hlocks hP hD hS (Nat.le_of_ble_eq_true rfl) (Nat.le_of_ble_eq_true rfl) dX1_declares_20 rfl hok
  · have hok := hok.2 c_12
    refine lv_iconst (v := 1) hx hb dX1_declares_15 (by decide) ?_
    refine lv_goto (tgt := 20) hx hb dX1_declares_16 (by decide) ?_
    exact yEndZ S hr hlocks hP hD hS (Nat.le_of_ble_eq_true rfl) (Nat.le_of_ble_eq_true rfl) dX1_declares_20 rfl hok

set_option maxHeartbeats 8000000 in
set_option maxRecDepth 100000 in
theorem v_X1_declarer (l : Launch) (D : va_G) (cI cZ cJ : ClassId) (o : Nat) (u : Nat → Nat) (T : Nat) (ra : Nat → Nat) (ga : SG) (σ : FS) (a1 : Int32) (a2 : Int32) (Φ : Int32 → FS → Prop) (sz : Nat) (hok : (wp_X1_declarer σ a1 a2 Φ)) : Met l yX1_declarer (uW yX1_declarer cX1_declarer 5 (some .int)) ({ frames := 1, cells := 0, slots := 0, locals := 22 }) (va_Pc [.ref (u 0), .int a1, .int a2] (aS ra ga D (tyL cI cZ cJ) (cW o u cI cZ cJ T σ) sz)) (yQi Φ D (cW o u cI cZ cJ T) (va_A (cW o u cI cZ cJ T σ) sz)) 0 0 (va_A (cW o u cI cZ cJ T σ) sz) := by
  refine aStart (lv := [(0, .ref (u 0)), (1, .int a1), (2, .int a2)]) (Qc := fun A => yQi Φ D (cW o u cI cZ cJ T) A) (by decide) (Nat.le_of_ble_eq_true rfl) rfl ?_
  intro p e s m args below meth c ls A H S hr hlocks hnm hl hK hP hD hS hA hB
  have hx := S.1
  have hb := S.2.1
  refine lv_iload_n hx hb dX1_declarer_0 rfl (lv_at hl 1 rfl) ?_
  refine lv_istore_n (lv' := [(3, .int a1), (0, .ref (u 0)), (1, .int a1), (2, .int a2)]) hx hb dX1_declarer_1 rfl hl (by decide) rfl (fun ls hl => ?_)
  refine lv_iconst (v := 0) hx hb dX1_declarer_2 (by decide) ?_
  refine lv_istore (lv' := [(4, .int 0), (3, .int a1), (0, .ref (u 0)), (1, .int a1), (2, .int a2)]) hx hb dX1_declarer_3 hl (by decide) rfl (fun ls hl => ?_)
  have lp5 : ∀ (K : FS → Int32 → Int32 → Prop), (∀ (τ0 : FS) (l4_0 : Int32) (l3_0 : Int32) (H : Heap) (locs : List Loc) (ls : Array Slot), K τ0 l4_0 l3_0 → lv_has ls 5 [(4, .int l4_0), (3, .int l3_0), (0, .ref (u 0)), (1, .int a1), (2, .int a2)] → va_P D vwCl (cW o u cI cZ cJ T τ0) H → va_D A (cW o u cI cZ cJ T τ0) → va_S A s.heap H locs → W p l e ({ frames := 1, cells := 0, slots := 0, locals := 22 }) s m args below meth c H locs 0 0 (MQ below (yQi Φ D (cW o u cI cZ cJ T) A) args s 0 0 A) (F0 m 41 ls [])) → ∀ (n0 : Nat) (τ0 : FS) (l4_0 : Int32) (l3_0 : Int32) (H : Heap) (locs : List Loc) (ls : Array Slot), wp_X1_declarer_5 a1 a2 Φ K n0 τ0 l4_0 l3_0 → lv_has ls 5 [(4, .int l4_0), (3, .int l3_0), (0, .ref (u 0)), (1, .int a1), (2, .int a2)] → va_P D vwCl (cW o u cI cZ cJ T τ0) H → va_D A (cW o u cI cZ cJ T τ0) → va_S A s.heap H locs → W p l e ({ frames := 1, cells := 0, slots := 0, locals := 22 }) s m args below meth c H locs 0 0 (MQ below (yQi Φ D (cW o u cI cZ cJ T) A) args s 0 0 A) (F0 m 5 ls []) := by
    intro K hk n0
    induction n0 with
    | zero => intro τ0 l4_0 l3_0 H locs ls hok; exact False.elim hok
    | succ n0 ih5 =>
      intro τ0 l4_0 l3_0 H locs ls hok hl hP hD hS
      refine lv_iload hx hb dX1_declarer_5 (lv_at hl 0 rfl) ?_
      refine lv_bipush (v := 10) hx hb dX1_declarer_7 (by decide) ?_
      refine lv_icmp_ge (tgt := 41) hx hb dX1_declarer_9 (by decide) (fun c_9 => ?_) (fun c_9 => ?_)
      · have hok := hok.1 c_9
        exact hk τ0 l4_0 l3_0 H locs ls hok (lv_sub hl [0, 1, 2, 3, 4] rfl) hP hD hS
      · have hok := hok.2 c_9
        refine lv_iload_n hx hb dX1_declarer_12 rfl (lv_at hl 1 rfl) ?_
        refine lv_iconst (v := (-1)) hx hb dX1_declarer_13 (by decide) ?_
        refine lv_icmp_eq (tgt := 41) hx hb dX1_declarer_14 (by decide) (fun c_14 => ?_) (fun c_14 => ?_)
        · have hok := hok.1 c_14
          exact hk τ0 l4_0 l3_0 H locs ls hok (lv_sub hl [0, 1, 2, 3, 4] rfl) hP hD hS
        · have hok := hok.2 c_14
          refine lv_aload_n hx hb dX1_declarer_17 rfl (lv_at hl 2 rfl) ?_
          refine lv_iload_n hx hb dX1_declarer_18 rfl (lv_at hl 1 rfl) ?_
          refine lv_iload_n hx hb dX1_declarer_19 rfl (lv_at hl 4 rfl) ?_
          refine yVi (As := [.int l3_0, .int a2]) (cw := (cW o u cI cZ cJ T)) (ci := 1) S (v_X1_declares l D cI cZ cJ o u T ra ga τ0 l3_0 a2 _ H.size hok) mi_X1_declares kw_1_150 rfl rfl ⟨Nat.le_of_ble_eq_true rfl, Nat.le_of_ble_eq_true rfl⟩ hP hD hK hS hA hB cW_1 rfl rfl hl.1 (Nat.le_of_ble_eq_true rfl) ⟨Nat.le_of_ble_eq_true rfl, Nat.le_of_ble_eq_true rfl⟩ dX1_declarer_20 (fun x2 σ1 H locs hok hz hP hD hS => ?_)
          refine lv_if_eq (tgt := 28) hx hb dX1_declarer_23 (by decide) (fun c_23 => ?_) (fun c_23 => ?_)
          · have hok := hok.1 c_23
            refine lv_aload_n hx hb dX1_declarer_28 rfl (lv_at hl 2 rfl) ?_
            refine xg (ci := 1) S inX1 rfl hK hP cW_1 1 (by decide) rfl kw_3_217 rfl dX1_declarer_29 ?_
            refine lv_iload_n hx hb dX1_declarer_32 rfl (lv_at hl 1 rfl) ?_
            have h_33 := hok.1
            have hok := hok.2
            refine xiald (t0 := 0) (v := (g σ1 2 l3_0)) S hK hP cW_2 rfl h_33 rfl dX1_declarer_33 ?_
            refine lv_topi (fun x3 ex3 => ?_)
            have hok := hok x3 ex3
            refine lv_istore_n (lv' := [(3, .int x3), (4, .int l4_0), (0, .ref (u 0)), (1, .int a1), (2, .int a2)]) hx hb dX1_declarer_34 rfl hl (by decide) rfl (fun ls hl => ?_)
            refine lv_iinc (v := l4_0 + 1) (lv' := [(4, .int (l4_0 + 1)), (3, .int x3), (0, .ref (u 0)), (1, .int a1), (2, .int a2)]) hx hb dX1_declarer_35 hl (k := 1) rfl rfl (by decide) rfl (fun ls hl => ?_)
            refine lv_goto (tgt := 5) hx hb dX1_declarer_38 (by decide) ?_
            exact ih5 σ1 (l4_0 + 1) x3 H locs ls hok (lv_sub hl [0, 1, 2, 3, 4] rfl) hP hD hS
          · have hok := hok.2 c_23
            refine lv_iload_n hx hb dX1_declarer_26 rfl (lv_at hl 1 rfl) ?_
            exact yEnd S hr hlocks hP hD hS (Nat.le_of_ble_eq_true rfl) (Nat.le_of_ble_eq_true rfl) dX1_declarer_27 hok
  refine lp5 _ ?_ FUEL σ 0 a1 _ _ _ hok (lv_sub hl [0, 1, 2, 3, 4] rfl) hP hD hS
  intro σ4 x5 x6 H locs ls hok hl hP hD hS
  refine lv_iconst (v := (-1)) hx hb dX1_declarer_41 (by decide) ?_
  exact yEnd S hr hlocks hP hD hS (Nat.le_of_ble_eq_true rfl) (Nat.le_of_ble_eq_true rfl) dX1_declarer_42 hok

set_option maxHeartbeats 8000000 in
set_option maxRecDepth 100000 in
theorem v_X4_bind (l : Launch) (D : va_G) (cI cZ cJ : ClassId) (o : Nat) (u : Nat → Nat) (T : Nat) (ra : Nat → Nat) (ga : SG) (σ : FS) (a1 : Int32) (Φ : FS → Prop) (sz : Nat) (hok : (wp_X4_bind σ a1 Φ)) : Met l yX4_bind (uW yX4_bind cX4_bind 4 none) ({ frames := 2, cells := 0, slots := 0, locals := 46 }) (va_Pc [.ref (u 19), .int a1] (aS ra ga D (tyL cI cZ cJ) (cW o u cI cZ cJ T σ) sz)) (yQv Φ D (cW o u cI cZ cJ T) (va_A (cW o u cI cZ cJ T σ) sz)) 0 0 (va_A (cW o u cI cZ cJ T σ) sz) := by
  refine aStart (lv := [(0, .ref (u 19)), (1, .int a1)]) (Qc := fun A => yQv Φ D (cW o u cI cZ cJ T) A) (by decide) (Nat.le_of_ble_eq_true rfl) rfl ?_
  intro p e s m args below meth c ls A H S hr hlocks hnm hl hK hP hD hS hA hB
  have hx := S.1
  have hb := S.2.1
  refine lv_aload_n hx hb dX4_bind_0 rfl (lv_at hl 0 rfl) ?_
  refine xg (ci := 4) S inX4 rfl hK hP cW_20 2 (by decide) rfl kw_4_89 rfl dX4_bind_1 ?_
  refine lv_iload_n hx hb dX4_bind_4 rfl (lv_at hl 1 rfl) ?_
  have h_5 := hok.1
  have hok := hok.2
  refine xiald (t0 := 0) (v := (g σ 21 a1)) S hK hP cW_21 rfl h_5 rfl dX4_bind_5 ?_
  refine lv_iconst (v := (-1)) hx hb dX4_bind_6 (by decide) ?_
  refine lv_icmp_eq (tgt := 25) hx hb dX4_bind_7 (by decide) (fun c_7 => ?_) (fun c_7 => ?_)
  · have hok := hok.1 c_7
    refine lv_iconst (v := 0) hx hb dX4_bind_25 (by decide) ?_
    refine lv_istore_n (lv' := [(2, .int 0), (0, .ref (u 19)), (1, .int a1)]) hx hb dX4_bind_26 rfl hl (by decide) rfl (fun ls hl => ?_)
    refine lv_aload_n hx hb dX4_bind_27 rfl (lv_at hl 1 rfl) ?_
    refine xg (ci := 4) S inX4 rfl hK hP cW_20 3 (by decide) rfl kw_4_93 rfl dX4_bind_28 ?_
    refine lv_iload_n hx hb dX4_bind_31 rfl (lv_at hl 2 rfl) ?_
    refine lv_iload_n hx hb dX4_bind_32 rfl (lv_at hl 0 rfl) ?_
    refine lv_if_eq (tgt := 61) hx hb dX4_bind_33 (by decide) (fun _ => ?_) (fun c => absurd c (by decide))
    refine lv_iconst (v := (-1)) hx hb dX4_bind_61 (by decide) ?_
    have h_62 := hok.1
    have hok := hok.2
    refine yiast (t0 := 0) (cw := (cW o u cI cZ cJ T)) S hK hP hD hS cW_22 rfl h_62 dX4_bind_62 cWa_22 (fun σ1 H locs eσ1 hP hD hS => ?_)
    have hok := hok σ1 eσ1
    refine lv_aload_n hx hb dX4_bind_63 rfl (lv_at hl 1 rfl) ?_
    refine xg (ci := 4) S inX4 rfl hK hP cW_20 3 (by decide) rfl kw_4_93 rfl dX4_bind_64 ?_
    refine lv_iload_n hx hb dX4_bind_67 rfl (lv_at hl 2 rfl) ?_
    have h_68 := hok.1
    have hok := hok.2
    refine xiald (t0 := 0) (v := (g σ1 22 a1)) S hK hP cW_22 rfl h_68 rfl dX4_bind_68 ?_
    refine lv_iconst (v := (-1)) hx hb dX4_bind_69 (by decide) ?_
    refine lv_icmp_ne (tgt := 95) hx hb dX4_bind_70 (by decide) (fun c_70 => ?_) (fun c_70 => ?_)
    · have hok := hok.2 c_70
      refine lv_aload_n hx hb dX4_bind_95 rfl (lv_at hl 1 rfl) ?_
      refine xg (ci := 4) S inX4 rfl hK hP cW_20 3 (by decide) rfl kw_4_93 rfl dX4_bind_96 ?_
      refine lv_iload_n hx hb dX4_bind_99 rfl (lv_at hl 2 rfl) ?_
      have h_100 := hok.1
      have hok := hok.2
      refine xiald (t0 := 0) (v := (g σ1 22 a1)) S hK hP cW_22 rfl h_100 rfl dX4_bind_100 ?_
      refine lv_bipush (v := 16) hx hb dX4_bind_101 (by decide) ?_
      refine ximul (v := (g σ1 22 a1) * 16) S dX4_bind_103 rfl ?_
      refine lv_aload_n hx hb dX4_bind_104 rfl (lv_at hl 1 rfl) ?_
      refine xg (ci := 4) S inX4 rfl hK hP cW_20 1 (by decide) rfl kw_4_88 rfl dX4_bind_105 ?_
      refine xg (ci := 5) S inX5 rfl hK hP cW_13 2 (by decide) rfl kw_4_47 rfl dX4_bind_108 ?_
      refine lv_iload_n hx hb dX4_bind_111 rfl (lv_at hl 2 rfl) ?_
      have h_112 := hok.1
      have hok := hok.2
      refine xiald (t0 := 0) (v := (g σ1 15 a1)) S hK hP cW_15 rfl h_112 rfl dX4_bind_112 ?_
      refine xiadd (v := ((g σ1 22 a1) * 16) + (g σ1 15 a1)) S dX4_bind_113 rfl ?_
      refine lv_topi (fun x2 ex2 => ?_)
      have hok := hok x2 ex2
      refine lv_istore_n (lv' := [(3, .int x2), (2, .int 0), (0, .ref (u 19)), (1, .int a1)]) hx hb dX4_bind_114 rfl hl (by decide) rfl (fun ls hl => ?_)
      refine lv_aload_n hx hb dX4_bind_115 rfl (lv_at hl 2 rfl) ?_
      refine xg (ci := 4) S inX4 rfl hK hP cW_20 4 (by decide) rfl kw_4_94 rfl dX4_bind_116 ?_
      refine lv_iload_n hx hb dX4_bind_119 rfl (lv_at hl 3 rfl) ?_
      refine lv_aload_n hx hb dX4_bind_120 rfl (lv_at hl 2 rfl) ?_
      refine xg (ci := 4) S inX4 rfl hK hP cW_20 0 (by decide) rfl kw_4_87 rfl dX4_bind_121 ?_
      refine lv_aload_n hx hb dX4_bind_124 rfl (lv_at hl 2 rfl) ?_
      refine xg (ci := 4) S inX4 rfl hK hP cW_20 3 (by decide) rfl kw_4_93 rfl dX4_bind_125 ?_
      refine lv_iload_n hx hb dX4_bind_128 rfl (lv_at hl 3 rfl) ?_
      have h_129 := hok.1
      have hok := hok.2
      refine xiald (t0 := 0) (v := (g σ1 22 a1)) S hK hP cW_22 rfl h_129 rfl dX4_bind_129 ?_
      refine lv_aload_n hx hb dX4_bind_130 rfl (lv_at hl 2 rfl) ?_
      refine xg (ci := 4) S inX4 rfl hK hP cW_20 2 (by decide) rfl kw_4_89 rfl dX4_bind_131 ?_
      refine lv_iload_n hx hb dX4_bind_134 rfl (lv_at hl 3 rfl) ?_
      have h_135 := hok.1
      have hok := hok.2
      refine xiald (t0 := 0) (v := (g σ1 21 a1)) S hK hP cW_21 rfl h_135 rfl dX4_bind_135 ?_
      refine yVi (As := [.int (g σ1 22 a1), .int (g σ1 21 a1)]) (cw := (cW o u cI cZ cJ T)) (ci := 1) S (v_X1_hopsTo l D cI cZ cJ o u T ra ga σ1 (g σ1 22 a1) (g σ1 21 a1) _ H.size hok) mi_X1_hopsTo kw_1_154 rfl rfl ⟨Nat.le_of_ble_eq_true rfl, Nat.le_of_ble_eq_true rfl⟩ hP hD hK hS hA hB cW_1 rfl rfl hl.1 (Nat.le_of_ble_eq_true rfl) ⟨Nat.le_of_ble_eq_true rfl, Nat.le_of_ble_eq_true rfl⟩ dX4_bind_136 (fun x4 σ3 H locs hok hz hP hD hS => ?_)
      have h_139 := hok.1
      have hok := hok.2
      refine yiast (t0 := 0) (cw := (cW o u cI cZ cJ T)) S hK hP hD hS cW_23 rfl h_139 dX4_bind_139 cWa_23 (fun σ5 H locs eσ5 hP hD hS => ?_)
      have hok := hok σ5 eσ5
      refine lv_aload_n hx hb dX4_bind_140 rfl (lv_at hl 2 rfl) ?_
      refine xg (ci := 4) S inX4 rfl hK hP cW_20 5 (by decide) rfl kw_4_97 rfl dX4_bind_141 ?_
      refine lv_iload_n hx hb dX4_bind_144 rfl (lv_at hl 3 rfl) ?_
      refine lv_aload_n hx hb dX4_bind_145 rfl (lv_at hl 2 rfl) ?_
      refine xg (ci := 4) S inX4 rfl hK hP cW_20 0 (by decide) rfl kw_4_87 rfl dX4_bind_146 ?_
      refine xg (ci := 1) S inX1 rfl hK hP cW_1 7 (by decide) rfl kw_3_236 rfl dX4_bind_149 ?_
      refine lv_iload_n hx hb dX4_bind_152 rfl (lv_at hl 0 rfl) ?_
      have h_153 := hok.1
      have hok := hok.2
      refine xiald (t0 := 0) (v := (g σ5 8 x2)) S hK hP cW_8 rfl h_153 rfl dX4_bind_153 ?_
      have h_154 := hok.1
      have hok := hok.2
      refine yiast (t0 := 0) (cw := (cW o u cI cZ cJ T)) S hK hP hD hS cW_24 rfl h_154 dX4_bind_154 cWa_24 (fun σ6 H locs eσ6 hP hD hS => ?_)
      have hok := hok σ6 eσ6
      refine lv_aload_n hx hb dX4_bind_155 rfl (lv_at hl 2 rfl) ?_
      refine xg (ci := 4) S inX4 rfl hK hP cW_20 6 (by decide) rfl kw_4_101 rfl dX4_bind_156 ?_
      refine lv_iload_n hx hb dX4_bind_159 rfl (lv_at hl 3 rfl) ?_
      refine lv_aload_n hx hb dX4_bind_160 rfl (lv_at hl 2 rfl) ?_
      refine lv_iload_n hx hb dX4_bind_161 rfl (lv_at hl 3 rfl) ?_
      refine yVi (As := [.int a1]) (cw := (cW o u cI cZ cJ T)) (ci := 4) S (v_X4_hasPlace l D cI cZ cJ o u T ra ga σ6 a1 _ H.size hok) mi_X4_hasPlace kw_1_158 rfl rfl ⟨Nat.le_of_ble_eq_true rfl, Nat.le_of_ble_eq_true rfl⟩ hP hD hK hS hA hB cW_20 rfl rfl hl.1 (Nat.le_of_ble_eq_true rfl) ⟨Nat.le_of_ble_eq_true rfl, Nat.le_of_ble_eq_true rfl⟩ dX4_bind_162 (fun x8 σ7 H locs hok hz hP hD hS => ?_)
      refine lv_if_eq (tgt := 180) hx hb dX4_bind_165 (by decide) (fun c_165 => ?_) (fun c_165 => ?_)
      · have hok := hok.1 c_165
        refine lv_aload_n hx hb dX4_bind_180 rfl (lv_at hl 2 rfl) ?_
        refine xg (ci := 4) S inX4 rfl hK hP cW_20 0 (by decide) rfl kw_4_87 rfl dX4_bind_181 ?_
        refine xg (ci := 1) S inX1 rfl hK hP cW_1 9 (by decide) rfl kw_4_0 rfl dX4_bind_184 ?_
        refine lv_iload_n hx hb dX4_bind_187 rfl (lv_at hl 0 rfl) ?_
        have h_188 := hok.1
        have hok := hok.2
        refine xiald (t0 := 0) (v := (g σ7 10 x2)) S hK hP cW_10 rfl h_188 rfl dX4_bind_188 ?_
        have h_189 := hok.1
        have hok := hok.2
        refine yiast (t0 := 0) (cw := (cW o u cI cZ cJ T)) S hK hP hD hS cW_25 rfl h_189 dX4_bind_189 cWa_25 (fun σ9 H locs eσ9 hP hD hS => ?_)
        have hok := hok σ9 eσ9
        exact yEndv S hr hlocks hP hD hS (Nat.le_of_ble_eq_true rfl) (Nat.le_of_ble_eq_true rfl) dX4_bind_190 hok
      · have hok := hok.2 c_165
        refine lv_aload_n hx hb dX4_bind_168 rfl (lv_at hl 2 rfl) ?_
        refine xg (ci := 4) S inX4 rfl hK hP cW_20 0 (by decide) rfl kw_4_87 rfl dX4_bind_169 ?_
        refine xg (ci := 1) S inX1 rfl hK hP cW_1 8 (by decide) rfl kw_3_238 rfl dX4_bind_172 ?_
        refine lv_iload_n hx hb dX4_bind_175 rfl (lv_at hl 0 rfl) ?_
        have h_176 := hok.1
        have hok := hok.2
        refine xiald (t0 := 0) (v := (g σ7 9 x2)) S hK hP cW_9 rfl h_176 rfl dX4_bind_176 ?_
        refine lv_goto (tgt := 189) hx hb dX4_bind_177 (by decide) ?_
        have h_189 := hok.1
        have hok := hok.2
        refine yiast (t0 := 0) (cw := (cW o u cI cZ cJ T)) S hK hP hD hS cW_25 rfl h_189 dX4_bind_189 cWa_25 (fun σ10 H locs eσ10 hP hD hS => ?_)
        have hok := hok σ10 eσ10
        exact yEndv S hr hlocks hP hD hS (Nat.le_of_ble_eq_true rfl) (Nat.le_of_ble_eq_true rfl) dX4_bind_190 hok
    · have hok := hok.1 c_70
      refine lv_aload_n hx hb dX4_bind_73 rfl (lv_at hl 1 rfl) ?_
      refine xg (ci := 4) S inX4 rfl hK hP cW_20 4 (by decide) rfl kw_4_94 rfl dX4_bind_74 ?_
      refine lv_iload_n hx hb dX4_bind_77 rfl (lv_at hl 2 rfl) ?_
      refine lv_iconst (v := (-1)) hx hb dX4_bind_78 (by decide) ?_
      have h_79 := hok.1
      have hok := hok.2
      refine yiast (t0 := 0) (cw := (cW o u cI cZ cJ T)) S hK hP hD hS cW_23 rfl h_79 dX4_bind_79 cWa_23 (fun σ11 H locs eσ11 hP hD hS => ?_)
      have hok := hok σ11 eσ11
      refine lv_aload_n hx hb dX4_bind_80 rfl (lv_at hl 1 rfl) ?_
      refine xg (ci := 4) S inX4 rfl hK hP cW_20 5 (by decide) rfl kw_4_97 rfl dX4_bind_81 ?_
      refine lv_iload_n hx hb dX4_bind_84 rfl (lv_at hl 2 rfl) ?_
      refine lv_iconst (v := (-1)) hx hb dX4_bind_85 (by decide) ?_
      have h_86 := hok.1
      have hok := hok.2
      refine yiast (t0 := 0) (cw := (cW o u cI cZ cJ T)) S hK hP hD hS cW_24 rfl h_86 dX4_bind_86 cWa_24 (fun σ12 H locs eσ12 hP hD hS => ?_)
      have hok := hok σ12 eσ12
      refine lv_aload_n hx hb dX4_bind_87 rfl (lv_at hl 1 rfl) ?_
      refine xg (ci := 4) S inX4 rfl hK hP cW_20 6 (by decide) rfl kw_4_101 rfl dX4_bind_88 ?_
      refine lv_iload_n hx hb dX4_bind_91 rfl (lv_at hl 2 rfl) ?_
      refine lv_iconst (v := (-1)) hx hb dX4_bind_92 (by decide) ?_
      have h_93 := hok.1
      have hok := hok.2
      refine yiast (t0 := 0) (cw := (cW o u cI cZ cJ T)) S hK hP hD hS cW_25 rfl h_93 dX4_bind_93 cWa_25 (fun σ13 H locs eσ13 hP hD hS => ?_)
      have hok := hok σ13 eσ13
      exact yEndv S hr hlocks hP hD hS (Nat.le_of_ble_eq_true rfl) (Nat.le_of_ble_eq_true rfl) dX4_bind_94 hok
  · have hok := hok.2 c_7
    refine lv_aload_n hx hb dX4_bind_10 rfl (lv_at hl 0 rfl) ?_
    refine xg (ci := 4) S inX4 rfl hK hP cW_20 1 (by decide) rfl kw_4_88 rfl dX4_bind_11 ?_
    refine lv_iload_n hx hb dX4_bind_14 rfl (lv_at hl 1 rfl) ?_
    refine yVi (As := [.int a1]) (cw := (cW o u cI cZ cJ T)) (ci := 5) S (v_X5_hasName l D cI cZ cJ o u T ra ga σ a1 _ H.size hok) mi_X5_hasName kw_1_140 rfl rfl ⟨Nat.le_of_ble_eq_true rfl, Nat.le_of_ble_eq_true rfl⟩ hP hD hK hS hA hB cW_13 rfl rfl hl.1 (Nat.le_of_ble_eq_true rfl) ⟨Nat.le_of_ble_eq_true rfl, Nat.le_of_ble_eq_true rfl⟩ dX4_bind_15 (fun x15 σ14 H locs hok hz hP hD hS => ?_)
    refine lv_if_eq (tgt := 25) hx hb dX4_bind_18 (by decide) (fun c_18 => ?_) (fun c_18 => ?_)
    · have hok := hok.1 c_18
      refine lv_iconst (v := 0) hx hb dX4_bind_25 (by decide) ?_
      refine lv_istore_n (lv' := [(2, .int 0), (0, .ref (u 19)), (1, .int a1)]) hx hb dX4_bind_26 rfl hl (by decide) rfl (fun ls hl => ?_)
      refine lv_aload_n hx hb dX4_bind_27 rfl (lv_at hl 1 rfl) ?_
      refine xg (ci := 4) S inX4 rfl hK hP cW_20 3 (by decide) rfl kw_4_93 rfl dX4_bind_28 ?_
      refine lv_iload_n hx hb dX4_bind_31 rfl (lv_at hl 2 rfl) ?_
      refine lv_iload_n hx hb dX4_bind_32 rfl (lv_at hl 0 rfl) ?_
      refine lv_if_eq (tgt := 61) hx hb dX4_bind_33 (by decide) (fun _ => ?_) (fun c => absurd c (by decide))
      refine lv_iconst (v := (-1)) hx hb dX4_bind_61 (by decide) ?_
      have h_62 := hok.1
      have hok := hok.2
      refine yiast (t0 := 0) (cw := (cW o u cI cZ cJ T)) S hK hP hD hS cW_22 rfl h_62 dX4_bind_62 cWa_22 (fun σ16 H locs eσ16 hP hD hS => ?_)
      have hok := hok σ16 eσ16
      refine lv_aload_n hx hb dX4_bind_63 rfl (lv_at hl 1 rfl) ?_
      refine xg (ci := 4) S inX4 rfl hK hP cW_20 3 (by decide) rfl kw_4_93 rfl dX4_bind_64 ?_
      refine lv_iload_n hx hb dX4_bind_67 rfl (lv_at hl 2 rfl) ?_
      have h_68 := hok.1
      have hok := hok.2
      refine xiald (t0 := 0) (v := (g σ16 22 a1)) S hK hP cW_22 rfl h_68 rfl dX4_bind_68 ?_
      refine lv_iconst (v := (-1)) hx hb dX4_bind_69 (by decide) ?_
      refine lv_icmp_ne (tgt := 95) hx hb dX4_bind_70 (by decide) (fun c_70 => ?_) (fun c_70 => ?_)
      · have hok := hok.2 c_70
        refine lv_aload_n hx hb dX4_bind_95 rfl (lv_at hl 1 rfl) ?_
        refine xg (ci := 4) S inX4 rfl hK hP cW_20 3 (by decide) rfl kw_4_93 rfl dX4_bind_96 ?_
        refine lv_iload_n hx hb dX4_bind_99 rfl (lv_at hl 2 rfl) ?_
        have h_100 := hok.1
        have hok := hok.2
        refine xiald (t0 := 0) (v := (g σ16 22 a1)) S hK hP cW_22 rfl h_100 rfl dX4_bind_100 ?_
        refine lv_bipush (v := 16) hx hb dX4_bind_101 (by decide) ?_
        refine ximul (v := (g σ16 22 a1) * 16) S dX4_bind_103 rfl ?_
        refine lv_aload_n hx hb dX4_bind_104 rfl (lv_at hl 1 rfl) ?_
        refine xg (ci := 4) S inX4 rfl hK hP cW_20 1 (by decide) rfl kw_4_88 rfl dX4_bind_105 ?_
        refine xg (ci := 5) S inX5 rfl hK hP cW_13 2 (by decide) rfl kw_4_47 rfl dX4_bind_108 ?_
        refine lv_iload_n hx hb dX4_bind_111 rfl (lv_at hl 2 rfl) ?_
        have h_112 := hok.1
        have hok := hok.2
        refine xiald (t0 := 0) (v := (g σ16 15 a1)) S hK hP cW_15 rfl h_112 rfl dX4_bind_112 ?_
        refine xiadd (v := ((g σ16 22 a1) * 16) + (g σ16 15 a1)) S dX4_bind_113 rfl ?_
        refine lv_topi (fun x17 ex17 => ?_)
        have hok := hok x17 ex17
        refine lv_istore_n (lv' := [(3, .int x17), (2, .int 0), (0, .ref (u 19)), (1, .int a1)]) hx hb dX4_bind_114 rfl hl (by decide) rfl (fun ls hl => ?_)
        refine lv_aload_n hx hb dX4_bind_115 rfl (lv_at hl 2 rfl) ?_
        refine xg (ci := 4) S inX4 rfl hK hP cW_20 4 (by decide) rfl kw_4_94 rfl dX4_bind_116 ?_
        refine lv_iload_n hx hb dX4_bind_119 rfl (lv_at hl 3 rfl) ?_
        refine lv_aload_n hx hb dX4_bind_120 rfl (lv_at hl 2 rfl) ?_
        refine xg (ci := 4) S inX4 rfl hK hP cW_20 0 (by decide) rfl kw_4_87 rfl dX4_bind_121 ?_
        refine lv_aload_n hx hb dX4_bind_124 rfl (lv_at hl 2 rfl) ?_
        refine xg (ci := 4) S inX4 rfl hK hP cW_20 3 (by decide) rfl kw_4_93 rfl dX4_bind_125 ?_
        refine lv_iload_n hx hb dX4_bind_128 rfl (lv_at hl 3 rfl) ?_
        have h_129 := hok.1
        have hok := hok.2
        refine xiald (t0 := 0) (v := (g σ16 22 a1)) S hK hP cW_22 rfl h_129 rfl dX4_bind_129 ?_
        refine lv_aload_n hx hb dX4_bind_130 rfl (lv_at hl 2 rfl) ?_
        refine xg (ci := 4) S inX4 rfl hK hP cW_20 2 (by decide) rfl kw_4_89 rfl dX4_bind_131 ?_
        refine lv_iload_n hx hb dX4_bind_134 rfl (lv_at hl 3 rfl) ?_
        have h_135 := hok.1
        have hok := hok.2
        refine xiald (t0 := 0) (v := (g σ16 21 a1)) S hK hP cW_21 rfl h_135 rfl dX4_bind_135 ?_
        refine yVi (As := [.int (g σ16 22 a1), .int (g σ16 21 a1)]) (cw := (cW o u cI cZ cJ T)) (ci := 1) S (v_X1_hopsTo l D cI cZ cJ o u T ra ga σ16 (g σ16 22 a1) (g σ16 21 a1) _ H.size hok) mi_X1_hopsTo kw_1_154 rfl rfl ⟨Nat.le_of_ble_eq_true rfl, Nat.le_of_ble_eq_true rfl⟩ hP hD hK hS hA hB cW_1 rfl rfl hl.1 (Nat.le_of_ble_eq_true rfl) ⟨Nat.le_of_ble_eq_true rfl, Nat.le_of_ble_eq_true rfl⟩ dX4_bind_136 (fun x19 σ18 H locs hok hz hP hD hS => ?_)
        have h_139 := hok.1
        have hok := hok.2
        refine yiast (t0 := 0) (cw := (cW o u cI cZ cJ T)) S hK hP hD hS cW_23 rfl h_139 dX4_bind_139 cWa_23 (fun σ20 H locs eσ20 hP hD hS => ?_)
        have hok := hok σ20 eσ20
        refine lv_aload_n hx hb dX4_bind_140 rfl (lv_at hl 2 rfl) ?_
        refine xg (ci := 4) S inX4 rfl hK hP cW_20 5 (by decide) rfl kw_4_97 rfl dX4_bind_141 ?_
        refine lv_iload_n hx hb dX4_bind_144 rfl (lv_at hl 3 rfl) ?_
        refine lv_aload_n hx hb dX4_bind_145 rfl (lv_at hl 2 rfl) ?_
        refine xg (ci := 4) S inX4 rfl hK hP cW_20 0 (by decide) rfl kw_4_87 rfl dX4_bind_146 ?_
        refine xg (ci := 1) S inX1 rfl hK hP cW_1 7 (by decide) rfl kw_3_236 rfl dX4_bind_149 ?_
        refine lv_iload_n hx hb dX4_bind_152 rfl (lv_at hl 0 rfl) ?_
        have h_153 := hok.1
        have hok := hok.2
        refine xiald (t0 := 0) (v := (g σ20 8 x17)) S hK hP cW_8 rfl h_153 rfl dX4_bind_153 ?_
        have h_154 := hok.1
        have hok := hok.2
        refine yiast (t0 := 0) (cw := (cW o u cI cZ cJ T)) S hK hP hD hS cW_24 rfl h_154 dX4_bind_154 cWa_24 (fun σ21 H locs eσ21 hP hD hS => ?_)
        have hok := hok σ21 eσ21
        refine lv_aload_n hx hb dX4_bind_155 rfl (lv_at hl 2 rfl) ?_
        refine xg (ci := 4) S inX4 rfl hK hP cW_20 6 (by decide) rfl kw_4_101 rfl dX4_bind_156 ?_
        refine lv_iload_n hx hb dX4_bind_159 rfl (lv_at hl 3 rfl) ?_
        refine lv_aload_n hx hb dX4_bind_160 rfl (lv_at hl 2 rfl) ?_
        refine lv_iload_n hx hb dX4_bind_161 rfl (lv_at hl 3 rfl) ?_
        refine yVi (As := [.int a1]) (cw := (cW o u cI cZ cJ T)) (ci := 4) S (v_X4_hasPlace l D cI cZ cJ o u T ra ga σ21 a1 _ H.size hok) mi_X4_hasPlace kw_1_158 rfl rfl ⟨Nat.le_of_ble_eq_true rfl, Nat.le_of_ble_eq_true rfl⟩ hP hD hK hS hA hB cW_20 rfl rfl hl.1 (Nat.le_of_ble_eq_true rfl) ⟨Nat.le_of_ble_eq_true rfl, Nat.le_of_ble_eq_true rfl⟩ dX4_bind_162 (fun x23 σ22 H locs hok hz hP hD hS => ?_)
        refine lv_if_eq (tgt := 180) hx hb dX4_bind_165 (by decide) (fun c_165 => ?_) (fun c_165 => ?_)
        · have hok := hok.1 c_165
          refine lv_aload_n hx hb dX4_bind_180 rfl (lv_at hl 2 rfl) ?_
          refine xg (ci := 4) S inX4 rfl hK hP cW_20 0 (by decide) rfl kw_4_87 rfl dX4_bind_181 ?_
          refine xg (ci := 1) S inX1 rfl hK hP cW_1 9 (by decide) rfl kw_4_0 rfl dX4_bind_184 ?_
          refine lv_iload_n hx hb dX4_bind_187 rfl (lv_at hl 0 rfl) ?_
          have h_188 := hok.1
          have hok := hok.2
          refine xiald (t0 := 0) (v := (g σ22 10 x17)) S hK hP cW_10 rfl h_188 rfl dX4_bind_188 ?_
          have h_189 := hok.1
          have hok := hok.2
          refine yiast (t0 := 0) (cw := (cW o u cI cZ cJ T)) S hK hP hD hS cW_25 rfl h_189 dX4_bind_189 cWa_25 (fun σ24 H locs eσ24 hP hD hS => ?_)
          have hok := hok σ24 eσ24
          exact yEndv S hr hlocks hP hD hS (Nat.le_of_ble_eq_true rfl) (Nat.le_of_ble_eq_true rfl) dX4_bind_190 hok
        · have hok := hok.2 c_165
          refine lv_aload_n hx hb dX4_bind_168 rfl (lv_at hl 2 rfl) ?_
          refine xg (ci := 4) S inX4 rfl hK hP cW_20 0 (by decide) rfl kw_4_87 rfl dX4_bind_169 ?_
          refine xg (ci := 1) S inX1 rfl hK hP cW_1 8 (by decide) rfl kw_3_238 rfl dX4_bind_172 ?_
          refine lv_iload_n hx hb dX4_bind_175 rfl (lv_at hl 0 rfl) ?_
          have h_176 := hok.1
          have hok := hok.2
          refine xiald (t0 := 0) (v := (g σ22 9 x17)) S hK hP cW_9 rfl h_176 rfl dX4_bind_176 ?_
          refine lv_goto (tgt := 189) hx hb dX4_bind_177 (by decide) ?_
          have h_189 := hok.1
          have hok := hok.2
          refine yiast (t0 := 0) (cw := (cW o u cI cZ cJ T)) S hK hP hD hS cW_25 rfl h_189 dX4_bind_189 cWa_25 (fun σ25 H locs eσ25 hP hD hS => ?_)
          have hok := hok σ25 eσ25
          exact yEndv S hr hlocks hP hD hS (Nat.le_of_ble_eq_true rfl) (Nat.le_of_ble_eq_true rfl) dX4_bind_190 hok
      · have hok := hok.1 c_70
        refine lv_aload_n hx hb dX4_bind_73 rfl (lv_at hl 1 rfl) ?_
        refine xg (ci := 4) S inX4 rfl hK hP cW_20 4 (by decide) rfl kw_4_94 rfl dX4_bind_74 ?_
        refine lv_iload_n hx hb dX4_bind_77 rfl (lv_at hl 2 rfl) ?_
        refine lv_iconst (v := (-1)) hx hb dX4_bind_78 (by decide) ?_
        have h_79 := hok.1
        have hok := hok.2
        refine yiast (t0 := 0) (cw := (cW o u cI cZ cJ T)) S hK hP hD hS cW_23 rfl h_79 dX4_bind_79 cWa_23 (fun σ26 H locs eσ26 hP hD hS => ?_)
        have hok := hok σ26 eσ26
        refine lv_aload_n hx hb dX4_bind_80 rfl (lv_at hl 1 rfl) ?_
        refine xg (ci := 4) S inX4 rfl hK hP cW_20 5 (by decide) rfl kw_4_97 rfl dX4_bind_81 ?_
        refine lv_iload_n hx hb dX4_bind_84 rfl (lv_at hl 2 rfl) ?_
        refine lv_iconst (v := (-1)) hx hb dX4_bind_85 (by decide) ?_
        have h_86 := hok.1
        have hok := hok.2
        refine yiast (t0 := 0) (cw := (cW o u cI cZ cJ T)) S hK hP hD hS cW_24 rfl h_86 dX4_bind_86 cWa_24 (fun σ27 H locs eσ27 hP hD hS => ?_)
        have hok := hok σ27 eσ27
        refine lv_aload_n hx hb dX4_bind_87 rfl (lv_at hl 1 rfl) ?_
        refine xg (ci := 4) S inX4 rfl hK hP cW_20 6 (by decide) rfl kw_4_101 rfl dX4_bind_88 ?_
        refine lv_iload_n hx hb dX4_bind_91 rfl (lv_at hl 2 rfl) ?_
        refine lv_iconst (v := (-1)) hx hb dX4_bind_92 (by decide) ?_
        have h_93 := hok.1
        have hok := hok.2
        refine yiast (t0 := 0) (cw := (cW o u cI cZ cJ T)) S hK hP hD hS cW_25 rfl h_93 dX4_bind_93 cWa_25 (fun σ28 H locs eσ28 hP hD hS => ?_)
        have hok := hok σ28 eσ28
        exact yEndv S hr hlocks hP hD hS (Nat.le_of_ble_eq_true rfl) (Nat.le_of_ble_eq_true rfl) dX4_bind_94 hok
    · have hok := hok.2 c_18
      refine lv_iconst (v := 1) hx hb dX4_bind_21 (by decide) ?_
      refine lv_goto (tgt := 26) hx hb dX4_bind_22 (by decide) ?_
      refine lv_istore_n (lv' := [(2, .int 1), (0, .ref (u 19)), (1, .int a1)]) hx hb dX4_bind_26 rfl hl (by decide) rfl (fun ls hl => ?_)
      refine lv_aload_n hx hb dX4_bind_27 rfl (lv_at hl 1 rfl) ?_
      refine xg (ci := 4) S inX4 rfl hK hP cW_20 3 (by decide) rfl kw_4_93 rfl dX4_bind_28 ?_
      refine lv_iload_n hx hb dX4_bind_31 rfl (lv_at hl 2 rfl) ?_
      refine lv_iload_n hx hb dX4_bind_32 rfl (lv_at hl 0 rfl) ?_
      refine lv_if_eq (tgt := 61) hx hb dX4_bind_33 (by decide) (fun c => absurd c (by decide)) (fun _ => ?_)
      refine lv_aload_n hx hb dX4_bind_36 rfl (lv_at hl 1 rfl) ?_
      refine xg (ci := 4) S inX4 rfl hK hP cW_20 0 (by decide) rfl kw_4_87 rfl dX4_bind_37 ?_
      refine lv_aload_n hx hb dX4_bind_40 rfl (lv_at hl 1 rfl) ?_
      refine xg (ci := 4) S inX4 rfl hK hP cW_20 2 (by decide) rfl kw_4_89 rfl dX4_bind_41 ?_
      refine lv_iload_n hx hb dX4_bind_44 rfl (lv_at hl 2 rfl) ?_
      have h_45 := hok.1
      have hok := hok.2
      refine xiald (t0 := 0) (v := (g σ14 21 a1)) S hK hP cW_21 rfl h_45 rfl dX4_bind_45 ?_
      refine lv_aload_n hx hb dX4_bind_46 rfl (lv_at hl 1 rfl) ?_
      refine xg (ci := 4) S inX4 rfl hK hP cW_20 1 (by decide) rfl kw_4_88 rfl dX4_bind_47 ?_
      refine xg (ci := 5) S inX5 rfl hK hP cW_13 2 (by decide) rfl kw_4_47 rfl dX4_bind_50 ?_
      refine lv_iload_n hx hb dX4_bind_53 rfl (lv_at hl 2 rfl) ?_
      have h_54 := hok.1
      have hok := hok.2
      refine xiald (t0 := 0) (v := (g σ14 15 a1)) S hK hP cW_15 rfl h_54 rfl dX4_bind_54 ?_
      refine yVi (As := [.int (g σ14 21 a1), .int (g σ14 15 a1)]) (cw := (cW o u cI cZ cJ T)) (ci := 1) S (v_X1_declarer l D cI cZ cJ o u T ra ga σ14 (g σ14 21 a1) (g σ14 15 a1) _ H.size hok) mi_X1_declarer kw_1_146 rfl rfl ⟨Nat.le_of_ble_eq_true rfl, Nat.le_of_ble_eq_true rfl⟩ hP hD hK hS hA hB cW_1 rfl rfl hl.1 (Nat.le_of_ble_eq_true rfl) ⟨Nat.le_of_ble_eq_true rfl, Nat.le_of_ble_eq_true rfl⟩ dX4_bind_55 (fun x30 σ29 H locs hok hz hP hD hS => ?_)
      refine lv_goto (tgt := 62) hx hb dX4_bind_58 (by decide) ?_
      have h_62 := hok.1
      have hok := hok.2
      refine yiast (t0 := 0) (cw := (cW o u cI cZ cJ T)) S hK hP hD hS cW_22 rfl h_62 dX4_bind_62 cWa_22 (fun σ31 H locs eσ31 hP hD hS => ?_)
      have hok := hok σ31 eσ31
      refine lv_aload_n hx hb dX4_bind_63 rfl (lv_at hl 1 rfl) ?_
      refine xg (ci := 4) S inX4 rfl hK hP cW_20 3 (by decide) rfl kw_4_93 rfl dX4_bind_64 ?_
      refine lv_iload_n hx hb dX4_bind_67 rfl (lv_at hl 2 rfl) ?_
      have h_68 := hok.1
      have hok := hok.2
      refine xiald (t0 := 0) (v := (g σ31 22 a1)) S hK hP cW_22 rfl h_68 rfl dX4_bind_68 ?_
      refine lv_iconst (v := (-1)) hx hb dX4_bind_69 (by decide) ?_
      refine lv_icmp_ne (tgt := 95) hx hb dX4_bind_70 (by decide) (fun c_70 => ?_) (fun c_70 => ?_)
      · have hok := hok.2 c_70
        refine lv_aload_n hx hb dX4_bind_95 rfl (lv_at hl 1 rfl) ?_
        refine xg (ci := 4) S inX4 rfl hK hP cW_20 3 (by decide) rfl kw_4_93 rfl dX4_bind_96 ?_
        refine lv_iload_n hx hb dX4_bind_99 rfl (lv_at hl 2 rfl) ?_
        have h_100 := hok.1
        have hok := hok.2
        refine xiald (t0 := 0) (v := (g σ31 22 a1)) S hK hP cW_22 rfl h_100 rfl dX4_bind_100 ?_
        refine lv_bipush (v := 16) hx hb dX4_bind_101 (by decide) ?_
        refine ximul (v := (g σ31 22 a1) * 16) S dX4_bind_103 rfl ?_
        refine lv_aload_n hx hb dX4_bind_104 rfl (lv_at hl 1 rfl) ?_
        refine xg (ci := 4) S inX4 rfl hK hP cW_20 1 (by decide) rfl kw_4_88 rfl dX4_bind_105 ?_
        refine xg (ci := 5) S inX5 rfl hK hP cW_13 2 (by decide) rfl kw_4_47 rfl dX4_bind_108 ?_
        refine lv_iload_n hx hb dX4_bind_111 rfl (lv_at hl 2 rfl) ?_
        have h_112 := hok.1
        have hok := hok.2
        refine xiald (t0 := 0) (v := (g σ31 15 a1)) S hK hP cW_15 rfl h_112 rfl dX4_bind_112 ?_
        refine xiadd (v := ((g σ31 22 a1) * 16) + (g σ31 15 a1)) S dX4_bind_113 rfl ?_
        refine lv_topi (fun x32 ex32 => ?_)
        have hok := hok x32 ex32
        refine lv_istore_n (lv' := [(3, .int x32), (2, .int 1), (0, .ref (u 19)), (1, .int a1)]) hx hb dX4_bind_114 rfl hl (by decide) rfl (fun ls hl => ?_)
        refine lv_aload_n hx hb dX4_bind_115 rfl (lv_at hl 2 rfl) ?_
        refine xg (ci := 4) S inX4 rfl hK hP cW_20 4 (by decide) rfl kw_4_94 rfl dX4_bind_116 ?_
        refine lv_iload_n hx hb dX4_bind_119 rfl (lv_at hl 3 rfl) ?_
        refine lv_aload_n hx hb dX4_bind_120 rfl (lv_at hl 2 rfl) ?_
        refine xg (ci := 4) S inX4 rfl hK hP cW_20 0 (by decide) rfl kw_4_87 rfl dX4_bind_121 ?_
        refine lv_aload_n hx hb dX4_bind_124 rfl (lv_at hl 2 rfl) ?_
        refine xg (ci := 4) S inX4 rfl hK hP cW_20 3 (by decide) rfl kw_4_93 rfl dX4_bind_125 ?_
        refine lv_iload_n hx hb dX4_bind_128 rfl (lv_at hl 3 rfl) ?_
        have h_129 := hok.1
        have hok := hok.2
        refine xiald (t0 := 0) (v := (g σ31 22 a1)) S hK hP cW_22 rfl h_129 rfl dX4_bind_129 ?_
        refine lv_aload_n hx hb dX4_bind_130 rfl (lv_at hl 2 rfl) ?_
        refine xg (ci := 4) S inX4 rfl hK hP cW_20 2 (by decide) rfl kw_4_89 rfl dX4_bind_131 ?_
        refine lv_iload_n hx hb dX4_bind_134 rfl (lv_at hl 3 rfl) ?_
        have h_135 := hok.1
        have hok := hok.2
        refine xiald (t0 := 0) (v := (g σ31 21 a1)) S hK hP cW_21 rfl h_135 rfl dX4_bind_135 ?_
        refine yVi (As := [.int (g σ31 22 a1), .int (g σ31 21 a1)]) (cw := (cW o u cI cZ cJ T)) (ci := 1) S (v_X1_hopsTo l D cI cZ cJ o u T ra ga σ31 (g σ31 22 a1) (g σ31 21 a1) _ H.size hok) mi_X1_hopsTo kw_1_154 rfl rfl ⟨Nat.le_of_ble_eq_true rfl, Nat.le_of_ble_eq_true rfl⟩ hP hD hK hS hA hB cW_1 rfl rfl hl.1 (Nat.le_of_ble_eq_true rfl) ⟨Nat.le_of_ble_eq_true rfl, Nat.le_of_ble_eq_true rfl⟩ dX4_bind_136 (fun x34 σ33 H locs hok hz hP hD hS => ?_)
        have h_139 := hok.1
        have hok := hok.2
        refine yiast (t0 := 0) (cw := (cW o u cI cZ cJ T)) S hK hP hD hS cW_23 rfl h_139 dX4_bind_139 cWa_23 (fun σ35 H locs eσ35 hP hD hS => ?_)
        have hok := hok σ35 eσ35
        refine lv_aload_n hx hb dX4_bind_140 rfl (lv_at hl 2 rfl) ?_
        refine xg (ci := 4) S inX4 rfl hK hP cW_20 5 (by decide) rfl kw_4_97 rfl dX4_bind_141 ?_
        refine lv_iload_n hx hb dX4_bind_144 rfl (lv_at hl 3 rfl) ?_
        refine lv_aload_n hx hb dX4_bind_145 rfl (lv_at hl 2 rfl) ?_
        refine xg (ci := 4) S inX4 rfl hK hP cW_20 0 (by decide) rfl kw_4_87 rfl dX4_bind_146 ?_
        refine xg (ci := 1) S inX1 rfl hK hP cW_1 7 (by decide) rfl kw_3_236 rfl dX4_bind_149 ?_
        refine lv_iload_n hx hb dX4_bind_152 rfl (lv_at hl 0 rfl) ?_
        have h_153 := hok.1
        have hok := hok.2
        refine xiald (t0 := 0) (v := (g σ35 8 x32)) S hK hP cW_8 rfl h_153 rfl dX4_bind_153 ?_
        have h_154 := hok.1
        have hok := hok.2
        refine yiast (t0 := 0) (cw := (cW o u cI cZ cJ T)) S hK hP hD hS cW_24 rfl h_154 dX4_bind_154 cWa_24 (fun σ36 H locs eσ36 hP hD hS => ?_)
        have hok := hok σ36 eσ36
        refine lv_aload_n hx hb dX4_bind_155 rfl (lv_at hl 2 rfl) ?_
        refine xg (ci := 4) S inX4 rfl hK hP cW_20 6 (by decide) rfl kw_4_101 rfl dX4_bind_156 ?_
        refine lv_iload_n hx hb dX4_bind_159 rfl (lv_at hl 3 rfl) ?_
        refine lv_aload_n hx hb dX4_bind_160 rfl (lv_at hl 2 rfl) ?_
        refine lv_iload_n hx hb dX4_bind_161 rfl (lv_at hl 3 rfl) ?_
        refine yVi (As := [.int a1]) (cw := (cW o u cI cZ cJ T)) (ci := 4) S (v_X4_hasPlace l D cI cZ cJ o u T ra ga σ36 a1 _ H.size hok) mi_X4_hasPlace kw_1_158 rfl rfl ⟨Nat.le_of_ble_eq_true rfl, Nat.le_of_ble_eq_true rfl⟩ hP hD hK hS hA hB cW_20 rfl rfl hl.1 (Nat.le_of_ble_eq_true rfl) ⟨Nat.le_of_ble_eq_true rfl, Nat.le_of_ble_eq_true rfl⟩ dX4_bind_162 (fun x38 σ37 H locs hok hz hP hD hS => ?_)
        refine lv_if_eq (tgt := 180) hx hb dX4_bind_165 (by decide) (fun c_165 => ?_) (fun c_165 => ?_)
        · have hok := hok.1 c_165
          refine lv_aload_n hx hb dX4_bind_180 rfl (lv_at hl 2 rfl) ?_
          refine xg (ci := 4) S inX4 rfl hK hP cW_20 0 (by decide) rfl kw_4_87 rfl dX4_bind_181 ?_
          refine xg (ci := 1) S inX1 rfl hK hP cW_1 9 (by decide) rfl kw_4_0 rfl dX4_bind_184 ?_
          refine lv_iload_n hx hb dX4_bind_187 rfl (lv_at hl 0 rfl) ?_
          have h_188 := hok.1
          have hok := hok.2
          refine xiald (t0 := 0) (v := (g σ37 10 x32)) S hK hP cW_10 rfl h_188 rfl dX4_bind_188 ?_
          have h_189 := hok.1
          have hok := hok.2
          refine yiast (t0 := 0) (cw := (cW o u cI cZ cJ T)) S hK hP hD hS cW_25 rfl h_189 dX4_bind_189 cWa_25 (fun σ39 H locs eσ39 hP hD hS => ?_)
          have hok := hok σ39 eσ39
          exact yEndv S hr hlocks hP hD hS (Nat.le_of_ble_eq_true rfl) (Nat.le_of_ble_eq_true rfl) dX4_bind_190 hok
        · have hok := hok.2 c_165
          refine lv_aload_n hx hb dX4_bind_168 rfl (lv_at hl 2 rfl) ?_
          refine xg (ci := 4) S inX4 rfl hK hP cW_20 0 (by decide) rfl kw_4_87 rfl dX4_bind_169 ?_
          refine xg (ci := 1) S inX1 rfl hK hP cW_1 8 (by decide) rfl kw_3_238 rfl dX4_bind_172 ?_
          refine lv_iload_n hx hb dX4_bind_175 rfl (lv_at hl 0 rfl) ?_
          have h_176 := hok.1
          have hok := hok.2
          refine xiald (t0 := 0) (v := (g σ37 9 x32)) S hK hP cW_9 rfl h_176 rfl dX4_bind_176 ?_
          refine lv_goto (tgt := 189) hx hb dX4_bind_177 (by decide) ?_
          have h_189 := hok.1
          have hok := hok.2
          refine yiast (t0 := 0) (cw := (cW o u cI cZ cJ T)) S hK hP hD hS cW_25 rfl h_189 dX4_bind_189 cWa_25 (fun σ40 H locs eσ40 hP hD hS => ?_)
          have hok := hok σ40 eσ40
          exact yEndv S hr hlocks hP hD hS (Nat.le_of_ble_eq_true rfl) (Nat.le_of_ble_eq_true rfl) dX4_bind_190 hok
      · have hok := hok.1 c_70
        refine lv_aload_n hx hb dX4_bind_73 rfl (lv_at hl 1 rfl) ?_
        refine xg (ci := 4) S inX4 rfl hK hP cW_20 4 (by decide) rfl kw_4_94 rfl dX4_bind_74 ?_
        refine lv_iload_n hx hb dX4_bind_77 rfl (lv_at hl 2 rfl) ?_
        refine lv_iconst (v := (-1)) hx hb dX4_bind_78 (by decide) ?_
        have h_79 := hok.1
        have hok := hok.2
        refine yiast (t0 := 0) (cw := (cW o u cI cZ cJ T)) S hK hP hD hS cW_23 rfl h_79 dX4_bind_79 cWa_23 (fun σ41 H locs eσ41 hP hD hS => ?_)
        have hok := hok σ41 eσ41
        refine lv_aload_n hx hb dX4_bind_80 rfl (lv_at hl 1 rfl) ?_
        refine xg (ci := 4) S inX4 rfl hK hP cW_20 5 (by decide) rfl kw_4_97 rfl dX4_bind_81 ?_
        refine lv_iload_n hx hb dX4_bind_84 rfl (lv_at hl 2 rfl) ?_
        refine lv_iconst (v := (-1)) hx hb dX4_bind_85 (by decide) ?_
        have h_86 := hok.1
        have hok := hok.2
        refine yiast (t0 := 0) (cw := (cW o u cI cZ cJ T)) S hK hP hD hS cW_24 rfl h_86 dX4_bind_86 cWa_24 (fun σ42 H locs eσ42 hP hD hS => ?_)
        have hok := hok σ42 eσ42
        refine lv_aload_n hx hb dX4_bind_87 rfl (lv_at hl 1 rfl) ?_
        refine xg (ci := 4) S inX4 rfl hK hP cW_20 6 (by decide) rfl kw_4_101 rfl dX4_bind_88 ?_
        refine lv_iload_n hx hb dX4_bind_91 rfl (lv_at hl 2 rfl) ?_
        refine lv_iconst (v := (-1)) hx hb dX4_bind_92 (by decide) ?_
        have h_93 := hok.1
        have hok := hok.2
        refine yiast (t0 := 0) (cw := (cW o u cI cZ cJ T)) S hK hP hD hS cW_25 rfl h_93 dX4_bind_93 cWa_25 (fun σ43 H locs eσ43 hP hD hS => ?_)
        have hok := hok σ43 eσ43
        exact yEndv S hr hlocks hP hD hS (Nat.le_of_ble_eq_true rfl) (Nat.le_of_ble_eq_true rfl) dX4_bind_94 hok

set_option maxHeartbeats 8000000 in
set_option maxRecDepth 100000 in
theorem v_X4_isReckoned (l : Launch) (D : va_G) (cI cZ cJ : ClassId) (o : Nat) (u : Nat → Nat) (T : Nat) (ra : Nat → Nat) (ga : SG) (σ : FS) (a1 : Int32) (Φ : Int32 → FS → Prop) (sz : Nat) (hok : (wp_X4_isReckoned σ a1 Φ)) : Met l yX4_isReckoned (uW yX4_isReckoned cX4_isReckoned 1 (some .boolean)) ({ frames := 0, cells := 0, slots := 0, locals := 0 }) (va_Pc [.int a1] (aS ra ga D (tyL cI cZ cJ) (cW o u cI cZ cJ T σ) sz)) (yQi Φ D (cW o u cI cZ cJ T) (va_A (cW o u cI cZ cJ T σ) sz)) 0 0 (va_A (cW o u cI cZ cJ T σ) sz) := by
  refine aStart (lv := [(0, .int a1)]) (Qc := fun A => yQi Φ D (cW o u cI cZ cJ T) A) (by decide) (Nat.le_of_ble_eq_true rfl) rfl ?_
  intro p e s m args below meth c ls A H S hr hlocks hnm hl hK hP hD hS hA hB
  have hx := S.1
  have hb := S.2.1
  refine lv_iload_n hx hb dX4_isReckoned_0 rfl (lv_at hl 0 rfl) ?_
  refine lv_iconst (v := 3) hx hb dX4_isReckoned_1 (by decide) ?_
  refine lv_icmp_lt (tgt := 15) hx hb dX4_isReckoned_2 (by decide) (fun c_2 => ?_) (fun c_2 => ?_)
  · have hok := hok.1 c_2
    refine lv_iconst (v := 0) hx hb dX4_isReckoned_15 (by decide) ?_
    exact yEndZ S hr hlocks hP hD hS (Nat.le_of_ble_eq_true rfl) (Nat.le_of_ble_eq_true rfl) dX4_isReckoned_16 rfl hok
  · have hok := hok.2 c_2
    refine lv_iload_n hx hb dX4_isReckoned_5 rfl (lv_at hl 0 rfl) ?_
    refine lv_bipush (v := 7) hx hb dX4_isReckoned_6 (by decide) ?_
    refine lv_icmp_gt (tgt := 15) hx hb dX4_isReckoned_8 (by decide) (fun c_8 => ?_) (fun c_8 => ?_)
    · have hok := hok.1 c_8
      refine lv_iconst (v := 0) hx hb dX4_isReckoned_15 (by decide) ?_
      exact yEndZ S hr hlocks hP hD hS (Nat.le_of_ble_eq_true rfl) (Nat.le_of_ble_eq_true rfl) dX4_isReckoned_16 rfl hok
    · have hok := hok.2 c_8
      refine lv_iconst (v := 1) hx hb dX4_isReckoned_11 (by decide) ?_
      refine lv_goto (tgt := 16) hx hb dX4_isReckoned_12 (by decide) ?_
      exact yEndZ S hr hlocks hP hD hS (Nat.le_of_ble_eq_true rfl) (Nat.le_of_ble_eq_true rfl) dX4_isReckoned_16 rfl hok

set_option maxHeartbeats 8000000 in
set_option maxRecDepth 100000 in
theorem v_X4_isKnown (l : Launch) (D : va_G) (cI cZ cJ : ClassId) (o : Nat) (u : Nat → Nat) (T : Nat) (ra : Nat → Nat) (ga : SG) (σ : FS) (a1 : Int32) (Φ : Int32 → FS → Prop) (sz : Nat) (hok : (wp_X4_isKnown σ a1 Φ)) : Met l yX4_isKnown (uW yX4_isKnown cX4_isKnown 2 (some .boolean)) ({ frames := 0, cells := 0, slots := 0, locals := 0 }) (va_Pc [.ref (u 19), .int a1] (aS ra ga D (tyL cI cZ cJ) (cW o u cI cZ cJ T σ) sz)) (yQi Φ D (cW o u cI cZ cJ T) (va_A (cW o u cI cZ cJ T σ) sz)) 0 0 (va_A (cW o u cI cZ cJ T σ) sz) := by
  refine aStart (lv := [(0, .ref (u 19)), (1, .int a1)]) (Qc := fun A => yQi Φ D (cW o u cI cZ cJ T) A) (by decide) (Nat.le_of_ble_eq_true rfl) rfl ?_
  intro p e s m args below meth c ls A H S hr hlocks hnm hl hK hP hD hS hA hB
  have hx := S.1
  have hb := S.2.1
  refine lv_aload_n hx hb dX4_isKnown_0 rfl (lv_at hl 0 rfl) ?_
  refine xg (ci := 4) S inX4 rfl hK hP cW_20 1 (by decide) rfl kw_4_88 rfl dX4_isKnown_1 ?_
  refine xg (ci := 5) S inX5 rfl hK hP cW_13 1 (by decide) rfl kw_4_42 rfl dX4_isKnown_4 ?_
  refine lv_iload_n hx hb dX4_isKnown_7 rfl (lv_at hl 1 rfl) ?_
  have h_8 := hok.1
  have hok := hok.2
  refine xiald (t0 := 0) (v := (g σ 14 a1)) S hK hP cW_14 rfl h_8 rfl dX4_isKnown_8 ?_
  refine lv_if_eq (tgt := 21) hx hb dX4_isKnown_9 (by decide) (fun c_9 => ?_) (fun c_9 => ?_)
  · have hok := hok.1 c_9
    refine lv_iconst (v := 1) hx hb dX4_isKnown_21 (by decide) ?_
    refine lv_goto (tgt := 26) hx hb dX4_isKnown_22 (by decide) ?_
    exact yEndZ S hr hlocks hP hD hS (Nat.le_of_ble_eq_true rfl) (Nat.le_of_ble_eq_true rfl) dX4_isKnown_26 rfl hok
  · have hok := hok.2 c_9
    refine lv_aload_n hx hb dX4_isKnown_12 rfl (lv_at hl 0 rfl) ?_
    refine xg (ci := 4) S inX4 rfl hK hP cW_20 7 (by decide) rfl kw_4_104 rfl dX4_isKnown_13 ?_
    refine lv_iload_n hx hb dX4_isKnown_16 rfl (lv_at hl 1 rfl) ?_
    have h_17 := hok.1
    have hok := hok.2
    refine xzald (t0 := 1) (v := (g σ 26 a1)) S hK hP cW_26 rfl h_17 rfl dX4_isKnown_17 ?_
    refine lv_if_eq (tgt := 25) hx hb dX4_isKnown_18 (by decide) (fun c_18 => ?_) (fun c_18 => ?_)
    · have hok := hok.1 c_18
      refine lv_iconst (v := 0) hx hb dX4_isKnown_25 (by decide) ?_
      exact yEndZ S hr hlocks hP hD hS (Nat.le_of_ble_eq_true rfl) (Nat.le_of_ble_eq_true rfl) dX4_isKnown_26 rfl hok
    · have hok := hok.2 c_18
      refine lv_iconst (v := 1) hx hb dX4_isKnown_21 (by decide) ?_
      refine lv_goto (tgt := 26) hx hb dX4_isKnown_22 (by decide) ?_
      exact yEndZ S hr hlocks hP hD hS (Nat.le_of_ble_eq_true rfl) (Nat.le_of_ble_eq_true rfl) dX4_isKnown_26 rfl hok

set_option maxHeartbeats 8000000 in
set_option maxRecDepth 100000 in
theorem v_X4_reckon (l : Launch) (D : va_G) (cI cZ cJ : ClassId) (o : Nat) (u : Nat → Nat) (T : Nat) (ra : Nat → Nat) (ga : SG) (σ : FS) (a1 : Int32) (a2 : Int32) (a3 : Int32) (Φ : Int32 → FS → Prop) (sz : Nat) (hok : (wp_X4_reckon σ a1 a2 a3 Φ)) : Met l yX4_reckon (uW yX4_reckon cX4_reckon 3 (some .int)) ({ frames := 0, cells := 0, slots := 0, locals := 0 }) (va_Pc [.int a1, .int a2, .int a3] (aS ra ga D (tyL cI cZ cJ) (cW o u cI cZ cJ T σ) sz)) (yQi Φ D (cW o u cI cZ cJ T) (va_A (cW o u cI cZ cJ T σ) sz)) 0 0 (va_A (cW o u cI cZ cJ T σ) sz) := by
  refine aStart (lv := [(0, .int a1), (1, .int a2), (2, .int a3)]) (Qc := fun A => yQi Φ D (cW o u cI cZ cJ T) A) (by decide) (Nat.le_of_ble_eq_true rfl) rfl ?_
  intro p e s m args below meth c ls A H S hr hlocks hnm hl hK hP hD hS hA hB
  have hx := S.1
  have hb := S.2.1
  refine lv_iload_n hx hb dX4_reckon_0 rfl (lv_at hl 0 rfl) ?_
  by_cases k_1_0 : a1 = 3
  · have hok := hok.1 k_1_0
    rw [k_1_0]
    refine lv_tableIn (off := 31) (tgt := 32) hx hb dX4_reckon_1 (by decide) (by decide) (by decide) (by decide) ?_
    refine lv_iload_n hx hb dX4_reckon_32 rfl (lv_at hl 1 rfl) ?_
    refine lv_iload_n hx hb dX4_reckon_33 rfl (lv_at hl 2 rfl) ?_
    refine xiadd (v := a2 + a3) S dX4_reckon_34 rfl ?_
    exact yEnd S hr hlocks hP hD hS (Nat.le_of_ble_eq_true rfl) (Nat.le_of_ble_eq_true rfl) dX4_reckon_35 hok
  · have hok := hok.2 k_1_0
    by_cases k_1_1 : a1 = 4
    · have hok := hok.1 k_1_1
      rw [k_1_1]
      refine lv_tableIn (off := 35) (tgt := 36) hx hb dX4_reckon_1 (by decide) (by decide) (by decide) (by decide) ?_
      refine lv_iload_n hx hb dX4_reckon_36 rfl (lv_at hl 1 rfl) ?_
      refine lv_iload_n hx hb dX4_reckon_37 rfl (lv_at hl 2 rfl) ?_
      refine xisub (v := a2 - a3) S dX4_reckon_38 rfl ?_
      exact yEnd S hr hlocks hP hD hS (Nat.le_of_ble_eq_true rfl) (Nat.le_of_ble_eq_true rfl) dX4_reckon_39 hok
    · have hok := hok.2 k_1_1
      by_cases k_1_2 : a1 = 5
      · have hok := hok.1 k_1_2
        rw [k_1_2]
        refine lv_tableIn (off := 39) (tgt := 40) hx hb dX4_reckon_1 (by decide) (by decide) (by decide) (by decide) ?_
        refine lv_iload_n hx hb dX4_reckon_40 rfl (lv_at hl 1 rfl) ?_
        refine lv_iload_n hx hb dX4_reckon_41 rfl (lv_at hl 2 rfl) ?_
        refine ximul (v := a2 * a3) S dX4_reckon_42 rfl ?_
        exact yEnd S hr hlocks hP hD hS (Nat.le_of_ble_eq_true rfl) (Nat.le_of_ble_eq_true rfl) dX4_reckon_43 hok
      · have hok := hok.2 k_1_2
        by_cases k_1_3 : a1 = 6
        · have hok := hok.1 k_1_3
          rw [k_1_3]
          refine lv_tableIn (off := 43) (tgt := 44) hx hb dX4_reckon_1 (by decide) (by decide) (by decide) (by decide) ?_
          refine lv_iload_n hx hb dX4_reckon_44 rfl (lv_at hl 2 rfl) ?_
          refine lv_if_ne (tgt := 52) hx hb dX4_reckon_45 (by decide) (fun c_45 => ?_) (fun c_45 => ?_)
          · have hok := hok.2 c_45
            refine lv_iload_n hx hb dX4_reckon_52 rfl (lv_at hl 1 rfl) ?_
            refine lv_iload_n hx hb dX4_reckon_53 rfl (lv_at hl 2 rfl) ?_
            have h_54 := hok.1
            have hok := hok.2
            refine xidiv (v := a2 / a3) S dX4_reckon_54 h_54 rfl ?_
            exact yEnd S hr hlocks hP hD hS (Nat.le_of_ble_eq_true rfl) (Nat.le_of_ble_eq_true rfl) dX4_reckon_55 hok
          · have hok := hok.1 c_45
            refine lv_iconst (v := 0) hx hb dX4_reckon_48 (by decide) ?_
            refine lv_goto (tgt := 55) hx hb dX4_reckon_49 (by decide) ?_
            exact yEnd S hr hlocks hP hD hS (Nat.le_of_ble_eq_true rfl) (Nat.le_of_ble_eq_true rfl) dX4_reckon_55 hok
        · have hok := hok.2 k_1_3
          have q_1_0 := sw_ni k_1_0 (z := 3) (by decide)
          have q_1_1 := sw_ni k_1_1 (z := 4) (by decide)
          have q_1_2 := sw_ni k_1_2 (z := 5) (by decide)
          have q_1_3 := sw_ni k_1_3 (z := 6) (by decide)
          refine lv_tableOut (tgt := 56) hx hb dX4_reckon_1 (by omega) (by decide) ?_
          refine lv_iload_n hx hb dX4_reckon_56 rfl (lv_at hl 1 rfl) ?_
          refine lv_iload_n hx hb dX4_reckon_57 rfl (lv_at hl 2 rfl) ?_
          refine lv_icmp_ge (tgt := 65) hx hb dX4_reckon_58 (by decide) (fun c_58 => ?_) (fun c_58 => ?_)
          · have hok := hok.1 c_58
            refine lv_iconst (v := 0) hx hb dX4_reckon_65 (by decide) ?_
            exact yEnd S hr hlocks hP hD hS (Nat.le_of_ble_eq_true rfl) (Nat.le_of_ble_eq_true rfl) dX4_reckon_66 hok
          · have hok := hok.2 c_58
            refine lv_iconst (v := 1) hx hb dX4_reckon_61 (by decide) ?_
            refine lv_goto (tgt := 66) hx hb dX4_reckon_62 (by decide) ?_
            exact yEnd S hr hlocks hP hD hS (Nat.le_of_ble_eq_true rfl) (Nat.le_of_ble_eq_true rfl) dX4_reckon_66 hok

set_option maxHeartbeats 8000000 in
set_option maxRecDepth 100000 in
theorem v_X4_fold (l : Launch) (D : va_G) (cI cZ cJ : ClassId) (o : Nat) (u : Nat → Nat) (T : Nat) (ra : Nat → Nat) (ga : SG) (σ : FS) (a1 : Int32) (Φ : FS → Prop) (sz : Nat) (hok : (wp_X4_fold σ a1 Φ)) : Met l yX4_fold (uW yX4_fold cX4_fold 4 none) ({ frames := 1, cells := 0, slots := 0, locals := 22 }) (va_Pc [.ref (u 19), .int a1] (aS ra ga D (tyL cI cZ cJ) (cW o u cI cZ cJ T σ) sz)) (yQv Φ D (cW o u cI cZ cJ T) (va_A (cW o u cI cZ cJ T σ) sz)) 0 0 (va_A (cW o u cI cZ cJ T σ) sz) := by
  refine aStart (lv := [(0, .ref (u 19)), (1, .int a1)]) (Qc := fun A => yQv Φ D (cW o u cI cZ cJ T) A) (by decide) (Nat.le_of_ble_eq_true rfl) rfl ?_
  intro p e s m args below meth c ls A H S hr hlocks hnm hl hK hP hD hS hA hB
  have hx := S.1
  have hb := S.2.1
  refine lv_aload_n hx hb dX4_fold_0 rfl (lv_at hl 0 rfl) ?_
  refine xg (ci := 4) S inX4 rfl hK hP cW_20 7 (by decide) rfl kw_4_104 rfl dX4_fold_1 ?_
  refine lv_iload_n hx hb dX4_fold_4 rfl (lv_at hl 1 rfl) ?_
  refine lv_iconst (v := 0) hx hb dX4_fold_5 (by decide) ?_
  have h_6 := hok.1
  have hok := hok.2
  refine yzast (t0 := 1) (cw := (cW o u cI cZ cJ T)) S hK hP hD hS cW_26 rfl h_6 dX4_fold_6 (cWa_26 (Or.inl rfl)) (fun σ1 H locs eσ1 hP hD hS => ?_)
  have hok := hok σ1 eσ1
  refine lv_aload_n hx hb dX4_fold_7 rfl (lv_at hl 0 rfl) ?_
  refine xg (ci := 4) S inX4 rfl hK hP cW_20 1 (by decide) rfl kw_4_88 rfl dX4_fold_8 ?_
  refine xg (ci := 5) S inX5 rfl hK hP cW_13 1 (by decide) rfl kw_4_42 rfl dX4_fold_11 ?_
  refine lv_iload_n hx hb dX4_fold_14 rfl (lv_at hl 1 rfl) ?_
  have h_15 := hok.1
  have hok := hok.2
  refine xiald (t0 := 0) (v := (g σ1 14 a1)) S hK hP cW_14 rfl h_15 rfl dX4_fold_15 ?_
  refine lv_if_ne (tgt := 37) hx hb dX4_fold_16 (by decide) (fun c_16 => ?_) (fun c_16 => ?_)
  · have hok := hok.2 c_16
    refine lv_aload_n hx hb dX4_fold_37 rfl (lv_at hl 0 rfl) ?_
    refine xg (ci := 4) S inX4 rfl hK hP cW_20 1 (by decide) rfl kw_4_88 rfl dX4_fold_38 ?_
    refine xg (ci := 5) S inX5 rfl hK hP cW_13 1 (by decide) rfl kw_4_42 rfl dX4_fold_41 ?_
    refine lv_iload_n hx hb dX4_fold_44 rfl (lv_at hl 1 rfl) ?_
    have h_45 := hok.1
    have hok := hok.2
    refine xiald (t0 := 0) (v := (g σ1 14 a1)) S hK hP cW_14 rfl h_45 rfl dX4_fold_45 ?_
    refine ySi (As := [.int (g σ1 14 a1)]) (cw := (cW o u cI cZ cJ T)) S (v_X4_isReckoned l D cI cZ cJ o u T ra ga σ1 (g σ1 14 a1) _ H.size hok) ms_X4_isReckoned kw_1_166 rfl rfl ⟨Nat.le_of_ble_eq_true rfl, Nat.le_of_ble_eq_true rfl⟩ hP hD hK hS hA hB hl.1 (Nat.le_of_ble_eq_true rfl) ⟨Nat.le_of_ble_eq_true rfl, Nat.le_of_ble_eq_true rfl⟩ dX4_fold_46 (fun x3 σ2 H locs hok hz hP hD hS => ?_)
    refine lv_if_eq (tgt := 163) hx hb dX4_fold_49 (by decide) (fun c_49 => ?_) (fun c_49 => ?_)
    · have hok := hok.1 c_49
      exact yEndv S hr hlocks hP hD hS (Nat.le_of_ble_eq_true rfl) (Nat.le_of_ble_eq_true rfl) dX4_fold_163 hok
    · have hok := hok.2 c_49
      refine lv_aload_n hx hb dX4_fold_52 rfl (lv_at hl 0 rfl) ?_
      refine lv_aload_n hx hb dX4_fold_53 rfl (lv_at hl 0 rfl) ?_
      refine xg (ci := 4) S inX4 rfl hK hP cW_20 1 (by decide) rfl kw_4_88 rfl dX4_fold_54 ?_
      refine xg (ci := 5) S inX5 rfl hK hP cW_13 3 (by decide) rfl kw_4_51 rfl dX4_fold_57 ?_
      refine lv_iload_n hx hb dX4_fold_60 rfl (lv_at hl 1 rfl) ?_
      have h_61 := hok.1
      have hok := hok.2
      refine xiald (t0 := 0) (v := (g σ2 16 a1)) S hK hP cW_16 rfl h_61 rfl dX4_fold_61 ?_
      refine yVi (As := [.int (g σ2 16 a1)]) (cw := (cW o u cI cZ cJ T)) (ci := 4) S (v_X4_isKnown l D cI cZ cJ o u T ra ga σ2 (g σ2 16 a1) _ H.size hok) mi_X4_isKnown kw_1_169 rfl rfl ⟨Nat.le_of_ble_eq_true rfl, Nat.le_of_ble_eq_true rfl⟩ hP hD hK hS hA hB cW_20 rfl rfl hl.1 (Nat.le_of_ble_eq_true rfl) ⟨Nat.le_of_ble_eq_true rfl, Nat.le_of_ble_eq_true rfl⟩ dX4_fold_62 (fun x5 σ4 H locs hok hz hP hD hS => ?_)
      refine lv_if_eq (tgt := 163) hx hb dX4_fold_65 (by decide) (fun c_65 => ?_) (fun c_65 => ?_)
      · have hok := hok.1 c_65
        exact yEndv S hr hlocks hP hD hS (Nat.le_of_ble_eq_true rfl) (Nat.le_of_ble_eq_true rfl) dX4_fold_163 hok
      · have hok := hok.2 c_65
        refine lv_aload_n hx hb dX4_fold_68 rfl (lv_at hl 0 rfl) ?_
        refine lv_aload_n hx hb dX4_fold_69 rfl (lv_at hl 0 rfl) ?_
        refine xg (ci := 4) S inX4 rfl hK hP cW_20 1 (by decide) rfl kw_4_88 rfl dX4_fold_70 ?_
        refine xg (ci := 5) S inX5 rfl hK hP cW_13 4 (by decide) rfl kw_4_56 rfl dX4_fold_73 ?_
        refine lv_iload_n hx hb dX4_fold_76 rfl (lv_at hl 1 rfl) ?_
        have h_77 := hok.1
        have hok := hok.2
        refine xiald (t0 := 0) (v := (g σ4 17 a1)) S hK hP cW_17 rfl h_77 rfl dX4_fold_77 ?_
        refine yVi (As := [.int (g σ4 17 a1)]) (cw := (cW o u cI cZ cJ T)) (ci := 4) S (v_X4_isKnown l D cI cZ cJ o u T ra ga σ4 (g σ4 17 a1) _ H.size hok) mi_X4_isKnown kw_1_169 rfl rfl ⟨Nat.le_of_ble_eq_true rfl, Nat.le_of_ble_eq_true rfl⟩ hP hD hK hS hA hB cW_20 rfl rfl hl.1 (Nat.le_of_ble_eq_true rfl) ⟨Nat.le_of_ble_eq_true rfl, Nat.le_of_ble_eq_true rfl⟩ dX4_fold_78 (fun x7 σ6 H locs hok hz hP hD hS => ?_)
        refine lv_if_eq (tgt := 163) hx hb dX4_fold_81 (by decide) (fun c_81 => ?_) (fun c_81 => ?_)
        · have hok := hok.1 c_81
          exact yEndv S hr hlocks hP hD hS (Nat.le_of_ble_eq_true rfl) (Nat.le_of_ble_eq_true rfl) dX4_fold_163 hok
        · have hok := hok.2 c_81
          refine lv_aload_n hx hb dX4_fold_84 rfl (lv_at hl 0 rfl) ?_
          refine xg (ci := 4) S inX4 rfl hK hP cW_20 8 (by decide) rfl kw_4_107 rfl dX4_fold_85 ?_
          refine lv_aload_n hx hb dX4_fold_88 rfl (lv_at hl 0 rfl) ?_
          refine xg (ci := 4) S inX4 rfl hK hP cW_20 1 (by decide) rfl kw_4_88 rfl dX4_fold_89 ?_
          refine xg (ci := 5) S inX5 rfl hK hP cW_13 3 (by decide) rfl kw_4_51 rfl dX4_fold_92 ?_
          refine lv_iload_n hx hb dX4_fold_95 rfl (lv_at hl 1 rfl) ?_
          have h_96 := hok.1
          have hok := hok.2
          refine xiald (t0 := 0) (v := (g σ6 16 a1)) S hK hP cW_16 rfl h_96 rfl dX4_fold_96 ?_
          have h_97 := hok.1
          have hok := hok.2
          refine xiald (t0 := 0) (v := (g σ6 27 (g σ6 16 a1))) S hK hP cW_27 rfl h_97 rfl dX4_fold_97 ?_
          refine lv_topi (fun x8 ex8 => ?_)
          have hok := hok x8 ex8
          refine lv_istore_n (lv' := [(2, .int x8), (0, .ref (u 19)), (1, .int a1)]) hx hb dX4_fold_98 rfl hl (by decide) rfl (fun ls hl => ?_)
          refine lv_aload_n hx hb dX4_fold_99 rfl (lv_at hl 1 rfl) ?_
          refine xg (ci := 4) S inX4 rfl hK hP cW_20 8 (by decide) rfl kw_4_107 rfl dX4_fold_100 ?_
          refine lv_aload_n hx hb dX4_fold_103 rfl (lv_at hl 1 rfl) ?_
          refine xg (ci := 4) S inX4 rfl hK hP cW_20 1 (by decide) rfl kw_4_88 rfl dX4_fold_104 ?_
          refine xg (ci := 5) S inX5 rfl hK hP cW_13 4 (by decide) rfl kw_4_56 rfl dX4_fold_107 ?_
          refine lv_iload_n hx hb dX4_fold_110 rfl (lv_at hl 2 rfl) ?_
          have h_111 := hok.1
          have hok := hok.2
          refine xiald (t0 := 0) (v := (g σ6 17 a1)) S hK hP cW_17 rfl h_111 rfl dX4_fold_111 ?_
          have h_112 := hok.1
          have hok := hok.2
          refine xiald (t0 := 0) (v := (g σ6 27 (g σ6 17 a1))) S hK hP cW_27 rfl h_112 rfl dX4_fold_112 ?_
          refine lv_topi (fun x9 ex9 => ?_)
          have hok := hok x9 ex9
          refine lv_istore_n (lv' := [(3, .int x9), (2, .int x8), (0, .ref (u 19)), (1, .int a1)]) hx hb dX4_fold_113 rfl hl (by decide) rfl (fun ls hl => ?_)
          refine lv_aload_n hx hb dX4_fold_114 rfl (lv_at hl 2 rfl) ?_
          refine xg (ci := 4) S inX4 rfl hK hP cW_20 7 (by decide) rfl kw_4_104 rfl dX4_fold_115 ?_
          refine lv_iload_n hx hb dX4_fold_118 rfl (lv_at hl 3 rfl) ?_
          refine lv_aload_n hx hb dX4_fold_119 rfl (lv_at hl 2 rfl) ?_
          refine xg (ci := 4) S inX4 rfl hK hP cW_20 1 (by decide) rfl kw_4_88 rfl dX4_fold_120 ?_
          refine xg (ci := 5) S inX5 rfl hK hP cW_13 1 (by decide) rfl kw_4_42 rfl dX4_fold_123 ?_
          refine lv_iload_n hx hb dX4_fold_126 rfl (lv_at hl 3 rfl) ?_
          have h_127 := hok.1
          have hok := hok.2
          refine xiald (t0 := 0) (v := (g σ6 14 a1)) S hK hP cW_14 rfl h_127 rfl dX4_fold_127 ?_
          refine lv_bipush (v := 6) hx hb dX4_fold_128 (by decide) ?_
          refine lv_icmp_ne (tgt := 137) hx hb dX4_fold_130 (by decide) (fun c_130 => ?_) (fun c_130 => ?_)
          · have hok := hok.2 c_130
            refine lv_iconst (v := 1) hx hb dX4_fold_137 (by decide) ?_
            refine lv_goto (tgt := 142) hx hb dX4_fold_138 (by decide) ?_
            have h_142 := hok.1
            have hok := hok.2
            refine yzast (t0 := 1) (cw := (cW o u cI cZ cJ T)) S hK hP hD hS cW_26 rfl h_142 dX4_fold_142 (cWa_26 (Or.inr rfl)) (fun σ10 H locs eσ10 hP hD hS => ?_)
            have hok := hok σ10 eσ10
            refine lv_aload_n hx hb dX4_fold_143 rfl (lv_at hl 2 rfl) ?_
            refine xg (ci := 4) S inX4 rfl hK hP cW_20 8 (by decide) rfl kw_4_107 rfl dX4_fold_144 ?_
            refine lv_iload_n hx hb dX4_fold_147 rfl (lv_at hl 3 rfl) ?_
            refine lv_aload_n hx hb dX4_fold_148 rfl (lv_at hl 2 rfl) ?_
            refine xg (ci := 4) S inX4 rfl hK hP cW_20 1 (by decide) rfl kw_4_88 rfl dX4_fold_149 ?_
            refine xg (ci := 5) S inX5 rfl hK hP cW_13 1 (by decide) rfl kw_4_42 rfl dX4_fold_152 ?_
            refine lv_iload_n hx hb dX4_fold_155 rfl (lv_at hl 3 rfl) ?_
            have h_156 := hok.1
            have hok := hok.2
            refine xiald (t0 := 0) (v := (g σ10 14 a1)) S hK hP cW_14 rfl h_156 rfl dX4_fold_156 ?_
            refine lv_iload_n hx hb dX4_fold_157 rfl (lv_at hl 1 rfl) ?_
            refine lv_iload_n hx hb dX4_fold_158 rfl (lv_at hl 0 rfl) ?_
            refine ySi (As := [.int (g σ10 14 a1), .int x8, .int x9]) (cw := (cW o u cI cZ cJ T)) S (v_X4_reckon l D cI cZ cJ o u T ra ga σ10 (g σ10 14 a1) x8 x9 _ H.size hok) ms_X4_reckon kw_1_173 rfl rfl ⟨Nat.le_of_ble_eq_true rfl, Nat.le_of_ble_eq_true rfl⟩ hP hD hK hS hA hB hl.1 (Nat.le_of_ble_eq_true rfl) ⟨Nat.le_of_ble_eq_true rfl, Nat.le_of_ble_eq_true rfl⟩ dX4_fold_159 (fun x12 σ11 H locs hok hz hP hD hS => ?_)
            have h_162 := hok.1
            have hok := hok.2
            refine yiast (t0 := 0) (cw := (cW o u cI cZ cJ T)) S hK hP hD hS cW_27 rfl h_162 dX4_fold_162 cWa_27 (fun σ13 H locs eσ13 hP hD hS => ?_)
            have hok := hok σ13 eσ13
            exact yEndv S hr hlocks hP hD hS (Nat.le_of_ble_eq_true rfl) (Nat.le_of_ble_eq_true rfl) dX4_fold_163 hok
          · have hok := hok.1 c_130
            refine lv_iload_n hx hb dX4_fold_133 rfl (lv_at hl 0 rfl) ?_
            refine lv_if_eq (tgt := 141) hx hb dX4_fold_134 (by decide) (fun c_134 => ?_) (fun c_134 => ?_)
            · have hok := hok.1 c_134
              refine lv_iconst (v := 0) hx hb dX4_fold_141 (by decide) ?_
              have h_142 := hok.1
              have hok := hok.2
              refine yzast (t0 := 1) (cw := (cW o u cI cZ cJ T)) S hK hP hD hS cW_26 rfl h_142 dX4_fold_142 (cWa_26 (Or.inl rfl)) (fun σ14 H locs eσ14 hP hD hS => ?_)
              have hok := hok σ14 eσ14
              refine lv_aload_n hx hb dX4_fold_143 rfl (lv_at hl 2 rfl) ?_
              refine xg (ci := 4) S inX4 rfl hK hP cW_20 8 (by decide) rfl kw_4_107 rfl dX4_fold_144 ?_
              refine lv_iload_n hx hb dX4_fold_147 rfl (lv_at hl 3 rfl) ?_
              refine lv_aload_n hx hb dX4_fold_148 rfl (lv_at hl 2 rfl) ?_
              refine xg (ci := 4) S inX4 rfl hK hP cW_20 1 (by decide) rfl kw_4_88 rfl dX4_fold_149 ?_
              refine xg (ci := 5) S inX5 rfl hK hP cW_13 1 (by decide) rfl kw_4_42 rfl dX4_fold_152 ?_
              refine lv_iload_n hx hb dX4_fold_155 rfl (lv_at hl 3 rfl) ?_
              have h_156 := hok.1
              have hok := hok.2
              refine xiald (t0 := 0) (v := (g σ14 14 a1)) S hK hP cW_14 rfl h_156 rfl dX4_fold_156 ?_
              refine lv_iload_n hx hb dX4_fold_157 rfl (lv_at hl 1 rfl) ?_
              refine lv_iload_n hx hb dX4_fold_158 rfl (lv_at hl 0 rfl) ?_
              refine ySi (As := [.int (g σ14 14 a1), .int x8, .int x9]) (cw := (cW o u cI cZ cJ T)) S (v_X4_reckon l D cI cZ cJ o u T ra ga σ14 (g σ14 14 a1) x8 x9 _ H.size hok) ms_X4_reckon kw_1_173 rfl rfl ⟨Nat.le_of_ble_eq_true rfl, Nat.le_of_ble_eq_true rfl⟩ hP hD hK hS hA hB hl.1 (Nat.le_of_ble_eq_true rfl) ⟨Nat.le_of_ble_eq_true rfl, Nat.le_of_ble_eq_true rfl⟩ dX4_fold_159 (fun x16 σ15 H locs hok hz hP hD hS => ?_)
              have h_162 := hok.1
              have hok := hok.2
              refine yiast (t0 := 0) (cw := (cW o u cI cZ cJ T)) S hK hP hD hS cW_27 rfl h_162 dX4_fold_162 cWa_27 (fun σ17 H locs eσ17 hP hD hS => ?_)
              have hok := hok σ17 eσ17
              exact yEndv S hr hlocks hP hD hS (Nat.le_of_ble_eq_true rfl) (Nat.le_of_ble_eq_true rfl) dX4_fold_163 hok
            · have hok := hok.2 c_134
              refine lv_iconst (v := 1) hx hb dX4_fold_137 (by decide) ?_
              refine lv_goto (tgt := 142) hx hb dX4_fold_138 (by decide) ?_
              have h_142 := hok.1
              have hok := hok.2
              refine yzast (t0 := 1) (cw := (cW o u cI cZ cJ T)) S hK hP hD hS cW_26 rfl h_142 dX4_fold_142 (cWa_26 (Or.inr rfl)) (fun σ18 H locs eσ18 hP hD hS => ?_)
              have hok := hok σ18 eσ18
              refine lv_aload_n hx hb dX4_fold_143 rfl (lv_at hl 2 rfl) ?_
              refine xg (ci := 4) S inX4 rfl hK hP cW_20 8 (by decide) rfl kw_4_107 rfl dX4_fold_144 ?_
              refine lv_iload_n hx hb dX4_fold_147 rfl (lv_at hl 3 rfl) ?_
              refine lv_aload_n hx hb dX4_fold_148 rfl (lv_at hl 2 rfl) ?_
              refine xg (ci := 4) S inX4 rfl hK hP cW_20 1 (by decide) rfl kw_4_88 rfl dX4_fold_149 ?_
              refine xg (ci := 5) S inX5 rfl hK hP cW_13 1 (by decide) rfl kw_4_42 rfl dX4_fold_152 ?_
              refine lv_iload_n hx hb dX4_fold_155 rfl (lv_at hl 3 rfl) ?_
              have h_156 := hok.1
              have hok := hok.2
              refine xiald (t0 := 0) (v := (g σ18 14 a1)) S hK hP cW_14 rfl h_156 rfl dX4_fold_156 ?_
              refine lv_iload_n hx hb dX4_fold_157 rfl (lv_at hl 1 rfl) ?_
              refine lv_iload_n hx hb dX4_fold_158 rfl (lv_at hl 0 rfl) ?_
              refine ySi (As := [.int (g σ18 14 a1), .int x8, .int x9]) (cw := (cW o u cI cZ cJ T)) S (v_X4_reckon l D cI cZ cJ o u T ra ga σ18 (g σ18 14 a1) x8 x9 _ H.size hok) ms_X4_reckon kw_1_173 rfl rfl ⟨Nat.le_of_ble_eq_true rfl, Nat.le_of_ble_eq_true rfl⟩ hP hD hK hS hA hB hl.1 (Nat.le_of_ble_eq_true rfl) ⟨Nat.le_of_ble_eq_true rfl, Nat.le_of_ble_eq_true rfl⟩ dX4_fold_159 (fun x20 σ19 H locs hok hz hP hD hS => ?_)
              have h_162 := hok.1
              have hok := hok.2
              refine yiast (t0 := 0) (cw := (cW o u cI cZ cJ T)) S hK hP hD hS cW_27 rfl h_162 dX4_fold_162 cWa_27 (fun σ21 H locs eσ21 hP hD hS => ?_)
              have hok := hok σ21 eσ21
              exact yEndv S hr hlocks hP hD hS (Nat.le_of_ble_eq_true rfl) (Nat.le_of_ble_eq_true rfl) dX4_fold_163 hok
  · have hok := hok.1 c_16
    refine lv_aload_n hx hb dX4_fold_19 rfl (lv_at hl 0 rfl) ?_
    refine xg (ci := 4) S inX4 rfl hK hP cW_20 8 (by decide) rfl kw_4_107 rfl dX4_fold_20 ?_
    refine lv_iload_n hx hb dX4_fold_23 rfl (lv_at hl 1 rfl) ?_
    refine lv_aload_n hx hb dX4_fold_24 rfl (lv_at hl 0 rfl) ?_
    refine xg (ci := 4) S inX4 rfl hK hP cW_20 1 (by decide) rfl kw_4_88 rfl dX4_fold_25 ?_
    refine xg (ci := 5) S inX5 rfl hK hP cW_13 2 (by decide) rfl kw_4_47 rfl dX4_fold_28 ?_
    refine lv_iload_n hx hb dX4_fold_31 rfl (lv_at hl 1 rfl) ?_
    have h_32 := hok.1
    have hok := hok.2
    refine xiald (t0 := 0) (v := (g σ1 15 a1)) S hK hP cW_15 rfl h_32 rfl dX4_fold_32 ?_
    have h_33 := hok.1
    have hok := hok.2
    refine yiast (t0 := 0) (cw := (cW o u cI cZ cJ T)) S hK hP hD hS cW_27 rfl h_33 dX4_fold_33 cWa_27 (fun σ22 H locs eσ22 hP hD hS => ?_)
    have hok := hok σ22 eσ22
    refine lv_goto (tgt := 163) hx hb dX4_fold_34 (by decide) ?_
    exact yEndv S hr hlocks hP hD hS (Nat.le_of_ble_eq_true rfl) (Nat.le_of_ble_eq_true rfl) dX4_fold_163 hok

set_option maxHeartbeats 8000000 in
set_option maxRecDepth 100000 in
theorem v_X4_findHandedOn (l : Launch) (D : va_G) (cI cZ cJ : ClassId) (o : Nat) (u : Nat → Nat) (T : Nat) (ra : Nat → Nat) (ga : SG) (σ : FS) (Φ : FS → Prop) (sz : Nat) (hok : (wp_X4_findHandedOn σ Φ)) : Met l yX4_findHandedOn (uW yX4_findHandedOn cX4_findHandedOn 2 none) ({ frames := 1, cells := 0, slots := 0, locals := 23 }) (va_Pc [.ref (u 19)] (aS ra ga D (tyL cI cZ cJ) (cW o u cI cZ cJ T σ) sz)) (yQv Φ D (cW o u cI cZ cJ T) (va_A (cW o u cI cZ cJ T σ) sz)) 0 0 (va_A (cW o u cI cZ cJ T σ) sz) := by
  refine aStart (lv := [(0, .ref (u 19))]) (Qc := fun A => yQv Φ D (cW o u cI cZ cJ T) A) (by decide) (Nat.le_of_ble_eq_true rfl) rfl ?_
  intro p e s m args below meth c ls A H S hr hlocks hnm hl hK hP hD hS hA hB
  have hx := S.1
  have hb := S.2.1
  refine lv_aload_n hx hb dX4_findHandedOn_0 rfl (lv_at hl 0 rfl) ?_
  refine xg (ci := 4) S inX4 rfl hK hP cW_20 14 (by decide) rfl kw_4_122 rfl dX4_findHandedOn_1 ?_
  refine lv_iconst (v := 0) hx hb dX4_findHandedOn_4 (by decide) ?_
  refine rSf (As := [.ref (u 32), .int 0]) (k := 33) S (c_fill l D cI cZ cJ (u 32) 10 (by decide) (σ.1 33) 0 H.size) ms_J7_fill_53178 kw_1_180 rfl rfl ⟨Nat.le_of_ble_eq_true rfl, Nat.le_of_ble_eq_true rfl⟩ hP hD hK hS hA cW_33 hl.1 (Nat.le_of_ble_eq_true rfl) ⟨Nat.le_of_ble_eq_true rfl, Nat.le_of_ble_eq_true rfl⟩ dX4_findHandedOn_5 (fun H locs hz hP hD hS => ?_)
  have hP : va_P D vwCl (cW o u cI cZ cJ T (sC σ 33 0)) H := cWf_33 ▸ hP
  have hD : va_D A (cW o u cI cZ cJ T (sC σ 33 0)) := cWf_33 ▸ hD
  obtain ⟨σ1, eσ1⟩ : ∃ z : FS, z = sC σ 33 0 := ⟨_, rfl⟩
  rw [← eσ1] at hP hD
  have hok := hok σ1 eσ1
  refine lv_iconst (v := 0) hx hb dX4_findHandedOn_8 (by decide) ?_
  refine lv_istore_n (lv' := [(1, .int 0), (0, .ref (u 19))]) hx hb dX4_findHandedOn_9 rfl hl (by decide) rfl (fun ls hl => ?_)
  have lp10 : ∀ (K : FS → Int32 → Prop), (∀ (τ0 : FS) (l1_0 : Int32) (H : Heap) (locs : List Loc) (ls : Array Slot), K τ0 l1_0 → lv_has ls 2 [(1, .int l1_0), (0, .ref (u 19))] → va_P D vwCl (cW o u cI cZ cJ T τ0) H → va_D A (cW o u cI cZ cJ T τ0) → va_S A s.heap H locs → W p l e ({ frames := 1, cells := 0, slots := 0, locals := 23 }) s m args below meth c H locs 0 0 (MQ below (yQv Φ D (cW o u cI cZ cJ T) A) args s 0 0 A) (F0 m 29 ls [])) → ∀ (n0 : Nat) (τ0 : FS) (l1_0 : Int32) (H : Heap) (locs : List Loc) (ls : Array Slot), wp_X4_findHandedOn_10 Φ K n0 τ0 l1_0 → lv_has ls 2 [(1, .int l1_0), (0, .ref (u 19))] → va_P D vwCl (cW o u cI cZ cJ T τ0) H → va_D A (cW o u cI cZ cJ T τ0) → va_S A s.heap H locs → W p l e ({ frames := 1, cells := 0, slots := 0, locals := 23 }) s m args below meth c H locs 0 0 (MQ below (yQv Φ D (cW o u cI cZ cJ T) A) args s 0 0 A) (F0 m 10 ls []) := by
    intro K hk n0
    induction n0 with
    | zero => intro τ0 l1_0 H locs ls hok; exact False.elim hok
    | succ n0 ih10 =>
      intro τ0 l1_0 H locs ls hok hl hP hD hS
      refine lv_iload_n hx hb dX4_findHandedOn_10 rfl (lv_at hl 0 rfl) ?_
      refine lv_bipush (v := 10) hx hb dX4_findHandedOn_11 (by decide) ?_
      refine lv_icmp_ge (tgt := 29) hx hb dX4_findHandedOn_13 (by decide) (fun c_13 => ?_) (fun c_13 => ?_)
      · have hok := hok.1 c_13
        exact hk τ0 l1_0 H locs ls hok (lv_sub hl [0, 1] rfl) hP hD hS
      · have hok := hok.2 c_13
        refine lv_aload_n hx hb dX4_findHandedOn_16 rfl (lv_at hl 1 rfl) ?_
        refine xg (ci := 4) S inX4 rfl hK hP cW_20 13 (by decide) rfl kw_4_120 rfl dX4_findHandedOn_17 ?_
        refine lv_iload_n hx hb dX4_findHandedOn_20 rfl (lv_at hl 0 rfl) ?_
        refine lv_iconst (v := 0) hx hb dX4_findHandedOn_21 (by decide) ?_
        have h_22 := hok.1
        have hok := hok.2
        refine yzast (t0 := 1) (cw := (cW o u cI cZ cJ T)) S hK hP hD hS cW_32 rfl h_22 dX4_findHandedOn_22 (cWa_32 (Or.inl rfl)) (fun σ2 H locs eσ2 hP hD hS => ?_)
        have hok := hok σ2 eσ2
        refine lv_iinc (v := l1_0 + 1) (lv' := [(1, .int (l1_0 + 1)), (0, .ref (u 19))]) hx hb dX4_findHandedOn_23 hl (k := 0) rfl rfl (by decide) rfl (fun ls hl => ?_)
        refine lv_goto (tgt := 10) hx hb dX4_findHandedOn_26 (by decide) ?_
        exact ih10 σ2 (l1_0 + 1) H locs ls hok (lv_sub hl [0, 1] rfl) hP hD hS
  refine lp10 _ ?_ FUEL σ1 0 _ _ _ hok (lv_sub hl [0, 1] rfl) hP hD hS
  intro σ3 x4 H locs ls hok hl hP hD hS
  refine lv_iconst (v := 0) hx hb dX4_findHandedOn_29 (by decide) ?_
  refine lv_istore_n (lv' := [(1, .int 0), (0, .ref (u 19))]) hx hb dX4_findHandedOn_30 rfl hl (by decide) rfl (fun ls hl => ?_)
  have lp31 : ∀ (K : FS → Int32 → Prop), (∀ (τ0 : FS) (l1_0 : Int32) (H : Heap) (locs : List Loc) (ls : Array Slot), K τ0 l1_0 → lv_has ls 2 [(1, .int l1_0), (0, .ref (u 19))] → va_P D vwCl (cW o u cI cZ cJ T τ0) H → va_D A (cW o u cI cZ cJ T τ0) → va_S A s.heap H locs → W p l e ({ frames := 1, cells := 0, slots := 0, locals := 23 }) s m args below meth c H locs 0 0 (MQ below (yQv Φ D (cW o u cI cZ cJ T) A) args s 0 0 A) (F0 m 85 ls [])) → ∀ (n0 : Nat) (τ0 : FS) (l1_0 : Int32) (H : Heap) (locs : List Loc) (ls : Array Slot), wp_X4_findHandedOn_31 Φ K n0 τ0 l1_0 → lv_has ls 2 [(1, .int l1_0), (0, .ref (u 19))] → va_P D vwCl (cW o u cI cZ cJ T τ0) H → va_D A (cW o u cI cZ cJ T τ0) → va_S A s.heap H locs → W p l e ({ frames := 1, cells := 0, slots := 0, locals := 23 }) s m args below meth c H locs 0 0 (MQ below (yQv Φ D (cW o u cI cZ cJ T) A) args s 0 0 A) (F0 m 31 ls []) := by
    intro K hk n0
    induction n0 with
    | zero => intro τ0 l1_0 H locs ls hok; exact False.elim hok
    | succ n0 ih31 =>
      intro τ0 l1_0 H locs ls hok hl hP hD hS
      refine lv_iload_n hx hb dX4_findHandedOn_31 rfl (lv_at hl 0 rfl) ?_
      refine lv_aload_n hx hb dX4_findHandedOn_32 rfl (lv_at hl 1 rfl) ?_
      refine xg (ci := 4) S inX4 rfl hK hP cW_20 1 (by decide) rfl kw_4_88 rfl dX4_findHandedOn_33 ?_
      refine xg (ci := 5) S inX5 rfl hK hP cW_13 0 (by decide) rfl kw_4_38 rfl dX4_findHandedOn_36 ?_
      refine lv_icmp_ge (tgt := 85) hx hb dX4_findHandedOn_39 (by decide) (fun c_39 => ?_) (fun c_39 => ?_)
      · have hok := hok.1 c_39
        exact hk τ0 l1_0 H locs ls hok (lv_sub hl [0, 1] rfl) hP hD hS
      · have hok := hok.2 c_39
        refine lv_aload_n hx hb dX4_findHandedOn_42 rfl (lv_at hl 1 rfl) ?_
        refine xg (ci := 4) S inX4 rfl hK hP cW_20 1 (by decide) rfl kw_4_88 rfl dX4_findHandedOn_43 ?_
        refine xg (ci := 5) S inX5 rfl hK hP cW_13 1 (by decide) rfl kw_4_42 rfl dX4_findHandedOn_46 ?_
        refine lv_iload_n hx hb dX4_findHandedOn_49 rfl (lv_at hl 0 rfl) ?_
        have h_50 := hok.1
        have hok := hok.2
        refine xiald (t0 := 0) (v := (g τ0 14 l1_0)) S hK hP cW_14 rfl h_50 rfl dX4_findHandedOn_50 ?_
        refine lv_bipush (v := 10) hx hb dX4_findHandedOn_51 (by decide) ?_
        refine lv_icmp_ne (tgt := 79) hx hb dX4_findHandedOn_53 (by decide) (fun c_53 => ?_) (fun c_53 => ?_)
        · have hok := hok.2 c_53
          refine lv_iinc (v := l1_0 + 1) (lv' := [(1, .int (l1_0 + 1)), (0, .ref (u 19))]) hx hb dX4_findHandedOn_79 hl (k := 0) rfl rfl (by decide) rfl (fun ls hl => ?_)
          refine lv_goto (tgt := 31) hx hb dX4_findHandedOn_82 (by decide) ?_
          exact ih31 τ0 (l1_0 + 1) H locs ls hok (lv_sub hl [0, 1] rfl) hP hD hS
        · have hok := hok.1 c_53
          refine lv_aload_n hx hb dX4_findHandedOn_56 rfl (lv_at hl 1 rfl) ?_
          refine xg (ci := 4) S inX4 rfl hK hP cW_20 5 (by decide) rfl kw_4_97 rfl dX4_findHandedOn_57 ?_
          refine lv_iload_n hx hb dX4_findHandedOn_60 rfl (lv_at hl 0 rfl) ?_
          have h_61 := hok.1
          have hok := hok.2
          refine xiald (t0 := 0) (v := (g τ0 24 l1_0)) S hK hP cW_24 rfl h_61 rfl dX4_findHandedOn_61 ?_
          refine lv_bipush (v := 10) hx hb dX4_findHandedOn_62 (by decide) ?_
          refine lv_icmp_ne (tgt := 79) hx hb dX4_findHandedOn_64 (by decide) (fun c_64 => ?_) (fun c_64 => ?_)
          · have hok := hok.2 c_64
            refine lv_iinc (v := l1_0 + 1) (lv' := [(1, .int (l1_0 + 1)), (0, .ref (u 19))]) hx hb dX4_findHandedOn_79 hl (k := 0) rfl rfl (by decide) rfl (fun ls hl => ?_)
            refine lv_goto (tgt := 31) hx hb dX4_findHandedOn_82 (by decide) ?_
            exact ih31 τ0 (l1_0 + 1) H locs ls hok (lv_sub hl [0, 1] rfl) hP hD hS
          · have hok := hok.1 c_64
            refine lv_aload_n hx hb dX4_findHandedOn_67 rfl (lv_at hl 1 rfl) ?_
            refine xg (ci := 4) S inX4 rfl hK hP cW_20 13 (by decide) rfl kw_4_120 rfl dX4_findHandedOn_68 ?_
            refine lv_aload_n hx hb dX4_findHandedOn_71 rfl (lv_at hl 1 rfl) ?_
            refine xg (ci := 4) S inX4 rfl hK hP cW_20 6 (by decide) rfl kw_4_101 rfl dX4_findHandedOn_72 ?_
            refine lv_iload_n hx hb dX4_findHandedOn_75 rfl (lv_at hl 0 rfl) ?_
            have h_76 := hok.1
            have hok := hok.2
            refine xiald (t0 := 0) (v := (g τ0 25 l1_0)) S hK hP cW_25 rfl h_76 rfl dX4_findHandedOn_76 ?_
            refine lv_iconst (v := 1) hx hb dX4_findHandedOn_77 (by decide) ?_
            have h_78 := hok.1
            have hok := hok.2
            refine yzast (t0 := 1) (cw := (cW o u cI cZ cJ T)) S hK hP hD hS cW_32 rfl h_78 dX4_findHandedOn_78 (cWa_32 (Or.inr rfl)) (fun σ5 H locs eσ5 hP hD hS => ?_)
            have hok := hok σ5 eσ5
            refine lv_iinc (v := l1_0 + 1) (lv' := [(1, .int (l1_0 + 1)), (0, .ref (u 19))]) hx hb dX4_findHandedOn_79 hl (k := 0) rfl rfl (by decide) rfl (fun ls hl => ?_)
            refine lv_goto (tgt := 31) hx hb dX4_findHandedOn_82 (by decide) ?_
            exact ih31 σ5 (l1_0 + 1) H locs ls hok (lv_sub hl [0, 1] rfl) hP hD hS
  refine lp31 _ ?_ FUEL σ3 0 _ _ _ hok (lv_sub hl [0, 1] rfl) hP hD hS
  intro σ6 x7 H locs ls hok hl hP hD hS
  exact yEndv S hr hlocks hP hD hS (Nat.le_of_ble_eq_true rfl) (Nat.le_of_ble_eq_true rfl) dX4_findHandedOn_85 hok

set_option maxHeartbeats 8000000 in
set_option maxRecDepth 100000 in
theorem v_X4_isOutliving (l : Launch) (D : va_G) (cI cZ cJ : ClassId) (o : Nat) (u : Nat → Nat) (T : Nat) (ra : Nat → Nat) (ga : SG) (σ : FS) (a1 : Int32) (a2 : Int32) (Φ : Int32 → FS → Prop) (sz : Nat) (hok : (wp_X4_isOutliving σ a1 a2 Φ)) : Met l yX4_isOutliving (uW yX4_isOutliving cX4_isOutliving 5 (some .boolean)) ({ frames := 0, cells := 0, slots := 0, locals := 0 }) (va_Pc [.ref (u 19), .int a1, .int a2] (aS ra ga D (tyL cI cZ cJ) (cW o u cI cZ cJ T σ) sz)) (yQi Φ D (cW o u cI cZ cJ T) (va_A (cW o u cI cZ cJ T σ) sz)) 0 0 (va_A (cW o u cI cZ cJ T σ) sz) := by
  refine aStart (lv := [(0, .ref (u 19)), (1, .int a1), (2, .int a2)]) (Qc := fun A => yQi Φ D (cW o u cI cZ cJ T) A) (by decide) (Nat.le_of_ble_eq_true rfl) rfl ?_
  intro p e s m args below meth c ls A H S hr hlocks hnm hl hK hP hD hS hA hB
  have hx := S.1
  have hb := S.2.1
  refine lv_iload_n hx hb dX4_isOutliving_0 rfl (lv_at hl 1 rfl) ?_
  refine lv_istore_n (lv' := [(3, .int a1), (0, .ref (u 19)), (1, .int a1), (2, .int a2)]) hx hb dX4_isOutliving_1 rfl hl (by decide) rfl (fun ls hl => ?_)
  refine lv_iconst (v := 0) hx hb dX4_isOutliving_2 (by decide) ?_
  refine lv_istore (lv' := [(4, .int 0), (3, .int a1), (0, .ref (u 19)), (1, .int a1), (2, .int a2)]) hx hb dX4_isOutliving_3 hl (by decide) rfl (fun ls hl => ?_)
  have lp5 : ∀ (K : FS → Int32 → Int32 → Prop), (∀ (τ0 : FS) (l4_0 : Int32) (l3_0 : Int32) (H : Heap) (locs : List Loc) (ls : Array Slot), K τ0 l4_0 l3_0 → lv_has ls 5 [(4, .int l4_0), (3, .int l3_0), (0, .ref (u 19)), (1, .int a1), (2, .int a2)] → va_P D vwCl (cW o u cI cZ cJ T τ0) H → va_D A (cW o u cI cZ cJ T τ0) → va_S A s.heap H locs → W p l e ({ frames := 0, cells := 0, slots := 0, locals := 0 }) s m args below meth c H locs 0 0 (MQ below (yQi Φ D (cW o u cI cZ cJ T) A) args s 0 0 A) (F0 m 49 ls [])) → ∀ (n0 : Nat) (τ0 : FS) (l4_0 : Int32) (l3_0 : Int32) (H : Heap) (locs : List Loc) (ls : Array Slot), wp_X4_isOutliving_5 a1 a2 Φ K n0 τ0 l4_0 l3_0 → lv_has ls 5 [(4, .int l4_0), (3, .int l3_0), (0, .ref (u 19)), (1, .int a1), (2, .int a2)] → va_P D vwCl (cW o u cI cZ cJ T τ0) H → va_D A (cW o u cI cZ cJ T τ0) → va_S A s.heap H locs → W p l e ({ frames := 0, cells := 0, slots := 0, locals := 0 }) s m args below meth c H locs 0 0 (MQ below (yQi Φ D (cW o u cI cZ cJ T) A) args s 0 0 A) (F0 m 5 ls []) := by
    intro K hk n0
    induction n0 with
    | zero => intro τ0 l4_0 l3_0 H locs ls hok; exact False.elim hok
    | succ n0 ih5 =>
      intro τ0 l4_0 l3_0 H locs ls hok hl hP hD hS
      refine lv_iload hx hb dX4_isOutliving_5 (lv_at hl 0 rfl) ?_
      refine lv_bipush (v := 10) hx hb dX4_isOutliving_7 (by decide) ?_
      refine lv_icmp_ge (tgt := 49) hx hb dX4_isOutliving_9 (by decide) (fun c_9 => ?_) (fun c_9 => ?_)
      · have hok := hok.1 c_9
        exact hk τ0 l4_0 l3_0 H locs ls hok (lv_sub hl [0, 1, 2, 3, 4] rfl) hP hD hS
      · have hok := hok.2 c_9
        refine lv_iload_n hx hb dX4_isOutliving_12 rfl (lv_at hl 1 rfl) ?_
        refine lv_iload_n hx hb dX4_isOutliving_13 rfl (lv_at hl 4 rfl) ?_
        refine lv_icmp_eq (tgt := 49) hx hb dX4_isOutliving_14 (by decide) (fun c_14 => ?_) (fun c_14 => ?_)
        · have hok := hok.1 c_14
          exact hk τ0 l4_0 l3_0 H locs ls hok (lv_sub hl [0, 1, 2, 3, 4] rfl) hP hD hS
        · have hok := hok.2 c_14
          refine lv_iload_n hx hb dX4_isOutliving_17 rfl (lv_at hl 1 rfl) ?_
          refine lv_iconst (v := (-1)) hx hb dX4_isOutliving_18 (by decide) ?_
          refine lv_icmp_eq (tgt := 49) hx hb dX4_isOutliving_19 (by decide) (fun c_19 => ?_) (fun c_19 => ?_)
          · have hok := hok.1 c_19
            exact hk τ0 l4_0 l3_0 H locs ls hok (lv_sub hl [0, 1, 2, 3, 4] rfl) hP hD hS
          · have hok := hok.2 c_19
            refine lv_aload_n hx hb dX4_isOutliving_22 rfl (lv_at hl 2 rfl) ?_
            refine xg (ci := 4) S inX4 rfl hK hP cW_20 13 (by decide) rfl kw_4_120 rfl dX4_isOutliving_23 ?_
            refine lv_iload_n hx hb dX4_isOutliving_26 rfl (lv_at hl 1 rfl) ?_
            have h_27 := hok.1
            have hok := hok.2
            refine xzald (t0 := 1) (v := (g τ0 32 l3_0)) S hK hP cW_32 rfl h_27 rfl dX4_isOutliving_27 ?_
            refine lv_if_eq (tgt := 33) hx hb dX4_isOutliving_28 (by decide) (fun c_28 => ?_) (fun c_28 => ?_)
            · have hok := hok.1 c_28
              refine lv_aload_n hx hb dX4_isOutliving_33 rfl (lv_at hl 2 rfl) ?_
              refine xg (ci := 4) S inX4 rfl hK hP cW_20 0 (by decide) rfl kw_4_87 rfl dX4_isOutliving_34 ?_
              refine xg (ci := 1) S inX1 rfl hK hP cW_1 1 (by decide) rfl kw_3_219 rfl dX4_isOutliving_37 ?_
              refine lv_iload_n hx hb dX4_isOutliving_40 rfl (lv_at hl 1 rfl) ?_
              have h_41 := hok.1
              have hok := hok.2
              refine xiald (t0 := 0) (v := (g τ0 2 l3_0)) S hK hP cW_2 rfl h_41 rfl dX4_isOutliving_41 ?_
              refine lv_topi (fun x1 ex1 => ?_)
              have hok := hok x1 ex1
              refine lv_istore_n (lv' := [(3, .int x1), (4, .int l4_0), (0, .ref (u 19)), (1, .int a1), (2, .int a2)]) hx hb dX4_isOutliving_42 rfl hl (by decide) rfl (fun ls hl => ?_)
              refine lv_iinc (v := l4_0 + 1) (lv' := [(4, .int (l4_0 + 1)), (3, .int x1), (0, .ref (u 19)), (1, .int a1), (2, .int a2)]) hx hb dX4_isOutliving_43 hl (k := 1) rfl rfl (by decide) rfl (fun ls hl => ?_)
              refine lv_goto (tgt := 5) hx hb dX4_isOutliving_46 (by decide) ?_
              exact ih5 τ0 (l4_0 + 1) x1 H locs ls hok (lv_sub hl [0, 1, 2, 3, 4] rfl) hP hD hS
            · have hok := hok.2 c_28
              refine lv_iconst (v := 1) hx hb dX4_isOutliving_31 (by decide) ?_
              exact yEndZ S hr hlocks hP hD hS (Nat.le_of_ble_eq_true rfl) (Nat.le_of_ble_eq_true rfl) dX4_isOutliving_32 rfl hok
  refine lp5 _ ?_ FUEL σ 0 a1 _ _ _ hok (lv_sub hl [0, 1, 2, 3, 4] rfl) hP hD hS
  intro σ2 x3 x4 H locs ls hok hl hP hD hS
  refine lv_iconst (v := 0) hx hb dX4_isOutliving_49 (by decide) ?_
  exact yEndZ S hr hlocks hP hD hS (Nat.le_of_ble_eq_true rfl) (Nat.le_of_ble_eq_true rfl) dX4_isOutliving_50 rfl hok

set_option maxHeartbeats 8000000 in
set_option maxRecDepth 100000 in
theorem v_X4_findEscapes (l : Launch) (D : va_G) (cI cZ cJ : ClassId) (o : Nat) (u : Nat → Nat) (T : Nat) (ra : Nat → Nat) (ga : SG) (σ : FS) (Φ : FS → Prop) (sz : Nat) (hok : (wp_X4_findEscapes σ Φ)) : Met l yX4_findEscapes (uW yX4_findEscapes cX4_findEscapes 2 none) ({ frames := 1, cells := 0, slots := 0, locals := 24 }) (va_Pc [.ref (u 19)] (aS ra ga D (tyL cI cZ cJ) (cW o u cI cZ cJ T σ) sz)) (yQv Φ D (cW o u cI cZ cJ T) (va_A (cW o u cI cZ cJ T σ) sz)) 0 0 (va_A (cW o u cI cZ cJ T σ) sz) := by
  refine aStart (lv := [(0, .ref (u 19))]) (Qc := fun A => yQv Φ D (cW o u cI cZ cJ T) A) (by decide) (Nat.le_of_ble_eq_true rfl) rfl ?_
  intro p e s m args below meth c ls A H S hr hlocks hnm hl hK hP hD hS hA hB
  have hx := S.1
  have hb := S.2.1
  refine lv_iconst (v := 0) hx hb dX4_findEscapes_0 (by decide) ?_
  refine lv_istore_n (lv' := [(1, .int 0), (0, .ref (u 19))]) hx hb dX4_findEscapes_1 rfl hl (by decide) rfl (fun ls hl => ?_)
  have lp2 : ∀ (K : FS → Int32 → Prop), (∀ (τ0 : FS) (l1_0 : Int32) (H : Heap) (locs : List Loc) (ls : Array Slot), K τ0 l1_0 → lv_has ls 2 [(1, .int l1_0), (0, .ref (u 19))] → va_P D vwCl (cW o u cI cZ cJ T τ0) H → va_D A (cW o u cI cZ cJ T τ0) → va_S A s.heap H locs → W p l e ({ frames := 1, cells := 0, slots := 0, locals := 24 }) s m args below meth c H locs 0 0 (MQ below (yQv Φ D (cW o u cI cZ cJ T) A) args s 0 0 A) (F0 m 68 ls [])) → ∀ (n0 : Nat) (τ0 : FS) (l1_0 : Int32) (H : Heap) (locs : List Loc) (ls : Array Slot), wp_X4_findEscapes_2 Φ K n0 τ0 l1_0 → lv_has ls 2 [(1, .int l1_0), (0, .ref (u 19))] → va_P D vwCl (cW o u cI cZ cJ T τ0) H → va_D A (cW o u cI cZ cJ T τ0) → va_S A s.heap H locs → W p l e ({ frames := 1, cells := 0, slots := 0, locals := 24 }) s m args below meth c H locs 0 0 (MQ below (yQv Φ D (cW o u cI cZ cJ T) A) args s 0 0 A) (F0 m 2 ls []) := by
    intro K hk n0
    induction n0 with
    | zero => intro τ0 l1_0 H locs ls hok; exact False.elim hok
    | succ n0 ih2 =>
      intro τ0 l1_0 H locs ls hok hl hP hD hS
      refine lv_iload_n hx hb dX4_findEscapes_2 rfl (lv_at hl 0 rfl) ?_
      refine lv_aload_n hx hb dX4_findEscapes_3 rfl (lv_at hl 1 rfl) ?_
      refine xg (ci := 4) S inX4 rfl hK hP cW_20 1 (by decide) rfl kw_4_88 rfl dX4_findEscapes_4 ?_
      refine xg (ci := 5) S inX5 rfl hK hP cW_13 0 (by decide) rfl kw_4_38 rfl dX4_findEscapes_7 ?_
      refine lv_icmp_ge (tgt := 68) hx hb dX4_findEscapes_10 (by decide) (fun c_10 => ?_) (fun c_10 => ?_)
      · have hok := hok.1 c_10
        exact hk τ0 l1_0 H locs ls hok (lv_sub hl [0, 1] rfl) hP hD hS
      · have hok := hok.2 c_10
        refine lv_aload_n hx hb dX4_findEscapes_13 rfl (lv_at hl 1 rfl) ?_
        refine lv_iload_n hx hb dX4_findEscapes_14 rfl (lv_at hl 0 rfl) ?_
        refine yVi (As := [.int l1_0]) (cw := (cW o u cI cZ cJ T)) (ci := 4) S (v_X4_hasPlace l D cI cZ cJ o u T ra ga τ0 l1_0 _ H.size hok) mi_X4_hasPlace kw_1_158 rfl rfl ⟨Nat.le_of_ble_eq_true rfl, Nat.le_of_ble_eq_true rfl⟩ hP hD hK hS hA hB cW_20 rfl rfl hl.1 (Nat.le_of_ble_eq_true rfl) ⟨Nat.le_of_ble_eq_true rfl, Nat.le_of_ble_eq_true rfl⟩ dX4_findEscapes_15 (fun x2 σ1 H locs hok hz hP hD hS => ?_)
        refine lv_if_eq (tgt := 62) hx hb dX4_findEscapes_18 (by decide) (fun c_18 => ?_) (fun c_18 => ?_)
        · have hok := hok.1 c_18
          refine lv_iinc (v := l1_0 + 1) (lv' := [(1, .int (l1_0 + 1)), (0, .ref (u 19))]) hx hb dX4_findEscapes_62 hl (k := 0) rfl rfl (by decide) rfl (fun ls hl => ?_)
          refine lv_goto (tgt := 2) hx hb dX4_findEscapes_65 (by decide) ?_
          exact ih2 σ1 (l1_0 + 1) H locs ls hok (lv_sub hl [0, 1] rfl) hP hD hS
        · have hok := hok.2 c_18
          refine lv_aload_n hx hb dX4_findEscapes_21 rfl (lv_at hl 1 rfl) ?_
          refine lv_aload_n hx hb dX4_findEscapes_22 rfl (lv_at hl 1 rfl) ?_
          refine xg (ci := 4) S inX4 rfl hK hP cW_20 2 (by decide) rfl kw_4_89 rfl dX4_findEscapes_23 ?_
          refine lv_iload_n hx hb dX4_findEscapes_26 rfl (lv_at hl 0 rfl) ?_
          have h_27 := hok.1
          have hok := hok.2
          refine xiald (t0 := 0) (v := (g σ1 21 l1_0)) S hK hP cW_21 rfl h_27 rfl dX4_findEscapes_27 ?_
          refine lv_aload_n hx hb dX4_findEscapes_28 rfl (lv_at hl 1 rfl) ?_
          refine xg (ci := 4) S inX4 rfl hK hP cW_20 3 (by decide) rfl kw_4_93 rfl dX4_findEscapes_29 ?_
          refine lv_iload_n hx hb dX4_findEscapes_32 rfl (lv_at hl 0 rfl) ?_
          have h_33 := hok.1
          have hok := hok.2
          refine xiald (t0 := 0) (v := (g σ1 22 l1_0)) S hK hP cW_22 rfl h_33 rfl dX4_findEscapes_33 ?_
          refine yVi (As := [.int (g σ1 21 l1_0), .int (g σ1 22 l1_0)]) (cw := (cW o u cI cZ cJ T)) (ci := 4) S (v_X4_isOutliving l D cI cZ cJ o u T ra ga σ1 (g σ1 21 l1_0) (g σ1 22 l1_0) _ H.size hok) mi_X4_isOutliving kw_1_187 rfl rfl ⟨Nat.le_of_ble_eq_true rfl, Nat.le_of_ble_eq_true rfl⟩ hP hD hK hS hA hB cW_20 rfl rfl hl.1 (Nat.le_of_ble_eq_true rfl) ⟨Nat.le_of_ble_eq_true rfl, Nat.le_of_ble_eq_true rfl⟩ dX4_findEscapes_34 (fun x4 σ3 H locs hok hz hP hD hS => ?_)
          refine lv_if_eq (tgt := 62) hx hb dX4_findEscapes_37 (by decide) (fun c_37 => ?_) (fun c_37 => ?_)
          · have hok := hok.1 c_37
            refine lv_iinc (v := l1_0 + 1) (lv' := [(1, .int (l1_0 + 1)), (0, .ref (u 19))]) hx hb dX4_findEscapes_62 hl (k := 0) rfl rfl (by decide) rfl (fun ls hl => ?_)
            refine lv_goto (tgt := 2) hx hb dX4_findEscapes_65 (by decide) ?_
            exact ih2 σ3 (l1_0 + 1) H locs ls hok (lv_sub hl [0, 1] rfl) hP hD hS
          · have hok := hok.2 c_37
            refine lv_aload_n hx hb dX4_findEscapes_40 rfl (lv_at hl 1 rfl) ?_
            refine xg (ci := 4) S inX4 rfl hK hP cW_20 14 (by decide) rfl kw_4_122 rfl dX4_findEscapes_41 ?_
            refine lv_aload_n hx hb dX4_findEscapes_44 rfl (lv_at hl 1 rfl) ?_
            refine xg (ci := 4) S inX4 rfl hK hP cW_20 3 (by decide) rfl kw_4_93 rfl dX4_findEscapes_45 ?_
            refine lv_iload_n hx hb dX4_findEscapes_48 rfl (lv_at hl 0 rfl) ?_
            have h_49 := hok.1
            have hok := hok.2
            refine xiald (t0 := 0) (v := (g σ3 22 l1_0)) S hK hP cW_22 rfl h_49 rfl dX4_findEscapes_49 ?_
            refine lv_dup2_11 hx hb dX4_findEscapes_50 rfl rfl ?_
            have h_51 := hok.1
            have hok := hok.2
            refine xiald (t0 := 0) (v := (g σ3 33 (g σ3 22 l1_0))) S hK hP cW_33 rfl h_51 rfl dX4_findEscapes_51 ?_
            refine lv_iconst (v := 1) hx hb dX4_findEscapes_52 (by decide) ?_
            refine lv_aload_n hx hb dX4_findEscapes_53 rfl (lv_at hl 1 rfl) ?_
            refine xg (ci := 4) S inX4 rfl hK hP cW_20 6 (by decide) rfl kw_4_101 rfl dX4_findEscapes_54 ?_
            refine lv_iload_n hx hb dX4_findEscapes_57 rfl (lv_at hl 0 rfl) ?_
            have h_58 := hok.1
            have hok := hok.2
            refine xiald (t0 := 0) (v := (g σ3 25 l1_0)) S hK hP cW_25 rfl h_58 rfl dX4_findEscapes_58 ?_
            refine xishl (v := 1 <<< ((g σ3 25 l1_0) &&& 31)) S dX4_findEscapes_59 rfl ?_
            refine xior (v := (g σ3 33 (g σ3 22 l1_0)) ||| (1 <<< ((g σ3 25 l1_0) &&& 31))) S dX4_findEscapes_60 rfl ?_
            refine lv_topi (fun x5 ex5 => ?_)
            have hok := hok x5 ex5
            have h_61 := hok.1
            have hok := hok.2
            refine yiast (t0 := 0) (cw := (cW o u cI cZ cJ T)) S hK hP hD hS cW_33 rfl h_61 dX4_findEscapes_61 cWa_33 (fun σ6 H locs eσ6 hP hD hS => ?_)
            have hok := hok σ6 eσ6
            refine lv_iinc (v := l1_0 + 1) (lv' := [(1, .int (l1_0 + 1)), (0, .ref (u 19))]) hx hb dX4_findEscapes_62 hl (k := 0) rfl rfl (by decide) rfl (fun ls hl => ?_)
            refine lv_goto (tgt := 2) hx hb dX4_findEscapes_65 (by decide) ?_
            exact ih2 σ6 (l1_0 + 1) H locs ls hok (lv_sub hl [0, 1] rfl) hP hD hS
  refine lp2 _ ?_ FUEL σ 0 _ _ _ hok (lv_sub hl [0, 1] rfl) hP hD hS
  intro σ7 x8 H locs ls hok hl hP hD hS
  exact yEndv S hr hlocks hP hD hS (Nat.le_of_ble_eq_true rfl) (Nat.le_of_ble_eq_true rfl) dX4_findEscapes_68 hok

set_option maxHeartbeats 8000000 in
set_option maxRecDepth 100000 in
theorem v_X4_findLabels (l : Launch) (D : va_G) (cI cZ cJ : ClassId) (o : Nat) (u : Nat → Nat) (T : Nat) (ra : Nat → Nat) (ga : SG) (σ : FS) (Φ : FS → Prop) (sz : Nat) (hok : (wp_X4_findLabels σ Φ)) : Met l yX4_findLabels (uW yX4_findLabels cX4_findLabels 2 none) ({ frames := 1, cells := 0, slots := 0, locals := 23 }) (va_Pc [.ref (u 19)] (aS ra ga D (tyL cI cZ cJ) (cW o u cI cZ cJ T σ) sz)) (yQv Φ D (cW o u cI cZ cJ T) (va_A (cW o u cI cZ cJ T σ) sz)) 0 0 (va_A (cW o u cI cZ cJ T σ) sz) := by
  refine aStart (lv := [(0, .ref (u 19))]) (Qc := fun A => yQv Φ D (cW o u cI cZ cJ T) A) (by decide) (Nat.le_of_ble_eq_true rfl) rfl ?_
  intro p e s m args below meth c ls A H S hr hlocks hnm hl hK hP hD hS hA hB
  have hx := S.1
  have hb := S.2.1
  refine lv_aload_n hx hb dX4_findLabels_0 rfl (lv_at hl 0 rfl) ?_
  refine xg (ci := 4) S inX4 rfl hK hP cW_20 12 (by decide) rfl kw_4_119 rfl dX4_findLabels_1 ?_
  refine lv_iconst (v := 0) hx hb dX4_findLabels_4 (by decide) ?_
  refine rSf (As := [.ref (u 30), .int 0]) (k := 31) S (c_fill l D cI cZ cJ (u 30) 10 (by decide) (σ.1 31) 0 H.size) ms_J7_fill_53178 kw_1_180 rfl rfl ⟨Nat.le_of_ble_eq_true rfl, Nat.le_of_ble_eq_true rfl⟩ hP hD hK hS hA cW_31 hl.1 (Nat.le_of_ble_eq_true rfl) ⟨Nat.le_of_ble_eq_true rfl, Nat.le_of_ble_eq_true rfl⟩ dX4_findLabels_5 (fun H locs hz hP hD hS => ?_)
  have hP : va_P D vwCl (cW o u cI cZ cJ T (sC σ 31 0)) H := cWf_31 ▸ hP
  have hD : va_D A (cW o u cI cZ cJ T (sC σ 31 0)) := cWf_31 ▸ hD
  obtain ⟨σ1, eσ1⟩ : ∃ z : FS, z = sC σ 31 0 := ⟨_, rfl⟩
  rw [← eσ1] at hP hD
  have hok := hok σ1 eσ1
  refine lv_iconst (v := 0) hx hb dX4_findLabels_8 (by decide) ?_
  refine lv_istore_n (lv' := [(1, .int 0), (0, .ref (u 19))]) hx hb dX4_findLabels_9 rfl hl (by decide) rfl (fun ls hl => ?_)
  have lp10 : ∀ (K : FS → Int32 → Prop), (∀ (τ0 : FS) (l1_0 : Int32) (H : Heap) (locs : List Loc) (ls : Array Slot), K τ0 l1_0 → lv_has ls 2 [(1, .int l1_0), (0, .ref (u 19))] → va_P D vwCl (cW o u cI cZ cJ T τ0) H → va_D A (cW o u cI cZ cJ T τ0) → va_S A s.heap H locs → W p l e ({ frames := 1, cells := 0, slots := 0, locals := 23 }) s m args below meth c H locs 0 0 (MQ below (yQv Φ D (cW o u cI cZ cJ T) A) args s 0 0 A) (F0 m 76 ls [])) → ∀ (n0 : Nat) (τ0 : FS) (l1_0 : Int32) (H : Heap) (locs : List Loc) (ls : Array Slot), wp_X4_findLabels_10 Φ K n0 τ0 l1_0 → lv_has ls 2 [(1, .int l1_0), (0, .ref (u 19))] → va_P D vwCl (cW o u cI cZ cJ T τ0) H → va_D A (cW o u cI cZ cJ T τ0) → va_S A s.heap H locs → W p l e ({ frames := 1, cells := 0, slots := 0, locals := 23 }) s m args below meth c H locs 0 0 (MQ below (yQv Φ D (cW o u cI cZ cJ T) A) args s 0 0 A) (F0 m 10 ls []) := by
    intro K hk n0
    induction n0 with
    | zero => intro τ0 l1_0 H locs ls hok; exact False.elim hok
    | succ n0 ih10 =>
      intro τ0 l1_0 H locs ls hok hl hP hD hS
      refine lv_iload_n hx hb dX4_findLabels_10 rfl (lv_at hl 0 rfl) ?_
      refine lv_aload_n hx hb dX4_findLabels_11 rfl (lv_at hl 1 rfl) ?_
      refine xg (ci := 4) S inX4 rfl hK hP cW_20 1 (by decide) rfl kw_4_88 rfl dX4_findLabels_12 ?_
      refine xg (ci := 5) S inX5 rfl hK hP cW_13 0 (by decide) rfl kw_4_38 rfl dX4_findLabels_15 ?_
      refine lv_icmp_ge (tgt := 76) hx hb dX4_findLabels_18 (by decide) (fun c_18 => ?_) (fun c_18 => ?_)
      · have hok := hok.1 c_18
        exact hk τ0 l1_0 H locs ls hok (lv_sub hl [0, 1] rfl) hP hD hS
      · have hok := hok.2 c_18
        refine lv_aload_n hx hb dX4_findLabels_21 rfl (lv_at hl 1 rfl) ?_
        refine xg (ci := 4) S inX4 rfl hK hP cW_20 1 (by decide) rfl kw_4_88 rfl dX4_findLabels_22 ?_
        refine xg (ci := 5) S inX5 rfl hK hP cW_13 1 (by decide) rfl kw_4_42 rfl dX4_findLabels_25 ?_
        refine lv_iload_n hx hb dX4_findLabels_28 rfl (lv_at hl 0 rfl) ?_
        have h_29 := hok.1
        have hok := hok.2
        refine xiald (t0 := 0) (v := (g τ0 14 l1_0)) S hK hP cW_14 rfl h_29 rfl dX4_findLabels_29 ?_
        refine lv_bipush (v := 16) hx hb dX4_findLabels_30 (by decide) ?_
        refine lv_icmp_ne (tgt := 70) hx hb dX4_findLabels_32 (by decide) (fun c_32 => ?_) (fun c_32 => ?_)
        · have hok := hok.2 c_32
          refine lv_iinc (v := l1_0 + 1) (lv' := [(1, .int (l1_0 + 1)), (0, .ref (u 19))]) hx hb dX4_findLabels_70 hl (k := 0) rfl rfl (by decide) rfl (fun ls hl => ?_)
          refine lv_goto (tgt := 10) hx hb dX4_findLabels_73 (by decide) ?_
          exact ih10 τ0 (l1_0 + 1) H locs ls hok (lv_sub hl [0, 1] rfl) hP hD hS
        · have hok := hok.1 c_32
          refine lv_aload_n hx hb dX4_findLabels_35 rfl (lv_at hl 1 rfl) ?_
          refine xg (ci := 4) S inX4 rfl hK hP cW_20 2 (by decide) rfl kw_4_89 rfl dX4_findLabels_36 ?_
          refine lv_iload_n hx hb dX4_findLabels_39 rfl (lv_at hl 0 rfl) ?_
          have h_40 := hok.1
          have hok := hok.2
          refine xiald (t0 := 0) (v := (g τ0 21 l1_0)) S hK hP cW_21 rfl h_40 rfl dX4_findLabels_40 ?_
          refine lv_iconst (v := (-1)) hx hb dX4_findLabels_41 (by decide) ?_
          refine lv_icmp_eq (tgt := 70) hx hb dX4_findLabels_42 (by decide) (fun c_42 => ?_) (fun c_42 => ?_)
          · have hok := hok.1 c_42
            refine lv_iinc (v := l1_0 + 1) (lv' := [(1, .int (l1_0 + 1)), (0, .ref (u 19))]) hx hb dX4_findLabels_70 hl (k := 0) rfl rfl (by decide) rfl (fun ls hl => ?_)
            refine lv_goto (tgt := 10) hx hb dX4_findLabels_73 (by decide) ?_
            exact ih10 τ0 (l1_0 + 1) H locs ls hok (lv_sub hl [0, 1] rfl) hP hD hS
          · have hok := hok.2 c_42
            refine lv_aload_n hx hb dX4_findLabels_45 rfl (lv_at hl 1 rfl) ?_
            refine xg (ci := 4) S inX4 rfl hK hP cW_20 12 (by decide) rfl kw_4_119 rfl dX4_findLabels_46 ?_
            refine lv_aload_n hx hb dX4_findLabels_49 rfl (lv_at hl 1 rfl) ?_
            refine xg (ci := 4) S inX4 rfl hK hP cW_20 2 (by decide) rfl kw_4_89 rfl dX4_findLabels_50 ?_
            refine lv_iload_n hx hb dX4_findLabels_53 rfl (lv_at hl 0 rfl) ?_
            have h_54 := hok.1
            have hok := hok.2
            refine xiald (t0 := 0) (v := (g τ0 21 l1_0)) S hK hP cW_21 rfl h_54 rfl dX4_findLabels_54 ?_
            refine lv_dup2_11 hx hb dX4_findLabels_55 rfl rfl ?_
            have h_56 := hok.1
            have hok := hok.2
            refine xiald (t0 := 0) (v := (g τ0 31 (g τ0 21 l1_0))) S hK hP cW_31 rfl h_56 rfl dX4_findLabels_56 ?_
            refine lv_iconst (v := 1) hx hb dX4_findLabels_57 (by decide) ?_
            refine lv_aload_n hx hb dX4_findLabels_58 rfl (lv_at hl 1 rfl) ?_
            refine xg (ci := 4) S inX4 rfl hK hP cW_20 1 (by decide) rfl kw_4_88 rfl dX4_findLabels_59 ?_
            refine xg (ci := 5) S inX5 rfl hK hP cW_13 2 (by decide) rfl kw_4_47 rfl dX4_findLabels_62 ?_
            refine lv_iload_n hx hb dX4_findLabels_65 rfl (lv_at hl 0 rfl) ?_
            have h_66 := hok.1
            have hok := hok.2
            refine xiald (t0 := 0) (v := (g τ0 15 l1_0)) S hK hP cW_15 rfl h_66 rfl dX4_findLabels_66 ?_
            refine xishl (v := 1 <<< ((g τ0 15 l1_0) &&& 31)) S dX4_findLabels_67 rfl ?_
            refine xior (v := (g τ0 31 (g τ0 21 l1_0)) ||| (1 <<< ((g τ0 15 l1_0) &&& 31))) S dX4_findLabels_68 rfl ?_
            refine lv_topi (fun x2 ex2 => ?_)
            have hok := hok x2 ex2
            have h_69 := hok.1
            have hok := hok.2
            refine yiast (t0 := 0) (cw := (cW o u cI cZ cJ T)) S hK hP hD hS cW_31 rfl h_69 dX4_findLabels_69 cWa_31 (fun σ3 H locs eσ3 hP hD hS => ?_)
            have hok := hok σ3 eσ3
            refine lv_iinc (v := l1_0 + 1) (lv' := [(1, .int (l1_0 + 1)), (0, .ref (u 19))]) hx hb dX4_findLabels_70 hl (k := 0) rfl rfl (by decide) rfl (fun ls hl => ?_)
            refine lv_goto (tgt := 10) hx hb dX4_findLabels_73 (by decide) ?_
            exact ih10 σ3 (l1_0 + 1) H locs ls hok (lv_sub hl [0, 1] rfl) hP hD hS
  refine lp10 _ ?_ FUEL σ1 0 _ _ _ hok (lv_sub hl [0, 1] rfl) hP hD hS
  intro σ4 x5 H locs ls hok hl hP hD hS
  exact yEndv S hr hlocks hP hD hS (Nat.le_of_ble_eq_true rfl) (Nat.le_of_ble_eq_true rfl) dX4_findLabels_76 hok

set_option maxHeartbeats 8000000 in
set_option maxRecDepth 100000 in
theorem v_X1_takesValuesAlone (l : Launch) (D : va_G) (cI cZ cJ : ClassId) (o : Nat) (u : Nat → Nat) (T : Nat) (ra : Nat → Nat) (ga : SG) (σ : FS) (a1 : Int32) (Φ : Int32 → FS → Prop) (sz : Nat) (hok : (wp_X1_takesValuesAlone σ a1 Φ)) : Met l yX1_takesValuesAlone (uW yX1_takesValuesAlone cX1_takesValuesAlone 3 (some .boolean)) ({ frames := 0, cells := 0, slots := 0, locals := 0 }) (va_Pc [.ref (u 0), .int a1] (aS ra ga D (tyL cI cZ cJ) (cW o u cI cZ cJ T σ) sz)) (yQi Φ D (cW o u cI cZ cJ T) (va_A (cW o u cI cZ cJ T σ) sz)) 0 0 (va_A (cW o u cI cZ cJ T σ) sz) := by
  refine aStart (lv := [(0, .ref (u 0)), (1, .int a1)]) (Qc := fun A => yQi Φ D (cW o u cI cZ cJ T) A) (by decide) (Nat.le_of_ble_eq_true rfl) rfl ?_
  intro p e s m args below meth c ls A H S hr hlocks hnm hl hK hP hD hS hA hB
  have hx := S.1
  have hb := S.2.1
  refine lv_iconst (v := 0) hx hb dX1_takesValuesAlone_0 (by decide) ?_
  refine lv_istore_n (lv' := [(2, .int 0), (0, .ref (u 0)), (1, .int a1)]) hx hb dX1_takesValuesAlone_1 rfl hl (by decide) rfl (fun ls hl => ?_)
  have lp2 : ∀ (K : FS → Int32 → Prop), (∀ (τ0 : FS) (l2_0 : Int32) (H : Heap) (locs : List Loc) (ls : Array Slot), K τ0 l2_0 → lv_has ls 3 [(2, .int l2_0), (0, .ref (u 0)), (1, .int a1)] → va_P D vwCl (cW o u cI cZ cJ T τ0) H → va_D A (cW o u cI cZ cJ T τ0) → va_S A s.heap H locs → W p l e ({ frames := 0, cells := 0, slots := 0, locals := 0 }) s m args below meth c H locs 0 0 (MQ below (yQi Φ D (cW o u cI cZ cJ T) A) args s 0 0 A) (F0 m 34 ls [])) → ∀ (n0 : Nat) (τ0 : FS) (l2_0 : Int32) (H : Heap) (locs : List Loc) (ls : Array Slot), wp_X1_takesValuesAlone_2 a1 Φ K n0 τ0 l2_0 → lv_has ls 3 [(2, .int l2_0), (0, .ref (u 0)), (1, .int a1)] → va_P D vwCl (cW o u cI cZ cJ T τ0) H → va_D A (cW o u cI cZ cJ T τ0) → va_S A s.heap H locs → W p l e ({ frames := 0, cells := 0, slots := 0, locals := 0 }) s m args below meth c H locs 0 0 (MQ below (yQi Φ D (cW o u cI cZ cJ T) A) args s 0 0 A) (F0 m 2 ls []) := by
    intro K hk n0
    induction n0 with
    | zero => intro τ0 l2_0 H locs ls hok; exact False.elim hok
    | succ n0 ih2 =>
      intro τ0 l2_0 H locs ls hok hl hP hD hS
      refine lv_iload_n hx hb dX1_takesValuesAlone_2 rfl (lv_at hl 0 rfl) ?_
      refine lv_aload_n hx hb dX1_takesValuesAlone_3 rfl (lv_at hl 1 rfl) ?_
      refine xg (ci := 1) S inX1 rfl hK hP cW_1 3 (by decide) rfl kw_3_222 rfl dX1_takesValuesAlone_4 ?_
      refine lv_iload_n hx hb dX1_takesValuesAlone_7 rfl (lv_at hl 2 rfl) ?_
      have h_8 := hok.1
      have hok := hok.2
      refine xiald (t0 := 0) (v := (g τ0 4 a1)) S hK hP cW_4 rfl h_8 rfl dX1_takesValuesAlone_8 ?_
      refine lv_icmp_ge (tgt := 34) hx hb dX1_takesValuesAlone_9 (by decide) (fun c_9 => ?_) (fun c_9 => ?_)
      · have hok := hok.1 c_9
        exact hk τ0 l2_0 H locs ls hok (lv_sub hl [0, 1, 2] rfl) hP hD hS
      · have hok := hok.2 c_9
        refine lv_aload_n hx hb dX1_takesValuesAlone_12 rfl (lv_at hl 1 rfl) ?_
        refine xg (ci := 1) S inX1 rfl hK hP cW_1 10 (by decide) rfl kw_4_1 rfl dX1_takesValuesAlone_13 ?_
        refine lv_iload_n hx hb dX1_takesValuesAlone_16 rfl (lv_at hl 2 rfl) ?_
        refine lv_bipush (v := 10) hx hb dX1_takesValuesAlone_17 (by decide) ?_
        refine ximul (v := a1 * 10) S dX1_takesValuesAlone_19 rfl ?_
        refine lv_iload_n hx hb dX1_takesValuesAlone_20 rfl (lv_at hl 0 rfl) ?_
        refine xiadd (v := (a1 * 10) + l2_0) S dX1_takesValuesAlone_21 rfl ?_
        have h_22 := hok.1
        have hok := hok.2
        refine xiald (t0 := 0) (v := (g τ0 11 ((a1 * 10) + l2_0))) S hK hP cW_11 rfl h_22 rfl dX1_takesValuesAlone_22 ?_
        refine lv_if_eq (tgt := 28) hx hb dX1_takesValuesAlone_23 (by decide) (fun c_23 => ?_) (fun c_23 => ?_)
        · have hok := hok.1 c_23
          refine lv_iinc (v := l2_0 + 1) (lv' := [(2, .int (l2_0 + 1)), (0, .ref (u 0)), (1, .int a1)]) hx hb dX1_takesValuesAlone_28 hl (k := 0) rfl rfl (by decide) rfl (fun ls hl => ?_)
          refine lv_goto (tgt := 2) hx hb dX1_takesValuesAlone_31 (by decide) ?_
          exact ih2 τ0 (l2_0 + 1) H locs ls hok (lv_sub hl [0, 1, 2] rfl) hP hD hS
        · have hok := hok.2 c_23
          refine lv_iconst (v := 0) hx hb dX1_takesValuesAlone_26 (by decide) ?_
          exact yEndZ S hr hlocks hP hD hS (Nat.le_of_ble_eq_true rfl) (Nat.le_of_ble_eq_true rfl) dX1_takesValuesAlone_27 rfl hok
  refine lp2 _ ?_ FUEL σ 0 _ _ _ hok (lv_sub hl [0, 1, 2] rfl) hP hD hS
  intro σ1 x2 H locs ls hok hl hP hD hS
  refine lv_iconst (v := 1) hx hb dX1_takesValuesAlone_34 (by decide) ?_
  exact yEndZ S hr hlocks hP hD hS (Nat.le_of_ble_eq_true rfl) (Nat.le_of_ble_eq_true rfl) dX1_takesValuesAlone_35 rfl hok

set_option maxHeartbeats 8000000 in
set_option maxRecDepth 100000 in
theorem v_X1_isInside (l : Launch) (D : va_G) (cI cZ cJ : ClassId) (o : Nat) (u : Nat → Nat) (T : Nat) (ra : Nat → Nat) (ga : SG) (σ : FS) (a1 : Int32) (a2 : Int32) (Φ : Int32 → FS → Prop) (sz : Nat) (hok : (wp_X1_isInside σ a1 a2 Φ)) : Met l yX1_isInside (uW yX1_isInside cX1_isInside 5 (some .boolean)) ({ frames := 0, cells := 0, slots := 0, locals := 0 }) (va_Pc [.ref (u 0), .int a1, .int a2] (aS ra ga D (tyL cI cZ cJ) (cW o u cI cZ cJ T σ) sz)) (yQi Φ D (cW o u cI cZ cJ T) (va_A (cW o u cI cZ cJ T σ) sz)) 0 0 (va_A (cW o u cI cZ cJ T σ) sz) := by
  refine aStart (lv := [(0, .ref (u 0)), (1, .int a1), (2, .int a2)]) (Qc := fun A => yQi Φ D (cW o u cI cZ cJ T) A) (by decide) (Nat.le_of_ble_eq_true rfl) rfl ?_
  intro p e s m args below meth c ls A H S hr hlocks hnm hl hK hP hD hS hA hB
  have hx := S.1
  have hb := S.2.1
  refine lv_aload_n hx hb dX1_isInside_0 rfl (lv_at hl 0 rfl) ?_
  refine xg (ci := 1) S inX1 rfl hK hP cW_1 1 (by decide) rfl kw_3_217 rfl dX1_isInside_1 ?_
  refine lv_iload_n hx hb dX1_isInside_4 rfl (lv_at hl 1 rfl) ?_
  have h_5 := hok.1
  have hok := hok.2
  refine xiald (t0 := 0) (v := (g σ 2 a1)) S hK hP cW_2 rfl h_5 rfl dX1_isInside_5 ?_
  refine lv_topi (fun x1 ex1 => ?_)
  have hok := hok x1 ex1
  refine lv_istore_n (lv' := [(3, .int x1), (0, .ref (u 0)), (1, .int a1), (2, .int a2)]) hx hb dX1_isInside_6 rfl hl (by decide) rfl (fun ls hl => ?_)
  refine lv_iconst (v := 0) hx hb dX1_isInside_7 (by decide) ?_
  refine lv_istore (lv' := [(4, .int 0), (3, .int x1), (0, .ref (u 0)), (1, .int a1), (2, .int a2)]) hx hb dX1_isInside_8 hl (by decide) rfl (fun ls hl => ?_)
  have lp10 : ∀ (K : FS → Int32 → Int32 → Prop), (∀ (τ0 : FS) (l4_0 : Int32) (l3_0 : Int32) (H : Heap) (locs : List Loc) (ls : Array Slot), K τ0 l4_0 l3_0 → lv_has ls 5 [(4, .int l4_0), (3, .int l3_0), (0, .ref (u 0)), (1, .int a1), (2, .int a2)] → va_P D vwCl (cW o u cI cZ cJ T τ0) H → va_D A (cW o u cI cZ cJ T τ0) → va_S A s.heap H locs → W p l e ({ frames := 0, cells := 0, slots := 0, locals := 0 }) s m args below meth c H locs 0 0 (MQ below (yQi Φ D (cW o u cI cZ cJ T) A) args s 0 0 A) (F0 m 42 ls [])) → ∀ (n0 : Nat) (τ0 : FS) (l4_0 : Int32) (l3_0 : Int32) (H : Heap) (locs : List Loc) (ls : Array Slot), wp_X1_isInside_10 a1 a2 Φ K n0 τ0 l4_0 l3_0 → lv_has ls 5 [(4, .int l4_0), (3, .int l3_0), (0, .ref (u 0)), (1, .int a1), (2, .int a2)] → va_P D vwCl (cW o u cI cZ cJ T τ0) H → va_D A (cW o u cI cZ cJ T τ0) → va_S A s.heap H locs → W p l e ({ frames := 0, cells := 0, slots := 0, locals := 0 }) s m args below meth c H locs 0 0 (MQ below (yQi Φ D (cW o u cI cZ cJ T) A) args s 0 0 A) (F0 m 10 ls []) := by
    intro K hk n0
    induction n0 with
    | zero => intro τ0 l4_0 l3_0 H locs ls hok; exact False.elim hok
    | succ n0 ih10 =>
      intro τ0 l4_0 l3_0 H locs ls hok hl hP hD hS
      refine lv_iload hx hb dX1_isInside_10 (lv_at hl 0 rfl) ?_
      refine lv_bipush (v := 10) hx hb dX1_isInside_12 (by decide) ?_
      refine lv_icmp_ge (tgt := 42) hx hb dX1_isInside_14 (by decide) (fun c_14 => ?_) (fun c_14 => ?_)
      · have hok := hok.1 c_14
        exact hk τ0 l4_0 l3_0 H locs ls hok (lv_sub hl [0, 1, 2, 3, 4] rfl) hP hD hS
      · have hok := hok.2 c_14
        refine lv_iload_n hx hb dX1_isInside_17 rfl (lv_at hl 1 rfl) ?_
        refine lv_iconst (v := (-1)) hx hb dX1_isInside_18 (by decide) ?_
        refine lv_icmp_eq (tgt := 42) hx hb dX1_isInside_19 (by decide) (fun c_19 => ?_) (fun c_19 => ?_)
        · have hok := hok.1 c_19
          exact hk τ0 l4_0 l3_0 H locs ls hok (lv_sub hl [0, 1, 2, 3, 4] rfl) hP hD hS
        · have hok := hok.2 c_19
          refine lv_iload_n hx hb dX1_isInside_22 rfl (lv_at hl 1 rfl) ?_
          refine lv_iload_n hx hb dX1_isInside_23 rfl (lv_at hl 4 rfl) ?_
          refine lv_icmp_ne (tgt := 29) hx hb dX1_isInside_24 (by decide) (fun c_24 => ?_) (fun c_24 => ?_)
          · have hok := hok.2 c_24
            refine lv_aload_n hx hb dX1_isInside_29 rfl (lv_at hl 2 rfl) ?_
            refine xg (ci := 1) S inX1 rfl hK hP cW_1 1 (by decide) rfl kw_3_217 rfl dX1_isInside_30 ?_
            refine lv_iload_n hx hb dX1_isInside_33 rfl (lv_at hl 1 rfl) ?_
            have h_34 := hok.1
            have hok := hok.2
            refine xiald (t0 := 0) (v := (g τ0 2 l3_0)) S hK hP cW_2 rfl h_34 rfl dX1_isInside_34 ?_
            refine lv_topi (fun x2 ex2 => ?_)
            have hok := hok x2 ex2
            refine lv_istore_n (lv' := [(3, .int x2), (4, .int l4_0), (0, .ref (u 0)), (1, .int a1), (2, .int a2)]) hx hb dX1_isInside_35 rfl hl (by decide) rfl (fun ls hl => ?_)
            refine lv_iinc (v := l4_0 + 1) (lv' := [(4, .int (l4_0 + 1)), (3, .int x2), (0, .ref (u 0)), (1, .int a1), (2, .int a2)]) hx hb dX1_isInside_36 hl (k := 1) rfl rfl (by decide) rfl (fun ls hl => ?_)
            refine lv_goto (tgt := 10) hx hb dX1_isInside_39 (by decide) ?_
            exact ih10 τ0 (l4_0 + 1) x2 H locs ls hok (lv_sub hl [0, 1, 2, 3, 4] rfl) hP hD hS
          · have hok := hok.1 c_24
            refine lv_iconst (v := 1) hx hb dX1_isInside_27 (by decide) ?_
            exact yEndZ S hr hlocks hP hD hS (Nat.le_of_ble_eq_true rfl) (Nat.le_of_ble_eq_true rfl) dX1_isInside_28 rfl hok
  refine lp10 _ ?_ FUEL σ 0 x1 _ _ _ hok (lv_sub hl [0, 1, 2, 3, 4] rfl) hP hD hS
  intro σ3 x4 x5 H locs ls hok hl hP hD hS
  refine lv_iconst (v := 0) hx hb dX1_isInside_42 (by decide) ?_
  exact yEndZ S hr hlocks hP hD hS (Nat.le_of_ble_eq_true rfl) (Nat.le_of_ble_eq_true rfl) dX1_isInside_43 rfl hok

set_option maxHeartbeats 8000000 in
set_option maxRecDepth 100000 in
theorem v_X4_isTail (l : Launch) (D : va_G) (cI cZ cJ : ClassId) (o : Nat) (u : Nat → Nat) (T : Nat) (ra : Nat → Nat) (ga : SG) (σ : FS) (a1 : Int32) (Φ : Int32 → FS → Prop) (sz : Nat) (hok : (wp_X4_isTail σ a1 Φ)) : Met l yX4_isTail (uW yX4_isTail cX4_isTail 4 (some .boolean)) ({ frames := 1, cells := 0, slots := 0, locals := 24 }) (va_Pc [.ref (u 19), .int a1] (aS ra ga D (tyL cI cZ cJ) (cW o u cI cZ cJ T σ) sz)) (yQi Φ D (cW o u cI cZ cJ T) (va_A (cW o u cI cZ cJ T σ) sz)) 0 0 (va_A (cW o u cI cZ cJ T σ) sz) := by
  refine aStart (lv := [(0, .ref (u 19)), (1, .int a1)]) (Qc := fun A => yQi Φ D (cW o u cI cZ cJ T) A) (by decide) (Nat.le_of_ble_eq_true rfl) rfl ?_
  intro p e s m args below meth c ls A H S hr hlocks hnm hl hK hP hD hS hA hB
  have hx := S.1
  have hb := S.2.1
  refine lv_aload_n hx hb dX4_isTail_0 rfl (lv_at hl 0 rfl) ?_
  refine xg (ci := 4) S inX4 rfl hK hP cW_20 2 (by decide) rfl kw_4_89 rfl dX4_isTail_1 ?_
  refine lv_iload_n hx hb dX4_isTail_4 rfl (lv_at hl 1 rfl) ?_
  have h_5 := hok.1
  have hok := hok.2
  refine xiald (t0 := 0) (v := (g σ 21 a1)) S hK hP cW_21 rfl h_5 rfl dX4_isTail_5 ?_
  refine lv_topi (fun x1 ex1 => ?_)
  have hok := hok x1 ex1
  refine lv_istore_n (lv' := [(2, .int x1), (0, .ref (u 19)), (1, .int a1)]) hx hb dX4_isTail_6 rfl hl (by decide) rfl (fun ls hl => ?_)
  refine lv_aload_n hx hb dX4_isTail_7 rfl (lv_at hl 1 rfl) ?_
  refine xg (ci := 4) S inX4 rfl hK hP cW_20 1 (by decide) rfl kw_4_88 rfl dX4_isTail_8 ?_
  refine xg (ci := 5) S inX5 rfl hK hP cW_13 1 (by decide) rfl kw_4_42 rfl dX4_isTail_11 ?_
  refine lv_iload_n hx hb dX4_isTail_14 rfl (lv_at hl 2 rfl) ?_
  have h_15 := hok.1
  have hok := hok.2
  refine xiald (t0 := 0) (v := (g σ 14 a1)) S hK hP cW_14 rfl h_15 rfl dX4_isTail_15 ?_
  refine lv_bipush (v := 18) hx hb dX4_isTail_16 (by decide) ?_
  refine lv_icmp_ne (tgt := 39) hx hb dX4_isTail_18 (by decide) (fun c_18 => ?_) (fun c_18 => ?_)
  · have hok := hok.2 c_18
    refine lv_iconst (v := 0) hx hb dX4_isTail_39 (by decide) ?_
    exact yEndZ S hr hlocks hP hD hS (Nat.le_of_ble_eq_true rfl) (Nat.le_of_ble_eq_true rfl) dX4_isTail_40 rfl hok
  · have hok := hok.1 c_18
    refine lv_iload_n hx hb dX4_isTail_21 rfl (lv_at hl 0 rfl) ?_
    refine lv_iconst (v := (-1)) hx hb dX4_isTail_22 (by decide) ?_
    refine lv_icmp_eq (tgt := 39) hx hb dX4_isTail_23 (by decide) (fun c_23 => ?_) (fun c_23 => ?_)
    · have hok := hok.1 c_23
      refine lv_iconst (v := 0) hx hb dX4_isTail_39 (by decide) ?_
      exact yEndZ S hr hlocks hP hD hS (Nat.le_of_ble_eq_true rfl) (Nat.le_of_ble_eq_true rfl) dX4_isTail_40 rfl hok
    · have hok := hok.2 c_23
      refine lv_iload_n hx hb dX4_isTail_26 rfl (lv_at hl 0 rfl) ?_
      refine lv_if_eq (tgt := 39) hx hb dX4_isTail_27 (by decide) (fun c_27 => ?_) (fun c_27 => ?_)
      · have hok := hok.1 c_27
        refine lv_iconst (v := 0) hx hb dX4_isTail_39 (by decide) ?_
        exact yEndZ S hr hlocks hP hD hS (Nat.le_of_ble_eq_true rfl) (Nat.le_of_ble_eq_true rfl) dX4_isTail_40 rfl hok
      · have hok := hok.2 c_27
        refine lv_aload_n hx hb dX4_isTail_30 rfl (lv_at hl 1 rfl) ?_
        refine xg (ci := 4) S inX4 rfl hK hP cW_20 14 (by decide) rfl kw_4_122 rfl dX4_isTail_31 ?_
        refine lv_iload_n hx hb dX4_isTail_34 rfl (lv_at hl 0 rfl) ?_
        have h_35 := hok.1
        have hok := hok.2
        refine xiald (t0 := 0) (v := (g σ 33 x1)) S hK hP cW_33 rfl h_35 rfl dX4_isTail_35 ?_
        refine lv_if_eq (tgt := 41) hx hb dX4_isTail_36 (by decide) (fun c_36 => ?_) (fun c_36 => ?_)
        · have hok := hok.1 c_36
          refine lv_aload_n hx hb dX4_isTail_41 rfl (lv_at hl 1 rfl) ?_
          refine xg (ci := 4) S inX4 rfl hK hP cW_20 1 (by decide) rfl kw_4_88 rfl dX4_isTail_42 ?_
          refine xg (ci := 5) S inX5 rfl hK hP cW_13 3 (by decide) rfl kw_4_51 rfl dX4_isTail_45 ?_
          refine lv_iload_n hx hb dX4_isTail_48 rfl (lv_at hl 2 rfl) ?_
          have h_49 := hok.1
          have hok := hok.2
          refine xiald (t0 := 0) (v := (g σ 16 a1)) S hK hP cW_16 rfl h_49 rfl dX4_isTail_49 ?_
          refine lv_topi (fun x2 ex2 => ?_)
          have hok := hok x2 ex2
          refine lv_istore_n (lv' := [(3, .int x2), (2, .int x1), (0, .ref (u 19)), (1, .int a1)]) hx hb dX4_isTail_50 rfl hl (by decide) rfl (fun ls hl => ?_)
          refine lv_aload_n hx hb dX4_isTail_51 rfl (lv_at hl 2 rfl) ?_
          refine xg (ci := 4) S inX4 rfl hK hP cW_20 1 (by decide) rfl kw_4_88 rfl dX4_isTail_52 ?_
          refine xg (ci := 5) S inX5 rfl hK hP cW_13 1 (by decide) rfl kw_4_42 rfl dX4_isTail_55 ?_
          refine lv_iload_n hx hb dX4_isTail_58 rfl (lv_at hl 0 rfl) ?_
          have h_59 := hok.1
          have hok := hok.2
          refine xiald (t0 := 0) (v := (g σ 14 x2)) S hK hP cW_14 rfl h_59 rfl dX4_isTail_59 ?_
          refine lv_bipush (v := 8) hx hb dX4_isTail_60 (by decide) ?_
          refine lv_icmp_ne (tgt := 113) hx hb dX4_isTail_62 (by decide) (fun c_62 => ?_) (fun c_62 => ?_)
          · have hok := hok.2 c_62
            refine lv_iconst (v := 0) hx hb dX4_isTail_113 (by decide) ?_
            exact yEndZ S hr hlocks hP hD hS (Nat.le_of_ble_eq_true rfl) (Nat.le_of_ble_eq_true rfl) dX4_isTail_114 rfl hok
          · have hok := hok.1 c_62
            refine lv_aload_n hx hb dX4_isTail_65 rfl (lv_at hl 2 rfl) ?_
            refine xg (ci := 4) S inX4 rfl hK hP cW_20 5 (by decide) rfl kw_4_97 rfl dX4_isTail_66 ?_
            refine lv_iload_n hx hb dX4_isTail_69 rfl (lv_at hl 0 rfl) ?_
            have h_70 := hok.1
            have hok := hok.2
            refine xiald (t0 := 0) (v := (g σ 24 x2)) S hK hP cW_24 rfl h_70 rfl dX4_isTail_70 ?_
            refine lv_bipush (v := 10) hx hb dX4_isTail_71 (by decide) ?_
            refine lv_icmp_ne (tgt := 113) hx hb dX4_isTail_73 (by decide) (fun c_73 => ?_) (fun c_73 => ?_)
            · have hok := hok.2 c_73
              refine lv_iconst (v := 0) hx hb dX4_isTail_113 (by decide) ?_
              exact yEndZ S hr hlocks hP hD hS (Nat.le_of_ble_eq_true rfl) (Nat.le_of_ble_eq_true rfl) dX4_isTail_114 rfl hok
            · have hok := hok.1 c_73
              refine lv_aload_n hx hb dX4_isTail_76 rfl (lv_at hl 2 rfl) ?_
              refine xg (ci := 4) S inX4 rfl hK hP cW_20 0 (by decide) rfl kw_4_87 rfl dX4_isTail_77 ?_
              refine lv_aload_n hx hb dX4_isTail_80 rfl (lv_at hl 2 rfl) ?_
              refine xg (ci := 4) S inX4 rfl hK hP cW_20 6 (by decide) rfl kw_4_101 rfl dX4_isTail_81 ?_
              refine lv_iload_n hx hb dX4_isTail_84 rfl (lv_at hl 0 rfl) ?_
              have h_85 := hok.1
              have hok := hok.2
              refine xiald (t0 := 0) (v := (g σ 25 x2)) S hK hP cW_25 rfl h_85 rfl dX4_isTail_85 ?_
              refine yVi (As := [.int (g σ 25 x2)]) (cw := (cW o u cI cZ cJ T)) (ci := 1) S (v_X1_takesValuesAlone l D cI cZ cJ o u T ra ga σ (g σ 25 x2) _ H.size hok) mi_X1_takesValuesAlone kw_1_199 rfl rfl ⟨Nat.le_of_ble_eq_true rfl, Nat.le_of_ble_eq_true rfl⟩ hP hD hK hS hA hB cW_1 rfl rfl hl.1 (Nat.le_of_ble_eq_true rfl) ⟨Nat.le_of_ble_eq_true rfl, Nat.le_of_ble_eq_true rfl⟩ dX4_isTail_86 (fun x4 σ3 H locs hok hz hP hD hS => ?_)
              refine lv_if_eq (tgt := 113) hx hb dX4_isTail_89 (by decide) (fun c_89 => ?_) (fun c_89 => ?_)
              · have hok := hok.1 c_89
                refine lv_iconst (v := 0) hx hb dX4_isTail_113 (by decide) ?_
                exact yEndZ S hr hlocks hP hD hS (Nat.le_of_ble_eq_true rfl) (Nat.le_of_ble_eq_true rfl) dX4_isTail_114 rfl hok
              · have hok := hok.2 c_89
                refine lv_aload_n hx hb dX4_isTail_92 rfl (lv_at hl 2 rfl) ?_
                refine xg (ci := 4) S inX4 rfl hK hP cW_20 0 (by decide) rfl kw_4_87 rfl dX4_isTail_93 ?_
                refine lv_aload_n hx hb dX4_isTail_96 rfl (lv_at hl 2 rfl) ?_
                refine xg (ci := 4) S inX4 rfl hK hP cW_20 6 (by decide) rfl kw_4_101 rfl dX4_isTail_97 ?_
                refine lv_iload_n hx hb dX4_isTail_100 rfl (lv_at hl 0 rfl) ?_
                have h_101 := hok.1
                have hok := hok.2
                refine xiald (t0 := 0) (v := (g σ3 25 x2)) S hK hP cW_25 rfl h_101 rfl dX4_isTail_101 ?_
                refine lv_iload_n hx hb dX4_isTail_102 rfl (lv_at hl 1 rfl) ?_
                refine yVi (As := [.int (g σ3 25 x2), .int x1]) (cw := (cW o u cI cZ cJ T)) (ci := 1) S (v_X1_isInside l D cI cZ cJ o u T ra ga σ3 (g σ3 25 x2) x1 _ H.size hok) mi_X1_isInside kw_1_203 rfl rfl ⟨Nat.le_of_ble_eq_true rfl, Nat.le_of_ble_eq_true rfl⟩ hP hD hK hS hA hB cW_1 rfl rfl hl.1 (Nat.le_of_ble_eq_true rfl) ⟨Nat.le_of_ble_eq_true rfl, Nat.le_of_ble_eq_true rfl⟩ dX4_isTail_103 (fun x6 σ5 H locs hok hz hP hD hS => ?_)
                refine lv_if_ne (tgt := 113) hx hb dX4_isTail_106 (by decide) (fun c_106 => ?_) (fun c_106 => ?_)
                · have hok := hok.2 c_106
                  refine lv_iconst (v := 0) hx hb dX4_isTail_113 (by decide) ?_
                  exact yEndZ S hr hlocks hP hD hS (Nat.le_of_ble_eq_true rfl) (Nat.le_of_ble_eq_true rfl) dX4_isTail_114 rfl hok
                · have hok := hok.1 c_106
                  refine lv_iconst (v := 1) hx hb dX4_isTail_109 (by decide) ?_
                  refine lv_goto (tgt := 114) hx hb dX4_isTail_110 (by decide) ?_
                  exact yEndZ S hr hlocks hP hD hS (Nat.le_of_ble_eq_true rfl) (Nat.le_of_ble_eq_true rfl) dX4_isTail_114 rfl hok
        · have hok := hok.2 c_36
          refine lv_iconst (v := 0) hx hb dX4_isTail_39 (by decide) ?_
          exact yEndZ S hr hlocks hP hD hS (Nat.le_of_ble_eq_true rfl) (Nat.le_of_ble_eq_true rfl) dX4_isTail_40 rfl hok

set_option maxHeartbeats 8000000 in
set_option maxRecDepth 100000 in
theorem v_X4_isInLoop (l : Launch) (D : va_G) (cI cZ cJ : ClassId) (o : Nat) (u : Nat → Nat) (T : Nat) (ra : Nat → Nat) (ga : SG) (σ : FS) (a1 : Int32) (Φ : Int32 → FS → Prop) (sz : Nat) (hok : (wp_X4_isInLoop σ a1 Φ)) : Met l yX4_isInLoop (uW yX4_isInLoop cX4_isInLoop 4 (some .boolean)) ({ frames := 0, cells := 0, slots := 0, locals := 0 }) (va_Pc [.ref (u 19), .int a1] (aS ra ga D (tyL cI cZ cJ) (cW o u cI cZ cJ T σ) sz)) (yQi Φ D (cW o u cI cZ cJ T) (va_A (cW o u cI cZ cJ T σ) sz)) 0 0 (va_A (cW o u cI cZ cJ T σ) sz) := by
  refine aStart (lv := [(0, .ref (u 19)), (1, .int a1)]) (Qc := fun A => yQi Φ D (cW o u cI cZ cJ T) A) (by decide) (Nat.le_of_ble_eq_true rfl) rfl ?_
  intro p e s m args below meth c ls A H S hr hlocks hnm hl hK hP hD hS hA hB
  have hx := S.1
  have hb := S.2.1
  refine lv_aload_n hx hb dX4_isInLoop_0 rfl (lv_at hl 0 rfl) ?_
  refine xg (ci := 4) S inX4 rfl hK hP cW_20 1 (by decide) rfl kw_4_88 rfl dX4_isInLoop_1 ?_
  refine xg (ci := 5) S inX5 rfl hK hP cW_13 5 (by decide) rfl kw_4_61 rfl dX4_isInLoop_4 ?_
  refine lv_iload_n hx hb dX4_isInLoop_7 rfl (lv_at hl 1 rfl) ?_
  have h_8 := hok.1
  have hok := hok.2
  refine xiald (t0 := 0) (v := (g σ 18 a1)) S hK hP cW_18 rfl h_8 rfl dX4_isInLoop_8 ?_
  refine lv_topi (fun x1 ex1 => ?_)
  have hok := hok x1 ex1
  refine lv_istore_n (lv' := [(2, .int x1), (0, .ref (u 19)), (1, .int a1)]) hx hb dX4_isInLoop_9 rfl hl (by decide) rfl (fun ls hl => ?_)
  refine lv_iconst (v := 0) hx hb dX4_isInLoop_10 (by decide) ?_
  refine lv_istore_n (lv' := [(3, .int 0), (2, .int x1), (0, .ref (u 19)), (1, .int a1)]) hx hb dX4_isInLoop_11 rfl hl (by decide) rfl (fun ls hl => ?_)
  have lp12 : ∀ (K : FS → Int32 → Int32 → Prop), (∀ (τ0 : FS) (l3_0 : Int32) (l2_0 : Int32) (H : Heap) (locs : List Loc) (ls : Array Slot), K τ0 l3_0 l2_0 → lv_has ls 4 [(3, .int l3_0), (2, .int l2_0), (0, .ref (u 19)), (1, .int a1)] → va_P D vwCl (cW o u cI cZ cJ T τ0) H → va_D A (cW o u cI cZ cJ T τ0) → va_S A s.heap H locs → W p l e ({ frames := 0, cells := 0, slots := 0, locals := 0 }) s m args below meth c H locs 0 0 (MQ below (yQi Φ D (cW o u cI cZ cJ T) A) args s 0 0 A) (F0 m 76 ls [])) → ∀ (n0 : Nat) (τ0 : FS) (l3_0 : Int32) (l2_0 : Int32) (H : Heap) (locs : List Loc) (ls : Array Slot), wp_X4_isInLoop_12 a1 Φ K n0 τ0 l3_0 l2_0 → lv_has ls 4 [(3, .int l3_0), (2, .int l2_0), (0, .ref (u 19)), (1, .int a1)] → va_P D vwCl (cW o u cI cZ cJ T τ0) H → va_D A (cW o u cI cZ cJ T τ0) → va_S A s.heap H locs → W p l e ({ frames := 0, cells := 0, slots := 0, locals := 0 }) s m args below meth c H locs 0 0 (MQ below (yQi Φ D (cW o u cI cZ cJ T) A) args s 0 0 A) (F0 m 12 ls []) := by
    intro K hk n0
    induction n0 with
    | zero => intro τ0 l3_0 l2_0 H locs ls hok; exact False.elim hok
    | succ n0 ih12 =>
      intro τ0 l3_0 l2_0 H locs ls hok hl hP hD hS
      refine lv_iload_n hx hb dX4_isInLoop_12 rfl (lv_at hl 0 rfl) ?_
      refine lv_bipush (v := 110) hx hb dX4_isInLoop_13 (by decide) ?_
      refine lv_icmp_ge (tgt := 76) hx hb dX4_isInLoop_15 (by decide) (fun c_15 => ?_) (fun c_15 => ?_)
      · have hok := hok.1 c_15
        exact hk τ0 l3_0 l2_0 H locs ls hok (lv_sub hl [0, 1, 2, 3] rfl) hP hD hS
      · have hok := hok.2 c_15
        refine lv_iload_n hx hb dX4_isInLoop_18 rfl (lv_at hl 1 rfl) ?_
        refine lv_iconst (v := (-1)) hx hb dX4_isInLoop_19 (by decide) ?_
        refine lv_icmp_eq (tgt := 76) hx hb dX4_isInLoop_20 (by decide) (fun c_20 => ?_) (fun c_20 => ?_)
        · have hok := hok.1 c_20
          exact hk τ0 l3_0 l2_0 H locs ls hok (lv_sub hl [0, 1, 2, 3] rfl) hP hD hS
        · have hok := hok.2 c_20
          refine lv_aload_n hx hb dX4_isInLoop_23 rfl (lv_at hl 2 rfl) ?_
          refine xg (ci := 4) S inX4 rfl hK hP cW_20 1 (by decide) rfl kw_4_88 rfl dX4_isInLoop_24 ?_
          refine xg (ci := 5) S inX5 rfl hK hP cW_13 1 (by decide) rfl kw_4_42 rfl dX4_isInLoop_27 ?_
          refine lv_iload_n hx hb dX4_isInLoop_30 rfl (lv_at hl 1 rfl) ?_
          have h_31 := hok.1
          have hok := hok.2
          refine xiald (t0 := 0) (v := (g τ0 14 l2_0)) S hK hP cW_14 rfl h_31 rfl dX4_isInLoop_31 ?_
          refine lv_bipush (v := 16) hx hb dX4_isInLoop_32 (by decide) ?_
          refine lv_icmp_ne (tgt := 60) hx hb dX4_isInLoop_34 (by decide) (fun c_34 => ?_) (fun c_34 => ?_)
          · have hok := hok.2 c_34
            refine lv_aload_n hx hb dX4_isInLoop_60 rfl (lv_at hl 2 rfl) ?_
            refine xg (ci := 4) S inX4 rfl hK hP cW_20 1 (by decide) rfl kw_4_88 rfl dX4_isInLoop_61 ?_
            refine xg (ci := 5) S inX5 rfl hK hP cW_13 5 (by decide) rfl kw_4_61 rfl dX4_isInLoop_64 ?_
            refine lv_iload_n hx hb dX4_isInLoop_67 rfl (lv_at hl 1 rfl) ?_
            have h_68 := hok.1
            have hok := hok.2
            refine xiald (t0 := 0) (v := (g τ0 18 l2_0)) S hK hP cW_18 rfl h_68 rfl dX4_isInLoop_68 ?_
            refine lv_topi (fun x2 ex2 => ?_)
            have hok := hok x2 ex2
            refine lv_istore_n (lv' := [(2, .int x2), (3, .int l3_0), (0, .ref (u 19)), (1, .int a1)]) hx hb dX4_isInLoop_69 rfl hl (by decide) rfl (fun ls hl => ?_)
            refine lv_iinc (v := l3_0 + 1) (lv' := [(3, .int (l3_0 + 1)), (2, .int x2), (0, .ref (u 19)), (1, .int a1)]) hx hb dX4_isInLoop_70 hl (k := 1) rfl rfl (by decide) rfl (fun ls hl => ?_)
            refine lv_goto (tgt := 12) hx hb dX4_isInLoop_73 (by decide) ?_
            exact ih12 τ0 (l3_0 + 1) x2 H locs ls hok (lv_sub hl [0, 1, 2, 3] rfl) hP hD hS
          · have hok := hok.1 c_34
            refine lv_aload_n hx hb dX4_isInLoop_37 rfl (lv_at hl 2 rfl) ?_
            refine xg (ci := 4) S inX4 rfl hK hP cW_20 1 (by decide) rfl kw_4_88 rfl dX4_isInLoop_38 ?_
            refine xg (ci := 5) S inX5 rfl hK hP cW_13 2 (by decide) rfl kw_4_47 rfl dX4_isInLoop_41 ?_
            refine lv_iload_n hx hb dX4_isInLoop_44 rfl (lv_at hl 1 rfl) ?_
            have h_45 := hok.1
            have hok := hok.2
            refine xiald (t0 := 0) (v := (g τ0 15 l2_0)) S hK hP cW_15 rfl h_45 rfl dX4_isInLoop_45 ?_
            refine lv_aload_n hx hb dX4_isInLoop_46 rfl (lv_at hl 2 rfl) ?_
            refine xg (ci := 4) S inX4 rfl hK hP cW_20 1 (by decide) rfl kw_4_88 rfl dX4_isInLoop_47 ?_
            refine xg (ci := 5) S inX5 rfl hK hP cW_13 2 (by decide) rfl kw_4_47 rfl dX4_isInLoop_50 ?_
            refine lv_iload_n hx hb dX4_isInLoop_53 rfl (lv_at hl 3 rfl) ?_
            have h_54 := hok.1
            have hok := hok.2
            refine xiald (t0 := 0) (v := (g τ0 15 a1)) S hK hP cW_15 rfl h_54 rfl dX4_isInLoop_54 ?_
            refine lv_icmp_ne (tgt := 60) hx hb dX4_isInLoop_55 (by decide) (fun c_55 => ?_) (fun c_55 => ?_)
            · have hok := hok.2 c_55
              refine lv_aload_n hx hb dX4_isInLoop_60 rfl (lv_at hl 2 rfl) ?_
              refine xg (ci := 4) S inX4 rfl hK hP cW_20 1 (by decide) rfl kw_4_88 rfl dX4_isInLoop_61 ?_
              refine xg (ci := 5) S inX5 rfl hK hP cW_13 5 (by decide) rfl kw_4_61 rfl dX4_isInLoop_64 ?_
              refine lv_iload_n hx hb dX4_isInLoop_67 rfl (lv_at hl 1 rfl) ?_
              have h_68 := hok.1
              have hok := hok.2
              refine xiald (t0 := 0) (v := (g τ0 18 l2_0)) S hK hP cW_18 rfl h_68 rfl dX4_isInLoop_68 ?_
              refine lv_topi (fun x3 ex3 => ?_)
              have hok := hok x3 ex3
              refine lv_istore_n (lv' := [(2, .int x3), (3, .int l3_0), (0, .ref (u 19)), (1, .int a1)]) hx hb dX4_isInLoop_69 rfl hl (by decide) rfl (fun ls hl => ?_)
              refine lv_iinc (v := l3_0 + 1) (lv' := [(3, .int (l3_0 + 1)), (2, .int x3), (0, .ref (u 19)), (1, .int a1)]) hx hb dX4_isInLoop_70 hl (k := 1) rfl rfl (by decide) rfl (fun ls hl => ?_)
              refine lv_goto (tgt := 12) hx hb dX4_isInLoop_73 (by decide) ?_
              exact ih12 τ0 (l3_0 + 1) x3 H locs ls hok (lv_sub hl [0, 1, 2, 3] rfl) hP hD hS
            · have hok := hok.1 c_55
              refine lv_iconst (v := 1) hx hb dX4_isInLoop_58 (by decide) ?_
              exact yEndZ S hr hlocks hP hD hS (Nat.le_of_ble_eq_true rfl) (Nat.le_of_ble_eq_true rfl) dX4_isInLoop_59 rfl hok
  refine lp12 _ ?_ FUEL σ 0 x1 _ _ _ hok (lv_sub hl [0, 1, 2, 3] rfl) hP hD hS
  intro σ4 x5 x6 H locs ls hok hl hP hD hS
  refine lv_iconst (v := 0) hx hb dX4_isInLoop_76 (by decide) ?_
  exact yEndZ S hr hlocks hP hD hS (Nat.le_of_ble_eq_true rfl) (Nat.le_of_ble_eq_true rfl) dX4_isInLoop_77 rfl hok

set_option maxHeartbeats 8000000 in
set_option maxRecDepth 100000 in
theorem v_X4_hopsToLoop (l : Launch) (D : va_G) (cI cZ cJ : ClassId) (o : Nat) (u : Nat → Nat) (T : Nat) (ra : Nat → Nat) (ga : SG) (σ : FS) (a1 : Int32) (Φ : Int32 → FS → Prop) (sz : Nat) (hok : (wp_X4_hopsToLoop σ a1 Φ)) : Met l yX4_hopsToLoop (uW yX4_hopsToLoop cX4_hopsToLoop 4 (some .int)) ({ frames := 1, cells := 0, slots := 0, locals := 23 }) (va_Pc [.ref (u 19), .int a1] (aS ra ga D (tyL cI cZ cJ) (cW o u cI cZ cJ T σ) sz)) (yQi Φ D (cW o u cI cZ cJ T) (va_A (cW o u cI cZ cJ T σ) sz)) 0 0 (va_A (cW o u cI cZ cJ T σ) sz) := by
  refine aStart (lv := [(0, .ref (u 19)), (1, .int a1)]) (Qc := fun A => yQi Φ D (cW o u cI cZ cJ T) A) (by decide) (Nat.le_of_ble_eq_true rfl) rfl ?_
  intro p e s m args below meth c ls A H S hr hlocks hnm hl hK hP hD hS hA hB
  have hx := S.1
  have hb := S.2.1
  refine lv_aload_n hx hb dX4_hopsToLoop_0 rfl (lv_at hl 0 rfl) ?_
  refine xg (ci := 4) S inX4 rfl hK hP cW_20 2 (by decide) rfl kw_4_89 rfl dX4_hopsToLoop_1 ?_
  refine lv_iload_n hx hb dX4_hopsToLoop_4 rfl (lv_at hl 1 rfl) ?_
  have h_5 := hok.1
  have hok := hok.2
  refine xiald (t0 := 0) (v := (g σ 21 a1)) S hK hP cW_21 rfl h_5 rfl dX4_hopsToLoop_5 ?_
  refine lv_iconst (v := (-1)) hx hb dX4_hopsToLoop_6 (by decide) ?_
  refine lv_icmp_ne (tgt := 12) hx hb dX4_hopsToLoop_7 (by decide) (fun c_7 => ?_) (fun c_7 => ?_)
  · have hok := hok.2 c_7
    refine lv_aload_n hx hb dX4_hopsToLoop_12 rfl (lv_at hl 0 rfl) ?_
    refine lv_iload_n hx hb dX4_hopsToLoop_13 rfl (lv_at hl 1 rfl) ?_
    refine yVi (As := [.int a1]) (cw := (cW o u cI cZ cJ T)) (ci := 4) S (v_X4_isInLoop l D cI cZ cJ o u T ra ga σ a1 _ H.size hok) mi_X4_isInLoop kw_1_211 rfl rfl ⟨Nat.le_of_ble_eq_true rfl, Nat.le_of_ble_eq_true rfl⟩ hP hD hK hS hA hB cW_20 rfl rfl hl.1 (Nat.le_of_ble_eq_true rfl) ⟨Nat.le_of_ble_eq_true rfl, Nat.le_of_ble_eq_true rfl⟩ dX4_hopsToLoop_14 (fun x2 σ1 H locs hok hz hP hD hS => ?_)
    refine lv_if_eq (tgt := 22) hx hb dX4_hopsToLoop_17 (by decide) (fun c_17 => ?_) (fun c_17 => ?_)
    · have hok := hok.1 c_17
      refine lv_aload_n hx hb dX4_hopsToLoop_22 rfl (lv_at hl 0 rfl) ?_
      refine xg (ci := 4) S inX4 rfl hK hP cW_20 0 (by decide) rfl kw_4_87 rfl dX4_hopsToLoop_23 ?_
      refine xg (ci := 1) S inX1 rfl hK hP cW_1 1 (by decide) rfl kw_3_219 rfl dX4_hopsToLoop_26 ?_
      refine lv_aload_n hx hb dX4_hopsToLoop_29 rfl (lv_at hl 0 rfl) ?_
      refine xg (ci := 4) S inX4 rfl hK hP cW_20 2 (by decide) rfl kw_4_89 rfl dX4_hopsToLoop_30 ?_
      refine lv_iload_n hx hb dX4_hopsToLoop_33 rfl (lv_at hl 1 rfl) ?_
      have h_34 := hok.1
      have hok := hok.2
      refine xiald (t0 := 0) (v := (g σ1 21 a1)) S hK hP cW_21 rfl h_34 rfl dX4_hopsToLoop_34 ?_
      have h_35 := hok.1
      have hok := hok.2
      refine xiald (t0 := 0) (v := (g σ1 2 (g σ1 21 a1))) S hK hP cW_2 rfl h_35 rfl dX4_hopsToLoop_35 ?_
      refine lv_topi (fun x3 ex3 => ?_)
      have hok := hok x3 ex3
      refine lv_istore_n (lv' := [(2, .int x3), (0, .ref (u 19)), (1, .int a1)]) hx hb dX4_hopsToLoop_36 rfl hl (by decide) rfl (fun ls hl => ?_)
      refine lv_iconst (v := 1) hx hb dX4_hopsToLoop_37 (by decide) ?_
      refine lv_istore_n (lv' := [(3, .int 1), (2, .int x3), (0, .ref (u 19)), (1, .int a1)]) hx hb dX4_hopsToLoop_38 rfl hl (by decide) rfl (fun ls hl => ?_)
      have lp39 : ∀ (K : FS → Int32 → Int32 → Prop), (∀ (τ0 : FS) (l3_0 : Int32) (l2_0 : Int32) (H : Heap) (locs : List Loc) (ls : Array Slot), K τ0 l3_0 l2_0 → lv_has ls 4 [(3, .int l3_0), (2, .int l2_0), (0, .ref (u 19)), (1, .int a1)] → va_P D vwCl (cW o u cI cZ cJ T τ0) H → va_D A (cW o u cI cZ cJ T τ0) → va_S A s.heap H locs → W p l e ({ frames := 1, cells := 0, slots := 0, locals := 23 }) s m args below meth c H locs 0 0 (MQ below (yQi Φ D (cW o u cI cZ cJ T) A) args s 0 0 A) (F0 m 90 ls [])) → ∀ (n0 : Nat) (τ0 : FS) (l3_0 : Int32) (l2_0 : Int32) (H : Heap) (locs : List Loc) (ls : Array Slot), wp_X4_hopsToLoop_39 a1 Φ K n0 τ0 l3_0 l2_0 → lv_has ls 4 [(3, .int l3_0), (2, .int l2_0), (0, .ref (u 19)), (1, .int a1)] → va_P D vwCl (cW o u cI cZ cJ T τ0) H → va_D A (cW o u cI cZ cJ T τ0) → va_S A s.heap H locs → W p l e ({ frames := 1, cells := 0, slots := 0, locals := 23 }) s m args below meth c H locs 0 0 (MQ below (yQi Φ D (cW o u cI cZ cJ T) A) args s 0 0 A) (F0 m 39 ls []) := by
        intro K hk n0
        induction n0 with
        | zero => intro τ0 l3_0 l2_0 H locs ls hok; exact False.elim hok
        | succ n0 ih39 =>
          intro τ0 l3_0 l2_0 H locs ls hok hl hP hD hS
          refine lv_iload_n hx hb dX4_hopsToLoop_39 rfl (lv_at hl 0 rfl) ?_
          refine lv_bipush (v := 10) hx hb dX4_hopsToLoop_40 (by decide) ?_
          refine lv_icmp_ge (tgt := 90) hx hb dX4_hopsToLoop_42 (by decide) (fun c_42 => ?_) (fun c_42 => ?_)
          · have hok := hok.1 c_42
            exact hk τ0 l3_0 l2_0 H locs ls hok (lv_sub hl [0, 1, 2, 3] rfl) hP hD hS
          · have hok := hok.2 c_42
            refine lv_iload_n hx hb dX4_hopsToLoop_45 rfl (lv_at hl 1 rfl) ?_
            refine lv_iconst (v := (-1)) hx hb dX4_hopsToLoop_46 (by decide) ?_
            refine lv_icmp_eq (tgt := 90) hx hb dX4_hopsToLoop_47 (by decide) (fun c_47 => ?_) (fun c_47 => ?_)
            · have hok := hok.1 c_47
              exact hk τ0 l3_0 l2_0 H locs ls hok (lv_sub hl [0, 1, 2, 3] rfl) hP hD hS
            · have hok := hok.2 c_47
              refine lv_aload_n hx hb dX4_hopsToLoop_50 rfl (lv_at hl 2 rfl) ?_
              refine xg (ci := 4) S inX4 rfl hK hP cW_20 12 (by decide) rfl kw_4_119 rfl dX4_hopsToLoop_51 ?_
              refine lv_iload_n hx hb dX4_hopsToLoop_54 rfl (lv_at hl 1 rfl) ?_
              have h_55 := hok.1
              have hok := hok.2
              refine xiald (t0 := 0) (v := (g τ0 31 l2_0)) S hK hP cW_31 rfl h_55 rfl dX4_hopsToLoop_55 ?_
              refine lv_aload_n hx hb dX4_hopsToLoop_56 rfl (lv_at hl 2 rfl) ?_
              refine xg (ci := 4) S inX4 rfl hK hP cW_20 1 (by decide) rfl kw_4_88 rfl dX4_hopsToLoop_57 ?_
              refine xg (ci := 5) S inX5 rfl hK hP cW_13 2 (by decide) rfl kw_4_47 rfl dX4_hopsToLoop_60 ?_
              refine lv_iload_n hx hb dX4_hopsToLoop_63 rfl (lv_at hl 3 rfl) ?_
              have h_64 := hok.1
              have hok := hok.2
              refine xiald (t0 := 0) (v := (g τ0 15 a1)) S hK hP cW_15 rfl h_64 rfl dX4_hopsToLoop_64 ?_
              refine xishr (v := (g τ0 31 l2_0) >>> ((g τ0 15 a1) &&& 31)) S dX4_hopsToLoop_65 rfl ?_
              refine lv_iconst (v := 1) hx hb dX4_hopsToLoop_66 (by decide) ?_
              refine xiand (v := ((g τ0 31 l2_0) >>> ((g τ0 15 a1) &&& 31)) &&& 1) S dX4_hopsToLoop_67 rfl ?_
              refine lv_topi (fun x4 ex4 => ?_)
              have hok := hok x4 ex4
              refine lv_iconst (v := 1) hx hb dX4_hopsToLoop_68 (by decide) ?_
              refine lv_icmp_ne (tgt := 74) hx hb dX4_hopsToLoop_69 (by decide) (fun c_69 => ?_) (fun c_69 => ?_)
              · have hok := hok.2 c_69
                refine lv_aload_n hx hb dX4_hopsToLoop_74 rfl (lv_at hl 2 rfl) ?_
                refine xg (ci := 4) S inX4 rfl hK hP cW_20 0 (by decide) rfl kw_4_87 rfl dX4_hopsToLoop_75 ?_
                refine xg (ci := 1) S inX1 rfl hK hP cW_1 1 (by decide) rfl kw_3_219 rfl dX4_hopsToLoop_78 ?_
                refine lv_iload_n hx hb dX4_hopsToLoop_81 rfl (lv_at hl 1 rfl) ?_
                have h_82 := hok.1
                have hok := hok.2
                refine xiald (t0 := 0) (v := (g τ0 2 l2_0)) S hK hP cW_2 rfl h_82 rfl dX4_hopsToLoop_82 ?_
                refine lv_topi (fun x5 ex5 => ?_)
                have hok := hok x5 ex5
                refine lv_istore_n (lv' := [(2, .int x5), (3, .int l3_0), (0, .ref (u 19)), (1, .int a1)]) hx hb dX4_hopsToLoop_83 rfl hl (by decide) rfl (fun ls hl => ?_)
                refine lv_iinc (v := l3_0 + 1) (lv' := [(3, .int (l3_0 + 1)), (2, .int x5), (0, .ref (u 19)), (1, .int a1)]) hx hb dX4_hopsToLoop_84 hl (k := 1) rfl rfl (by decide) rfl (fun ls hl => ?_)
                refine lv_goto (tgt := 39) hx hb dX4_hopsToLoop_87 (by decide) ?_
                exact ih39 τ0 (l3_0 + 1) x5 H locs ls hok (lv_sub hl [0, 1, 2, 3] rfl) hP hD hS
              · have hok := hok.1 c_69
                refine lv_iload_n hx hb dX4_hopsToLoop_72 rfl (lv_at hl 0 rfl) ?_
                exact yEnd S hr hlocks hP hD hS (Nat.le_of_ble_eq_true rfl) (Nat.le_of_ble_eq_true rfl) dX4_hopsToLoop_73 hok
      refine lp39 _ ?_ FUEL σ1 1 x3 _ _ _ hok (lv_sub hl [0, 1, 2, 3] rfl) hP hD hS
      intro σ6 x7 x8 H locs ls hok hl hP hD hS
      refine lv_iconst (v := (-1)) hx hb dX4_hopsToLoop_90 (by decide) ?_
      exact yEnd S hr hlocks hP hD hS (Nat.le_of_ble_eq_true rfl) (Nat.le_of_ble_eq_true rfl) dX4_hopsToLoop_91 hok
    · have hok := hok.2 c_17
      refine lv_iconst (v := 0) hx hb dX4_hopsToLoop_20 (by decide) ?_
      exact yEnd S hr hlocks hP hD hS (Nat.le_of_ble_eq_true rfl) (Nat.le_of_ble_eq_true rfl) dX4_hopsToLoop_21 hok
  · have hok := hok.1 c_7
    refine lv_iconst (v := (-1)) hx hb dX4_hopsToLoop_10 (by decide) ?_
    exact yEnd S hr hlocks hP hD hS (Nat.le_of_ble_eq_true rfl) (Nat.le_of_ble_eq_true rfl) dX4_hopsToLoop_11 hok

set_option maxHeartbeats 8000000 in
set_option maxRecDepth 100000 in
theorem v_X4_findModes (l : Launch) (D : va_G) (cI cZ cJ : ClassId) (o : Nat) (u : Nat → Nat) (T : Nat) (ra : Nat → Nat) (ga : SG) (σ : FS) (Φ : FS → Prop) (sz : Nat) (hok : (wp_X4_findModes σ Φ)) : Met l yX4_findModes (uW yX4_findModes cX4_findModes 5 none) ({ frames := 0, cells := 0, slots := 0, locals := 0 }) (va_Pc [.ref (u 19)] (aS ra ga D (tyL cI cZ cJ) (cW o u cI cZ cJ T σ) sz)) (yQv Φ D (cW o u cI cZ cJ T) (va_A (cW o u cI cZ cJ T σ) sz)) 0 0 (va_A (cW o u cI cZ cJ T σ) sz) := by
  refine aStart (lv := [(0, .ref (u 19))]) (Qc := fun A => yQv Φ D (cW o u cI cZ cJ T) A) (by decide) (Nat.le_of_ble_eq_true rfl) rfl ?_
  intro p e s m args below meth c ls A H S hr hlocks hnm hl hK hP hD hS hA hB
  have hx := S.1
  have hb := S.2.1
  refine lv_iconst (v := 0) hx hb dX4_findModes_0 (by decide) ?_
  refine lv_istore_n (lv' := [(1, .int 0), (0, .ref (u 19))]) hx hb dX4_findModes_1 rfl hl (by decide) rfl (fun ls hl => ?_)
  have lp2 : ∀ (K : FS → Int32 → Prop), (∀ (τ0 : FS) (l1_0 : Int32) (H : Heap) (locs : List Loc) (ls : Array Slot), K τ0 l1_0 → lv_has ls 5 [(1, .int l1_0), (0, .ref (u 19))] → va_P D vwCl (cW o u cI cZ cJ T τ0) H → va_D A (cW o u cI cZ cJ T τ0) → va_S A s.heap H locs → W p l e ({ frames := 0, cells := 0, slots := 0, locals := 0 }) s m args below meth c H locs 0 0 (MQ below (yQv Φ D (cW o u cI cZ cJ T) A) args s 0 0 A) (F0 m 128 ls [])) → ∀ (n0 : Nat) (τ0 : FS) (l1_0 : Int32) (H : Heap) (locs : List Loc) (ls : Array Slot), wp_X4_findModes_2 Φ K n0 τ0 l1_0 → lv_has ls 5 [(1, .int l1_0), (0, .ref (u 19))] → va_P D vwCl (cW o u cI cZ cJ T τ0) H → va_D A (cW o u cI cZ cJ T τ0) → va_S A s.heap H locs → W p l e ({ frames := 0, cells := 0, slots := 0, locals := 0 }) s m args below meth c H locs 0 0 (MQ below (yQv Φ D (cW o u cI cZ cJ T) A) args s 0 0 A) (F0 m 2 ls []) := by
    intro K hk n0
    induction n0 with
    | zero => intro τ0 l1_0 H locs ls hok; exact False.elim hok
    | succ n0 ih2 =>
      intro τ0 l1_0 H locs ls hok hl hP hD hS
      refine lv_iload_n hx hb dX4_findModes_2 rfl (lv_at hl 0 rfl) ?_
      refine lv_aload_n hx hb dX4_findModes_3 rfl (lv_at hl 1 rfl) ?_
      refine xg (ci := 4) S inX4 rfl hK hP cW_20 1 (by decide) rfl kw_4_88 rfl dX4_findModes_4 ?_
      refine xg (ci := 5) S inX5 rfl hK hP cW_13 0 (by decide) rfl kw_4_38 rfl dX4_findModes_7 ?_
      refine lv_icmp_ge (tgt := 128) hx hb dX4_findModes_10 (by decide) (fun c_10 => ?_) (fun c_10 => ?_)
      · have hok := hok.1 c_10
        exact hk τ0 l1_0 H locs ls hok (lv_sub hl [0, 1] rfl) hP hD hS
      · have hok := hok.2 c_10
        refine lv_aload_n hx hb dX4_findModes_13 rfl (lv_at hl 1 rfl) ?_
        refine xg (ci := 4) S inX4 rfl hK hP cW_20 1 (by decide) rfl kw_4_88 rfl dX4_findModes_14 ?_
        refine xg (ci := 5) S inX5 rfl hK hP cW_13 1 (by decide) rfl kw_4_42 rfl dX4_findModes_17 ?_
        refine lv_iload_n hx hb dX4_findModes_20 rfl (lv_at hl 0 rfl) ?_
        have h_21 := hok.1
        have hok := hok.2
        refine xiald (t0 := 0) (v := (g τ0 14 l1_0)) S hK hP cW_14 rfl h_21 rfl dX4_findModes_21 ?_
        refine lv_bipush (v := 8) hx hb dX4_findModes_22 (by decide) ?_
        refine lv_icmp_ne (tgt := 122) hx hb dX4_findModes_24 (by decide) (fun c_24 => ?_) (fun c_24 => ?_)
        · have hok := hok.2 c_24
          refine lv_iinc (v := l1_0 + 1) (lv' := [(1, .int (l1_0 + 1)), (0, .ref (u 19))]) hx hb dX4_findModes_122 hl (k := 0) rfl rfl (by decide) rfl (fun ls hl => ?_)
          refine lv_goto (tgt := 2) hx hb dX4_findModes_125 (by decide) ?_
          exact ih2 τ0 (l1_0 + 1) H locs ls hok (lv_sub hl [0, 1] rfl) hP hD hS
        · have hok := hok.1 c_24
          refine lv_aload_n hx hb dX4_findModes_27 rfl (lv_at hl 1 rfl) ?_
          refine xg (ci := 4) S inX4 rfl hK hP cW_20 5 (by decide) rfl kw_4_97 rfl dX4_findModes_28 ?_
          refine lv_iload_n hx hb dX4_findModes_31 rfl (lv_at hl 0 rfl) ?_
          have h_32 := hok.1
          have hok := hok.2
          refine xiald (t0 := 0) (v := (g τ0 24 l1_0)) S hK hP cW_24 rfl h_32 rfl dX4_findModes_32 ?_
          refine lv_bipush (v := 10) hx hb dX4_findModes_33 (by decide) ?_
          refine lv_icmp_eq (tgt := 41) hx hb dX4_findModes_35 (by decide) (fun c_35 => ?_) (fun c_35 => ?_)
          · have hok := hok.1 c_35
            refine lv_aload_n hx hb dX4_findModes_41 rfl (lv_at hl 1 rfl) ?_
            refine xg (ci := 4) S inX4 rfl hK hP cW_20 1 (by decide) rfl kw_4_88 rfl dX4_findModes_42 ?_
            refine xg (ci := 5) S inX5 rfl hK hP cW_13 3 (by decide) rfl kw_4_51 rfl dX4_findModes_45 ?_
            refine lv_iload_n hx hb dX4_findModes_48 rfl (lv_at hl 0 rfl) ?_
            have h_49 := hok.1
            have hok := hok.2
            refine xiald (t0 := 0) (v := (g τ0 16 l1_0)) S hK hP cW_16 rfl h_49 rfl dX4_findModes_49 ?_
            refine lv_topi (fun x1 ex1 => ?_)
            have hok := hok x1 ex1
            refine lv_istore_n (lv' := [(2, .int x1), (1, .int l1_0), (0, .ref (u 19))]) hx hb dX4_findModes_50 rfl hl (by decide) rfl (fun ls hl => ?_)
            refine lv_aload_n hx hb dX4_findModes_51 rfl (lv_at hl 2 rfl) ?_
            refine xg (ci := 4) S inX4 rfl hK hP cW_20 0 (by decide) rfl kw_4_87 rfl dX4_findModes_52 ?_
            refine xg (ci := 1) S inX1 rfl hK hP cW_1 3 (by decide) rfl kw_3_225 rfl dX4_findModes_55 ?_
            refine lv_aload_n hx hb dX4_findModes_58 rfl (lv_at hl 2 rfl) ?_
            refine xg (ci := 4) S inX4 rfl hK hP cW_20 6 (by decide) rfl kw_4_101 rfl dX4_findModes_59 ?_
            refine lv_iload_n hx hb dX4_findModes_62 rfl (lv_at hl 1 rfl) ?_
            have h_63 := hok.1
            have hok := hok.2
            refine xiald (t0 := 0) (v := (g τ0 25 l1_0)) S hK hP cW_25 rfl h_63 rfl dX4_findModes_63 ?_
            have h_64 := hok.1
            have hok := hok.2
            refine xiald (t0 := 0) (v := (g τ0 4 (g τ0 25 l1_0))) S hK hP cW_4 rfl h_64 rfl dX4_findModes_64 ?_
            refine lv_topi (fun x2 ex2 => ?_)
            have hok := hok x2 ex2
            refine lv_istore_n (lv' := [(3, .int x2), (2, .int x1), (1, .int l1_0), (0, .ref (u 19))]) hx hb dX4_findModes_65 rfl hl (by decide) rfl (fun ls hl => ?_)
            refine lv_iconst (v := 0) hx hb dX4_findModes_66 (by decide) ?_
            refine lv_istore (lv' := [(4, .int 0), (3, .int x2), (2, .int x1), (1, .int l1_0), (0, .ref (u 19))]) hx hb dX4_findModes_67 hl (by decide) rfl (fun ls hl => ?_)
            have lp69 : ∀ (K : FS → Int32 → Int32 → Prop), (∀ (τ1 : FS) (l4_1 : Int32) (l2_1 : Int32) (H : Heap) (locs : List Loc) (ls : Array Slot), K τ1 l4_1 l2_1 → lv_has ls 5 [(4, .int l4_1), (3, .int x2), (2, .int l2_1), (1, .int l1_0), (0, .ref (u 19))] → va_P D vwCl (cW o u cI cZ cJ T τ1) H → va_D A (cW o u cI cZ cJ T τ1) → va_S A s.heap H locs → W p l e ({ frames := 0, cells := 0, slots := 0, locals := 0 }) s m args below meth c H locs 0 0 (MQ below (yQv Φ D (cW o u cI cZ cJ T) A) args s 0 0 A) (F0 m 122 ls [])) → ∀ (n1 : Nat) (τ1 : FS) (l4_1 : Int32) (l2_1 : Int32) (H : Heap) (locs : List Loc) (ls : Array Slot), wp_X4_findModes_69 l1_0 x2 Φ K n1 τ1 l4_1 l2_1 → lv_has ls 5 [(4, .int l4_1), (3, .int x2), (2, .int l2_1), (1, .int l1_0), (0, .ref (u 19))] → va_P D vwCl (cW o u cI cZ cJ T τ1) H → va_D A (cW o u cI cZ cJ T τ1) → va_S A s.heap H locs → W p l e ({ frames := 0, cells := 0, slots := 0, locals := 0 }) s m args below meth c H locs 0 0 (MQ below (yQv Φ D (cW o u cI cZ cJ T) A) args s 0 0 A) (F0 m 69 ls []) := by
              intro K hk n1
              induction n1 with
              | zero => intro τ1 l4_1 l2_1 H locs ls hok; exact False.elim hok
              | succ n1 ih69 =>
                intro τ1 l4_1 l2_1 H locs ls hok hl hP hD hS
                refine lv_iload hx hb dX4_findModes_69 (lv_at hl 0 rfl) ?_
                refine lv_iload_n hx hb dX4_findModes_71 rfl (lv_at hl 1 rfl) ?_
                refine lv_icmp_ge (tgt := 122) hx hb dX4_findModes_72 (by decide) (fun c_72 => ?_) (fun c_72 => ?_)
                · have hok := hok.1 c_72
                  exact hk τ1 l4_1 l2_1 H locs ls hok (lv_sub hl [0, 1, 2, 3, 4] rfl) hP hD hS
                · have hok := hok.2 c_72
                  refine lv_iload_n hx hb dX4_findModes_75 rfl (lv_at hl 2 rfl) ?_
                  refine lv_iconst (v := (-1)) hx hb dX4_findModes_76 (by decide) ?_
                  refine lv_icmp_eq (tgt := 122) hx hb dX4_findModes_77 (by decide) (fun c_77 => ?_) (fun c_77 => ?_)
                  · have hok := hok.1 c_77
                    exact hk τ1 l4_1 l2_1 H locs ls hok (lv_sub hl [0, 1, 2, 3, 4] rfl) hP hD hS
                  · have hok := hok.2 c_77
                    refine lv_aload_n hx hb dX4_findModes_80 rfl (lv_at hl 4 rfl) ?_
                    refine xg (ci := 4) S inX4 rfl hK hP cW_20 10 (by decide) rfl kw_4_113 rfl dX4_findModes_81 ?_
                    refine lv_iload_n hx hb dX4_findModes_84 rfl (lv_at hl 2 rfl) ?_
                    refine lv_aload_n hx hb dX4_findModes_85 rfl (lv_at hl 4 rfl) ?_
                    refine xg (ci := 4) S inX4 rfl hK hP cW_20 0 (by decide) rfl kw_4_87 rfl dX4_findModes_86 ?_
                    refine xg (ci := 1) S inX1 rfl hK hP cW_1 10 (by decide) rfl kw_4_2 rfl dX4_findModes_89 ?_
                    refine lv_aload_n hx hb dX4_findModes_92 rfl (lv_at hl 4 rfl) ?_
                    refine xg (ci := 4) S inX4 rfl hK hP cW_20 6 (by decide) rfl kw_4_101 rfl dX4_findModes_93 ?_
                    refine lv_iload_n hx hb dX4_findModes_96 rfl (lv_at hl 3 rfl) ?_
                    have h_97 := hok.1
                    have hok := hok.2
                    refine xiald (t0 := 0) (v := (g τ1 25 l1_0)) S hK hP cW_25 rfl h_97 rfl dX4_findModes_97 ?_
                    refine lv_bipush (v := 10) hx hb dX4_findModes_98 (by decide) ?_
                    refine ximul (v := (g τ1 25 l1_0) * 10) S dX4_findModes_100 rfl ?_
                    refine lv_iload hx hb dX4_findModes_101 (lv_at hl 0 rfl) ?_
                    refine xiadd (v := ((g τ1 25 l1_0) * 10) + l4_1) S dX4_findModes_103 rfl ?_
                    have h_104 := hok.1
                    have hok := hok.2
                    refine xiald (t0 := 0) (v := (g τ1 11 (((g τ1 25 l1_0) * 10) + l4_1))) S hK hP cW_11 rfl h_104 rfl dX4_findModes_104 ?_
                    have h_105 := hok.1
                    have hok := hok.2
                    refine yiast (t0 := 0) (cw := (cW o u cI cZ cJ T)) S hK hP hD hS cW_29 rfl h_105 dX4_findModes_105 cWa_29 (fun σ3 H locs eσ3 hP hD hS => ?_)
                    have hok := hok σ3 eσ3
                    refine lv_aload_n hx hb dX4_findModes_106 rfl (lv_at hl 4 rfl) ?_
                    refine xg (ci := 4) S inX4 rfl hK hP cW_20 1 (by decide) rfl kw_4_88 rfl dX4_findModes_107 ?_
                    refine xg (ci := 5) S inX5 rfl hK hP cW_13 4 (by decide) rfl kw_4_56 rfl dX4_findModes_110 ?_
                    refine lv_iload_n hx hb dX4_findModes_113 rfl (lv_at hl 2 rfl) ?_
                    have h_114 := hok.1
                    have hok := hok.2
                    refine xiald (t0 := 0) (v := (g σ3 17 l2_1)) S hK hP cW_17 rfl h_114 rfl dX4_findModes_114 ?_
                    refine lv_topi (fun x4 ex4 => ?_)
                    have hok := hok x4 ex4
                    refine lv_istore_n (lv' := [(2, .int x4), (4, .int l4_1), (3, .int x2), (1, .int l1_0), (0, .ref (u 19))]) hx hb dX4_findModes_115 rfl hl (by decide) rfl (fun ls hl => ?_)
                    refine lv_iinc (v := l4_1 + 1) (lv' := [(4, .int (l4_1 + 1)), (2, .int x4), (3, .int x2), (1, .int l1_0), (0, .ref (u 19))]) hx hb dX4_findModes_116 hl (k := 1) rfl rfl (by decide) rfl (fun ls hl => ?_)
                    refine lv_goto (tgt := 69) hx hb dX4_findModes_119 (by decide) ?_
                    exact ih69 σ3 (l4_1 + 1) x4 H locs ls hok (lv_sub hl [0, 2, 1, 3, 4] rfl) hP hD hS
            refine lp69 _ ?_ FUEL τ0 0 x1 _ _ _ hok (lv_sub hl [0, 1, 2, 3, 4] rfl) hP hD hS
            intro σ5 x6 x7 H locs ls hok hl hP hD hS
            refine lv_iinc (v := l1_0 + 1) (lv' := [(1, .int (l1_0 + 1)), (4, .int x6), (3, .int x2), (2, .int x7), (0, .ref (u 19))]) hx hb dX4_findModes_122 hl (k := 3) rfl rfl (by decide) rfl (fun ls hl => ?_)
            refine lv_goto (tgt := 2) hx hb dX4_findModes_125 (by decide) ?_
            exact ih2 σ5 (l1_0 + 1) H locs ls hok (lv_sub hl [0, 4] rfl) hP hD hS
          · have hok := hok.2 c_35
            refine lv_goto (tgt := 122) hx hb dX4_findModes_38 (by decide) ?_
            refine lv_iinc (v := l1_0 + 1) (lv' := [(1, .int (l1_0 + 1)), (0, .ref (u 19))]) hx hb dX4_findModes_122 hl (k := 0) rfl rfl (by decide) rfl (fun ls hl => ?_)
            refine lv_goto (tgt := 2) hx hb dX4_findModes_125 (by decide) ?_
            exact ih2 τ0 (l1_0 + 1) H locs ls hok (lv_sub hl [0, 1] rfl) hP hD hS
  refine lp2 _ ?_ FUEL σ 0 _ _ _ hok (lv_sub hl [0, 1] rfl) hP hD hS
  intro σ8 x9 H locs ls hok hl hP hD hS
  exact yEndv S hr hlocks hP hD hS (Nat.le_of_ble_eq_true rfl) (Nat.le_of_ble_eq_true rfl) dX4_findModes_128 hok

set_option maxHeartbeats 8000000 in
set_option maxRecDepth 100000 in
theorem v_J6_bitCount_0f7a4 (l : Launch) (D : va_G) (cI cZ cJ : ClassId) (o : Nat) (u : Nat → Nat) (T : Nat) (ra : Nat → Nat) (ga : SG) (σ : FS) (a1 : Int32) (Φ : Int32 → FS → Prop) (sz : Nat) (hok : (wp_J6_bitCount_0f7a4 σ a1 Φ)) : Met l yJ6_bitCount_0f7a4 (uW yJ6_bitCount_0f7a4 cJ6_bitCount_0f7a4 1 (some .int)) ({ frames := 0, cells := 0, slots := 0, locals := 0 }) (va_Pc [.int a1] (aS ra ga D (tyL cI cZ cJ) (cW o u cI cZ cJ T σ) sz)) (yQi Φ D (cW o u cI cZ cJ T) (va_A (cW o u cI cZ cJ T σ) sz)) 0 0 (va_A (cW o u cI cZ cJ T σ) sz) := by
  refine aStart (lv := [(0, .int a1)]) (Qc := fun A => yQi Φ D (cW o u cI cZ cJ T) A) (by decide) (Nat.le_of_ble_eq_true rfl) rfl ?_
  intro p e s m args below meth c ls A H S hr hlocks hnm hl hK hP hD hS hA hB
  have hx := S.1
  have hb := S.2.1
  refine lv_iload_n hx hb dJ6_bitCount_0f7a4_0 rfl (lv_at hl 0 rfl) ?_
  refine lv_iload_n hx hb dJ6_bitCount_0f7a4_1 rfl (lv_at hl 0 rfl) ?_
  refine lv_iconst (v := 1) hx hb dJ6_bitCount_0f7a4_2 (by decide) ?_
  refine xiushr (v := ((a1 : Int32).toUInt32 >>> ((1 : Int32).toUInt32 &&& Int32.toUInt32 31)).toInt32) S dJ6_bitCount_0f7a4_3 rfl ?_
  refine lv_topi (fun x1 ex1 => ?_)
  have hok := hok x1 ex1
  refine lv_ldcw hx hb S.2.2.2.1 (S.2.2.2.2 _ kw_1_226) dJ6_bitCount_0f7a4_4 ?_
  refine xiand (v := x1 &&& 1431655765) S dJ6_bitCount_0f7a4_7 rfl ?_
  refine xisub (v := a1 - (x1 &&& 1431655765)) S dJ6_bitCount_0f7a4_8 rfl ?_
  refine lv_topi (fun x2 ex2 => ?_)
  have hok := hok x2 ex2
  refine lv_istore_n (lv' := [(0, .int x2)]) hx hb dJ6_bitCount_0f7a4_9 rfl hl (by decide) rfl (fun ls hl => ?_)
  refine lv_iload_n hx hb dJ6_bitCount_0f7a4_10 rfl (lv_at hl 0 rfl) ?_
  refine lv_ldcw hx hb S.2.2.2.1 (S.2.2.2.2 _ kw_1_227) dJ6_bitCount_0f7a4_11 ?_
  refine xiand (v := x2 &&& 858993459) S dJ6_bitCount_0f7a4_14 rfl ?_
  refine lv_iload_n hx hb dJ6_bitCount_0f7a4_15 rfl (lv_at hl 0 rfl) ?_
  refine lv_iconst (v := 2) hx hb dJ6_bitCount_0f7a4_16 (by decide) ?_
  refine xiushr (v := ((x2 : Int32).toUInt32 >>> ((2 : Int32).toUInt32 &&& Int32.toUInt32 31)).toInt32) S dJ6_bitCount_0f7a4_17 rfl ?_
  refine lv_topi (fun x3 ex3 => ?_)
  have hok := hok x3 ex3
  refine lv_ldcw hx hb S.2.2.2.1 (S.2.2.2.2 _ kw_1_227) dJ6_bitCount_0f7a4_18 ?_
  refine xiand (v := x3 &&& 858993459) S dJ6_bitCount_0f7a4_21 rfl ?_
  refine xiadd (v := (x2 &&& 858993459) + (x3 &&& 858993459)) S dJ6_bitCount_0f7a4_22 rfl ?_
  refine lv_topi (fun x4 ex4 => ?_)
  have hok := hok x4 ex4
  refine lv_istore_n (lv' := [(0, .int x4)]) hx hb dJ6_bitCount_0f7a4_23 rfl hl (by decide) rfl (fun ls hl => ?_)
  refine lv_iload_n hx hb dJ6_bitCount_0f7a4_24 rfl (lv_at hl 0 rfl) ?_
  refine lv_iload_n hx hb dJ6_bitCount_0f7a4_25 rfl (lv_at hl 0 rfl) ?_
  refine lv_iconst (v := 4) hx hb dJ6_bitCount_0f7a4_26 (by decide) ?_
  refine xiushr (v := ((x4 : Int32).toUInt32 >>> ((4 : Int32).toUInt32 &&& Int32.toUInt32 31)).toInt32) S dJ6_bitCount_0f7a4_27 rfl ?_
  refine lv_topi (fun x5 ex5 => ?_)
  have hok := hok x5 ex5
  refine xiadd (v := x4 + x5) S dJ6_bitCount_0f7a4_28 rfl ?_
  refine lv_ldcw hx hb S.2.2.2.1 (S.2.2.2.2 _ kw_1_228) dJ6_bitCount_0f7a4_29 ?_
  refine xiand (v := (x4 + x5) &&& 252645135) S dJ6_bitCount_0f7a4_32 rfl ?_
  refine lv_topi (fun x6 ex6 => ?_)
  have hok := hok x6 ex6
  refine lv_istore_n (lv' := [(0, .int x6)]) hx hb dJ6_bitCount_0f7a4_33 rfl hl (by decide) rfl (fun ls hl => ?_)
  refine lv_iload_n hx hb dJ6_bitCount_0f7a4_34 rfl (lv_at hl 0 rfl) ?_
  refine lv_iload_n hx hb dJ6_bitCount_0f7a4_35 rfl (lv_at hl 0 rfl) ?_
  refine lv_bipush (v := 8) hx hb dJ6_bitCount_0f7a4_36 (by decide) ?_
  refine xiushr (v := ((x6 : Int32).toUInt32 >>> ((8 : Int32).toUInt32 &&& Int32.toUInt32 31)).toInt32) S dJ6_bitCount_0f7a4_38 rfl ?_
  refine lv_topi (fun x7 ex7 => ?_)
  have hok := hok x7 ex7
  refine xiadd (v := x6 + x7) S dJ6_bitCount_0f7a4_39 rfl ?_
  refine lv_topi (fun x8 ex8 => ?_)
  have hok := hok x8 ex8
  refine lv_istore_n (lv' := [(0, .int x8)]) hx hb dJ6_bitCount_0f7a4_40 rfl hl (by decide) rfl (fun ls hl => ?_)
  refine lv_iload_n hx hb dJ6_bitCount_0f7a4_41 rfl (lv_at hl 0 rfl) ?_
  refine lv_iload_n hx hb dJ6_bitCount_0f7a4_42 rfl (lv_at hl 0 rfl) ?_
  refine lv_bipush (v := 16) hx hb dJ6_bitCount_0f7a4_43 (by decide) ?_
  refine xiushr (v := ((x8 : Int32).toUInt32 >>> ((16 : Int32).toUInt32 &&& Int32.toUInt32 31)).toInt32) S dJ6_bitCount_0f7a4_45 rfl ?_
  refine lv_topi (fun x9 ex9 => ?_)
  have hok := hok x9 ex9
  refine xiadd (v := x8 + x9) S dJ6_bitCount_0f7a4_46 rfl ?_
  refine lv_topi (fun x10 ex10 => ?_)
  have hok := hok x10 ex10
  refine lv_istore_n (lv' := [(0, .int x10)]) hx hb dJ6_bitCount_0f7a4_47 rfl hl (by decide) rfl (fun ls hl => ?_)
  refine lv_iload_n hx hb dJ6_bitCount_0f7a4_48 rfl (lv_at hl 0 rfl) ?_
  refine lv_bipush (v := 63) hx hb dJ6_bitCount_0f7a4_49 (by decide) ?_
  refine xiand (v := x10 &&& 63) S dJ6_bitCount_0f7a4_51 rfl ?_
  exact yEnd S hr hlocks hP hD hS (Nat.le_of_ble_eq_true rfl) (Nat.le_of_ble_eq_true rfl) dJ6_bitCount_0f7a4_52 hok

set_option maxHeartbeats 8000000 in
set_option maxRecDepth 100000 in
theorem v_X4_sumUp (l : Launch) (D : va_G) (cI cZ cJ : ClassId) (o : Nat) (u : Nat → Nat) (T : Nat) (ra : Nat → Nat) (ga : SG) (σ : FS) (Φ : FS → Prop) (sz : Nat) (hok : (wp_X4_sumUp σ Φ)) : Met l yX4_sumUp (uW yX4_sumUp cX4_sumUp 2 none) ({ frames := 1, cells := 0, slots := 0, locals := 20 }) (va_Pc [.ref (u 19)] (aS ra ga D (tyL cI cZ cJ) (cW o u cI cZ cJ T σ) sz)) (yQv Φ D (cW o u cI cZ cJ T) (va_A (cW o u cI cZ cJ T σ) sz)) 0 0 (va_A (cW o u cI cZ cJ T σ) sz) := by
  refine aStart (lv := [(0, .ref (u 19))]) (Qc := fun A => yQv Φ D (cW o u cI cZ cJ T) A) (by decide) (Nat.le_of_ble_eq_true rfl) rfl ?_
  intro p e s m args below meth c ls A H S hr hlocks hnm hl hK hP hD hS hA hB
  have hx := S.1
  have hb := S.2.1
  refine lv_aload_n hx hb dX4_sumUp_0 rfl (lv_at hl 0 rfl) ?_
  refine lv_iconst (v := 0) hx hb dX4_sumUp_1 (by decide) ?_
  refine yp (ci := 4) (v := .int 0) (cw := (cW o u cI cZ cJ T)) S inX4 tyX4 tyX4_ok nmX4 rfl hK hP hD hS cW_20 15 (by decide) kw_4_125 rfl rfl rfl rfl (Nat.le_of_ble_eq_true rfl) dX4_sumUp_2 cWp_20_15 (fun σ1 H locs eσ1 hP hD hS => ?_)
  have hok := hok σ1 eσ1
  refine lv_aload_n hx hb dX4_sumUp_5 rfl (lv_at hl 0 rfl) ?_
  refine lv_iconst (v := 0) hx hb dX4_sumUp_6 (by decide) ?_
  refine yp (ci := 4) (v := .int 0) (cw := (cW o u cI cZ cJ T)) S inX4 tyX4 tyX4_ok nmX4 rfl hK hP hD hS cW_20 16 (by decide) kw_4_127 rfl rfl rfl rfl (Nat.le_of_ble_eq_true rfl) dX4_sumUp_7 cWp_20_16 (fun σ2 H locs eσ2 hP hD hS => ?_)
  have hok := hok σ2 eσ2
  refine lv_aload_n hx hb dX4_sumUp_10 rfl (lv_at hl 0 rfl) ?_
  refine lv_iconst (v := 0) hx hb dX4_sumUp_11 (by decide) ?_
  refine yp (ci := 4) (v := .int 0) (cw := (cW o u cI cZ cJ T)) S inX4 tyX4 tyX4_ok nmX4 rfl hK hP hD hS cW_20 17 (by decide) kw_4_129 rfl rfl rfl rfl (Nat.le_of_ble_eq_true rfl) dX4_sumUp_12 cWp_20_17 (fun σ3 H locs eσ3 hP hD hS => ?_)
  have hok := hok σ3 eσ3
  refine lv_aload_n hx hb dX4_sumUp_15 rfl (lv_at hl 0 rfl) ?_
  refine lv_iconst (v := 0) hx hb dX4_sumUp_16 (by decide) ?_
  refine yp (ci := 4) (v := .int 0) (cw := (cW o u cI cZ cJ T)) S inX4 tyX4 tyX4_ok nmX4 rfl hK hP hD hS cW_20 18 (by decide) kw_4_131 rfl rfl rfl rfl (Nat.le_of_ble_eq_true rfl) dX4_sumUp_17 cWp_20_18 (fun σ4 H locs eσ4 hP hD hS => ?_)
  have hok := hok σ4 eσ4
  refine lv_iconst (v := 0) hx hb dX4_sumUp_20 (by decide) ?_
  refine lv_istore_n (lv' := [(1, .int 0), (0, .ref (u 19))]) hx hb dX4_sumUp_21 rfl hl (by decide) rfl (fun ls hl => ?_)
  have lp22 : ∀ (K : FS → Int32 → Prop), (∀ (τ0 : FS) (l1_0 : Int32) (H : Heap) (locs : List Loc) (ls : Array Slot), K τ0 l1_0 → lv_has ls 2 [(1, .int l1_0), (0, .ref (u 19))] → va_P D vwCl (cW o u cI cZ cJ T τ0) H → va_D A (cW o u cI cZ cJ T τ0) → va_S A s.heap H locs → W p l e ({ frames := 1, cells := 0, slots := 0, locals := 20 }) s m args below meth c H locs 0 0 (MQ below (yQv Φ D (cW o u cI cZ cJ T) A) args s 0 0 A) (F0 m 108 ls [])) → ∀ (n0 : Nat) (τ0 : FS) (l1_0 : Int32) (H : Heap) (locs : List Loc) (ls : Array Slot), wp_X4_sumUp_22 Φ K n0 τ0 l1_0 → lv_has ls 2 [(1, .int l1_0), (0, .ref (u 19))] → va_P D vwCl (cW o u cI cZ cJ T τ0) H → va_D A (cW o u cI cZ cJ T τ0) → va_S A s.heap H locs → W p l e ({ frames := 1, cells := 0, slots := 0, locals := 20 }) s m args below meth c H locs 0 0 (MQ below (yQv Φ D (cW o u cI cZ cJ T) A) args s 0 0 A) (F0 m 22 ls []) := by
    intro K hk n0
    induction n0 with
    | zero => intro τ0 l1_0 H locs ls hok; exact False.elim hok
    | succ n0 ih22 =>
      intro τ0 l1_0 H locs ls hok hl hP hD hS
      refine lv_iload_n hx hb dX4_sumUp_22 rfl (lv_at hl 0 rfl) ?_
      refine lv_aload_n hx hb dX4_sumUp_23 rfl (lv_at hl 1 rfl) ?_
      refine xg (ci := 4) S inX4 rfl hK hP cW_20 1 (by decide) rfl kw_4_88 rfl dX4_sumUp_24 ?_
      refine xg (ci := 5) S inX5 rfl hK hP cW_13 0 (by decide) rfl kw_4_38 rfl dX4_sumUp_27 ?_
      refine lv_icmp_ge (tgt := 108) hx hb dX4_sumUp_30 (by decide) (fun c_30 => ?_) (fun c_30 => ?_)
      · have hok := hok.1 c_30
        exact hk τ0 l1_0 H locs ls hok (lv_sub hl [0, 1] rfl) hP hD hS
      · have hok := hok.2 c_30
        refine lv_aload_n hx hb dX4_sumUp_33 rfl (lv_at hl 1 rfl) ?_
        refine xg (ci := 4) S inX4 rfl hK hP cW_20 2 (by decide) rfl kw_4_89 rfl dX4_sumUp_34 ?_
        refine lv_iload_n hx hb dX4_sumUp_37 rfl (lv_at hl 0 rfl) ?_
        have h_38 := hok.1
        have hok := hok.2
        refine xiald (t0 := 0) (v := (g τ0 21 l1_0)) S hK hP cW_21 rfl h_38 rfl dX4_sumUp_38 ?_
        refine lv_iconst (v := (-1)) hx hb dX4_sumUp_39 (by decide) ?_
        refine lv_icmp_ne (tgt := 56) hx hb dX4_sumUp_40 (by decide) (fun c_40 => ?_) (fun c_40 => ?_)
        · have hok := hok.2 c_40
          refine lv_aload_n hx hb dX4_sumUp_56 rfl (lv_at hl 1 rfl) ?_
          refine lv_dup hx hb dX4_sumUp_57 rfl ?_
          refine xg (ci := 4) S inX4 rfl hK hP cW_20 16 (by decide) rfl kw_4_127 rfl dX4_sumUp_58 ?_
          refine lv_aload_n hx hb dX4_sumUp_61 rfl (lv_at hl 1 rfl) ?_
          refine xg (ci := 4) S inX4 rfl hK hP cW_20 7 (by decide) rfl kw_4_104 rfl dX4_sumUp_62 ?_
          refine lv_iload_n hx hb dX4_sumUp_65 rfl (lv_at hl 0 rfl) ?_
          have h_66 := hok.1
          have hok := hok.2
          refine xzald (t0 := 1) (v := (g τ0 26 l1_0)) S hK hP cW_26 rfl h_66 rfl dX4_sumUp_66 ?_
          refine lv_if_eq (tgt := 74) hx hb dX4_sumUp_67 (by decide) (fun c_67 => ?_) (fun c_67 => ?_)
          · have hok := hok.1 c_67
            refine lv_iconst (v := 0) hx hb dX4_sumUp_74 (by decide) ?_
            refine xiadd (v := (τ0.1 20 16) + 0) S dX4_sumUp_75 rfl ?_
            refine yp (ci := 4) (v := .int ((τ0.1 20 16) + 0)) (cw := (cW o u cI cZ cJ T)) S inX4 tyX4 tyX4_ok nmX4 rfl hK hP hD hS cW_20 16 (by decide) kw_4_127 rfl rfl rfl rfl (Nat.le_of_ble_eq_true rfl) dX4_sumUp_76 cWp_20_16 (fun σ5 H locs eσ5 hP hD hS => ?_)
            have hok := hok σ5 eσ5
            refine lv_aload_n hx hb dX4_sumUp_79 rfl (lv_at hl 1 rfl) ?_
            refine lv_dup hx hb dX4_sumUp_80 rfl ?_
            refine xg (ci := 4) S inX4 rfl hK hP cW_20 17 (by decide) rfl kw_4_129 rfl dX4_sumUp_81 ?_
            refine lv_aload_n hx hb dX4_sumUp_84 rfl (lv_at hl 1 rfl) ?_
            refine xg (ci := 4) S inX4 rfl hK hP cW_20 9 (by decide) rfl kw_4_109 rfl dX4_sumUp_85 ?_
            refine lv_iload_n hx hb dX4_sumUp_88 rfl (lv_at hl 0 rfl) ?_
            have h_89 := hok.1
            have hok := hok.2
            refine xzald (t0 := 1) (v := (g σ5 28 l1_0)) S hK hP cW_28 rfl h_89 rfl dX4_sumUp_89 ?_
            refine lv_if_eq (tgt := 97) hx hb dX4_sumUp_90 (by decide) (fun c_90 => ?_) (fun c_90 => ?_)
            · have hok := hok.1 c_90
              refine lv_iconst (v := 0) hx hb dX4_sumUp_97 (by decide) ?_
              refine xiadd (v := (σ5.1 20 17) + 0) S dX4_sumUp_98 rfl ?_
              refine yp (ci := 4) (v := .int ((σ5.1 20 17) + 0)) (cw := (cW o u cI cZ cJ T)) S inX4 tyX4 tyX4_ok nmX4 rfl hK hP hD hS cW_20 17 (by decide) kw_4_129 rfl rfl rfl rfl (Nat.le_of_ble_eq_true rfl) dX4_sumUp_99 cWp_20_17 (fun σ6 H locs eσ6 hP hD hS => ?_)
              have hok := hok σ6 eσ6
              refine lv_iinc (v := l1_0 + 1) (lv' := [(1, .int (l1_0 + 1)), (0, .ref (u 19))]) hx hb dX4_sumUp_102 hl (k := 0) rfl rfl (by decide) rfl (fun ls hl => ?_)
              refine lv_goto (tgt := 22) hx hb dX4_sumUp_105 (by decide) ?_
              exact ih22 σ6 (l1_0 + 1) H locs ls hok (lv_sub hl [0, 1] rfl) hP hD hS
            · have hok := hok.2 c_90
              refine lv_iconst (v := 1) hx hb dX4_sumUp_93 (by decide) ?_
              refine lv_goto (tgt := 98) hx hb dX4_sumUp_94 (by decide) ?_
              refine xiadd (v := (σ5.1 20 17) + 1) S dX4_sumUp_98 rfl ?_
              refine yp (ci := 4) (v := .int ((σ5.1 20 17) + 1)) (cw := (cW o u cI cZ cJ T)) S inX4 tyX4 tyX4_ok nmX4 rfl hK hP hD hS cW_20 17 (by decide) kw_4_129 rfl rfl rfl rfl (Nat.le_of_ble_eq_true rfl) dX4_sumUp_99 cWp_20_17 (fun σ7 H locs eσ7 hP hD hS => ?_)
              have hok := hok σ7 eσ7
              refine lv_iinc (v := l1_0 + 1) (lv' := [(1, .int (l1_0 + 1)), (0, .ref (u 19))]) hx hb dX4_sumUp_102 hl (k := 0) rfl rfl (by decide) rfl (fun ls hl => ?_)
              refine lv_goto (tgt := 22) hx hb dX4_sumUp_105 (by decide) ?_
              exact ih22 σ7 (l1_0 + 1) H locs ls hok (lv_sub hl [0, 1] rfl) hP hD hS
          · have hok := hok.2 c_67
            refine lv_iconst (v := 1) hx hb dX4_sumUp_70 (by decide) ?_
            refine lv_goto (tgt := 75) hx hb dX4_sumUp_71 (by decide) ?_
            refine xiadd (v := (τ0.1 20 16) + 1) S dX4_sumUp_75 rfl ?_
            refine yp (ci := 4) (v := .int ((τ0.1 20 16) + 1)) (cw := (cW o u cI cZ cJ T)) S inX4 tyX4 tyX4_ok nmX4 rfl hK hP hD hS cW_20 16 (by decide) kw_4_127 rfl rfl rfl rfl (Nat.le_of_ble_eq_true rfl) dX4_sumUp_76 cWp_20_16 (fun σ8 H locs eσ8 hP hD hS => ?_)
            have hok := hok σ8 eσ8
            refine lv_aload_n hx hb dX4_sumUp_79 rfl (lv_at hl 1 rfl) ?_
            refine lv_dup hx hb dX4_sumUp_80 rfl ?_
            refine xg (ci := 4) S inX4 rfl hK hP cW_20 17 (by decide) rfl kw_4_129 rfl dX4_sumUp_81 ?_
            refine lv_aload_n hx hb dX4_sumUp_84 rfl (lv_at hl 1 rfl) ?_
            refine xg (ci := 4) S inX4 rfl hK hP cW_20 9 (by decide) rfl kw_4_109 rfl dX4_sumUp_85 ?_
            refine lv_iload_n hx hb dX4_sumUp_88 rfl (lv_at hl 0 rfl) ?_
            have h_89 := hok.1
            have hok := hok.2
            refine xzald (t0 := 1) (v := (g σ8 28 l1_0)) S hK hP cW_28 rfl h_89 rfl dX4_sumUp_89 ?_
            refine lv_if_eq (tgt := 97) hx hb dX4_sumUp_90 (by decide) (fun c_90 => ?_) (fun c_90 => ?_)
            · have hok := hok.1 c_90
              refine lv_iconst (v := 0) hx hb dX4_sumUp_97 (by decide) ?_
              refine xiadd (v := (σ8.1 20 17) + 0) S dX4_sumUp_98 rfl ?_
              refine yp (ci := 4) (v := .int ((σ8.1 20 17) + 0)) (cw := (cW o u cI cZ cJ T)) S inX4 tyX4 tyX4_ok nmX4 rfl hK hP hD hS cW_20 17 (by decide) kw_4_129 rfl rfl rfl rfl (Nat.le_of_ble_eq_true rfl) dX4_sumUp_99 cWp_20_17 (fun σ9 H locs eσ9 hP hD hS => ?_)
              have hok := hok σ9 eσ9
              refine lv_iinc (v := l1_0 + 1) (lv' := [(1, .int (l1_0 + 1)), (0, .ref (u 19))]) hx hb dX4_sumUp_102 hl (k := 0) rfl rfl (by decide) rfl (fun ls hl => ?_)
              refine lv_goto (tgt := 22) hx hb dX4_sumUp_105 (by decide) ?_
              exact ih22 σ9 (l1_0 + 1) H locs ls hok (lv_sub hl [0, 1] rfl) hP hD hS
            · have hok := hok.2 c_90
              refine lv_iconst (v := 1) hx hb dX4_sumUp_93 (by decide) ?_
              refine lv_goto (tgt := 98) hx hb dX4_sumUp_94 (by decide) ?_
              refine xiadd (v := (σ8.1 20 17) + 1) S dX4_sumUp_98 rfl ?_
              refine yp (ci := 4) (v := .int ((σ8.1 20 17) + 1)) (cw := (cW o u cI cZ cJ T)) S inX4 tyX4 tyX4_ok nmX4 rfl hK hP hD hS cW_20 17 (by decide) kw_4_129 rfl rfl rfl rfl (Nat.le_of_ble_eq_true rfl) dX4_sumUp_99 cWp_20_17 (fun σ10 H locs eσ10 hP hD hS => ?_)
              have hok := hok σ10 eσ10
              refine lv_iinc (v := l1_0 + 1) (lv' := [(1, .int (l1_0 + 1)), (0, .ref (u 19))]) hx hb dX4_sumUp_102 hl (k := 0) rfl rfl (by decide) rfl (fun ls hl => ?_)
              refine lv_goto (tgt := 22) hx hb dX4_sumUp_105 (by decide) ?_
              exact ih22 σ10 (l1_0 + 1) H locs ls hok (lv_sub hl [0, 1] rfl) hP hD hS
        · have hok := hok.1 c_40
          refine lv_aload_n hx hb dX4_sumUp_43 rfl (lv_at hl 1 rfl) ?_
          refine lv_dup hx hb dX4_sumUp_44 rfl ?_
          refine xg (ci := 4) S inX4 rfl hK hP cW_20 15 (by decide) rfl kw_4_125 rfl dX4_sumUp_45 ?_
          refine lv_iconst (v := 1) hx hb dX4_sumUp_48 (by decide) ?_
          refine xiadd (v := (τ0.1 20 15) + 1) S dX4_sumUp_49 rfl ?_
          refine yp (ci := 4) (v := .int ((τ0.1 20 15) + 1)) (cw := (cW o u cI cZ cJ T)) S inX4 tyX4 tyX4_ok nmX4 rfl hK hP hD hS cW_20 15 (by decide) kw_4_125 rfl rfl rfl rfl (Nat.le_of_ble_eq_true rfl) dX4_sumUp_50 cWp_20_15 (fun σ11 H locs eσ11 hP hD hS => ?_)
          have hok := hok σ11 eσ11
          refine lv_goto (tgt := 102) hx hb dX4_sumUp_53 (by decide) ?_
          refine lv_iinc (v := l1_0 + 1) (lv' := [(1, .int (l1_0 + 1)), (0, .ref (u 19))]) hx hb dX4_sumUp_102 hl (k := 0) rfl rfl (by decide) rfl (fun ls hl => ?_)
          refine lv_goto (tgt := 22) hx hb dX4_sumUp_105 (by decide) ?_
          exact ih22 σ11 (l1_0 + 1) H locs ls hok (lv_sub hl [0, 1] rfl) hP hD hS
  refine lp22 _ ?_ FUEL σ4 0 _ _ _ hok (lv_sub hl [0, 1] rfl) hP hD hS
  intro σ12 x13 H locs ls hok hl hP hD hS
  refine lv_iconst (v := 0) hx hb dX4_sumUp_108 (by decide) ?_
  refine lv_istore_n (lv' := [(1, .int 0), (0, .ref (u 19))]) hx hb dX4_sumUp_109 rfl hl (by decide) rfl (fun ls hl => ?_)
  have lp110 : ∀ (K : FS → Int32 → Prop), (∀ (τ0 : FS) (l1_0 : Int32) (H : Heap) (locs : List Loc) (ls : Array Slot), K τ0 l1_0 → lv_has ls 2 [(1, .int l1_0), (0, .ref (u 19))] → va_P D vwCl (cW o u cI cZ cJ T τ0) H → va_D A (cW o u cI cZ cJ T τ0) → va_S A s.heap H locs → W p l e ({ frames := 1, cells := 0, slots := 0, locals := 20 }) s m args below meth c H locs 0 0 (MQ below (yQv Φ D (cW o u cI cZ cJ T) A) args s 0 0 A) (F0 m 145 ls [])) → ∀ (n0 : Nat) (τ0 : FS) (l1_0 : Int32) (H : Heap) (locs : List Loc) (ls : Array Slot), wp_X4_sumUp_110 Φ K n0 τ0 l1_0 → lv_has ls 2 [(1, .int l1_0), (0, .ref (u 19))] → va_P D vwCl (cW o u cI cZ cJ T τ0) H → va_D A (cW o u cI cZ cJ T τ0) → va_S A s.heap H locs → W p l e ({ frames := 1, cells := 0, slots := 0, locals := 20 }) s m args below meth c H locs 0 0 (MQ below (yQv Φ D (cW o u cI cZ cJ T) A) args s 0 0 A) (F0 m 110 ls []) := by
    intro K hk n0
    induction n0 with
    | zero => intro τ0 l1_0 H locs ls hok; exact False.elim hok
    | succ n0 ih110 =>
      intro τ0 l1_0 H locs ls hok hl hP hD hS
      refine lv_iload_n hx hb dX4_sumUp_110 rfl (lv_at hl 0 rfl) ?_
      refine lv_aload_n hx hb dX4_sumUp_111 rfl (lv_at hl 1 rfl) ?_
      refine xg (ci := 4) S inX4 rfl hK hP cW_20 0 (by decide) rfl kw_4_87 rfl dX4_sumUp_112 ?_
      refine xg (ci := 1) S inX1 rfl hK hP cW_1 0 (by decide) rfl kw_3_216 rfl dX4_sumUp_115 ?_
      refine lv_icmp_ge (tgt := 145) hx hb dX4_sumUp_118 (by decide) (fun c_118 => ?_) (fun c_118 => ?_)
      · have hok := hok.1 c_118
        exact hk τ0 l1_0 H locs ls hok (lv_sub hl [0, 1] rfl) hP hD hS
      · have hok := hok.2 c_118
        refine lv_aload_n hx hb dX4_sumUp_121 rfl (lv_at hl 1 rfl) ?_
        refine lv_dup hx hb dX4_sumUp_122 rfl ?_
        refine xg (ci := 4) S inX4 rfl hK hP cW_20 18 (by decide) rfl kw_4_131 rfl dX4_sumUp_123 ?_
        refine lv_aload_n hx hb dX4_sumUp_126 rfl (lv_at hl 1 rfl) ?_
        refine xg (ci := 4) S inX4 rfl hK hP cW_20 14 (by decide) rfl kw_4_122 rfl dX4_sumUp_127 ?_
        refine lv_iload_n hx hb dX4_sumUp_130 rfl (lv_at hl 0 rfl) ?_
        have h_131 := hok.1
        have hok := hok.2
        refine xiald (t0 := 0) (v := (g τ0 33 l1_0)) S hK hP cW_33 rfl h_131 rfl dX4_sumUp_131 ?_
        refine ySi (As := [.int (g τ0 33 l1_0)]) (cw := (cW o u cI cZ cJ T)) S (v_J6_bitCount_0f7a4 l D cI cZ cJ o u T ra ga τ0 (g τ0 33 l1_0) _ H.size hok) ms_J6_bitCount_0f7a4 kw_1_223 rfl rfl ⟨Nat.le_of_ble_eq_true rfl, Nat.le_of_ble_eq_true rfl⟩ hP hD hK hS hA hB hl.1 (Nat.le_of_ble_eq_true rfl) ⟨Nat.le_of_ble_eq_true rfl, Nat.le_of_ble_eq_true rfl⟩ dX4_sumUp_132 (fun x15 σ14 H locs hok hz hP hD hS => ?_)
        refine xiadd (v := (τ0.1 20 18) + x15) S dX4_sumUp_135 rfl ?_
        refine yp (ci := 4) (v := .int ((τ0.1 20 18) + x15)) (cw := (cW o u cI cZ cJ T)) S inX4 tyX4 tyX4_ok nmX4 rfl hK hP hD hS cW_20 18 (by decide) kw_4_131 rfl rfl rfl rfl (Nat.le_of_ble_eq_true rfl) dX4_sumUp_136 cWp_20_18 (fun σ16 H locs eσ16 hP hD hS => ?_)
        have hok := hok σ16 eσ16
        refine lv_iinc (v := l1_0 + 1) (lv' := [(1, .int (l1_0 + 1)), (0, .ref (u 19))]) hx hb dX4_sumUp_139 hl (k := 0) rfl rfl (by decide) rfl (fun ls hl => ?_)
        refine lv_goto (tgt := 110) hx hb dX4_sumUp_142 (by decide) ?_
        exact ih110 σ16 (l1_0 + 1) H locs ls hok (lv_sub hl [0, 1] rfl) hP hD hS
  refine lp110 _ ?_ FUEL σ12 0 _ _ _ hok (lv_sub hl [0, 1] rfl) hP hD hS
  intro σ17 x18 H locs ls hok hl hP hD hS
  exact yEndv S hr hlocks hP hD hS (Nat.le_of_ble_eq_true rfl) (Nat.le_of_ble_eq_true rfl) dX4_sumUp_145 hok

set_option maxHeartbeats 8000000 in
set_option maxRecDepth 100000 in
theorem v_X4_find (l : Launch) (D : va_G) (cI cZ cJ : ClassId) (o : Nat) (u : Nat → Nat) (T : Nat) (ra : Nat → Nat) (ga : SG) (σ : FS) (Φ : FS → Prop) (sz : Nat) (hok : (wp_X4_find σ Φ)) : Met l yX4_find (uW yX4_find cX4_find 2 none) ({ frames := 3, cells := 0, slots := 0, locals := 69 }) (va_Pc [.ref (u 19)] (aS ra ga D (tyL cI cZ cJ) (cW o u cI cZ cJ T σ) sz)) (yQv Φ D (cW o u cI cZ cJ T) (va_A (cW o u cI cZ cJ T σ) sz)) 0 0 (va_A (cW o u cI cZ cJ T σ) sz) := by
  refine aStart (lv := [(0, .ref (u 19))]) (Qc := fun A => yQv Φ D (cW o u cI cZ cJ T) A) (by decide) (Nat.le_of_ble_eq_true rfl) rfl ?_
  intro p e s m args below meth c ls A H S hr hlocks hnm hl hK hP hD hS hA hB
  have hx := S.1
  have hb := S.2.1
  refine lv_aload_n hx hb dX4_find_0 rfl (lv_at hl 0 rfl) ?_
  refine yVv (As := []) (cw := (cW o u cI cZ cJ T)) (ci := 4) S (v_X4_findWhereNodesAre l D cI cZ cJ o u T ra ga σ _ H.size hok) mi_X4_findWhereNodesAre kw_1_131 rfl rfl ⟨Nat.le_of_ble_eq_true rfl, Nat.le_of_ble_eq_true rfl⟩ hP hD hK hS hA hB cW_20 rfl rfl hl.1 (Nat.le_of_ble_eq_true rfl) ⟨Nat.le_of_ble_eq_true rfl, Nat.le_of_ble_eq_true rfl⟩ dX4_find_1 (fun σ1 H locs hok hz hP hD hS => ?_)
  refine lv_iconst (v := 0) hx hb dX4_find_4 (by decide) ?_
  refine lv_istore_n (lv' := [(1, .int 0), (0, .ref (u 19))]) hx hb dX4_find_5 rfl hl (by decide) rfl (fun ls hl => ?_)
  have lp6 : ∀ (K : FS → Int32 → Prop), (∀ (τ0 : FS) (l1_0 : Int32) (H : Heap) (locs : List Loc) (ls : Array Slot), K τ0 l1_0 → lv_has ls 2 [(1, .int l1_0), (0, .ref (u 19))] → va_P D vwCl (cW o u cI cZ cJ T τ0) H → va_D A (cW o u cI cZ cJ T τ0) → va_S A s.heap H locs → W p l e ({ frames := 3, cells := 0, slots := 0, locals := 69 }) s m args below meth c H locs 0 0 (MQ below (yQv Φ D (cW o u cI cZ cJ T) A) args s 0 0 A) (F0 m 33 ls [])) → ∀ (n0 : Nat) (τ0 : FS) (l1_0 : Int32) (H : Heap) (locs : List Loc) (ls : Array Slot), wp_X4_find_6 Φ K n0 τ0 l1_0 → lv_has ls 2 [(1, .int l1_0), (0, .ref (u 19))] → va_P D vwCl (cW o u cI cZ cJ T τ0) H → va_D A (cW o u cI cZ cJ T τ0) → va_S A s.heap H locs → W p l e ({ frames := 3, cells := 0, slots := 0, locals := 69 }) s m args below meth c H locs 0 0 (MQ below (yQv Φ D (cW o u cI cZ cJ T) A) args s 0 0 A) (F0 m 6 ls []) := by
    intro K hk n0
    induction n0 with
    | zero => intro τ0 l1_0 H locs ls hok; exact False.elim hok
    | succ n0 ih6 =>
      intro τ0 l1_0 H locs ls hok hl hP hD hS
      refine lv_iload_n hx hb dX4_find_6 rfl (lv_at hl 0 rfl) ?_
      refine lv_aload_n hx hb dX4_find_7 rfl (lv_at hl 1 rfl) ?_
      refine xg (ci := 4) S inX4 rfl hK hP cW_20 1 (by decide) rfl kw_4_88 rfl dX4_find_8 ?_
      refine xg (ci := 5) S inX5 rfl hK hP cW_13 0 (by decide) rfl kw_4_38 rfl dX4_find_11 ?_
      refine lv_icmp_ge (tgt := 33) hx hb dX4_find_14 (by decide) (fun c_14 => ?_) (fun c_14 => ?_)
      · have hok := hok.1 c_14
        exact hk τ0 l1_0 H locs ls hok (lv_sub hl [0, 1] rfl) hP hD hS
      · have hok := hok.2 c_14
        refine lv_aload_n hx hb dX4_find_17 rfl (lv_at hl 1 rfl) ?_
        refine lv_iload_n hx hb dX4_find_18 rfl (lv_at hl 0 rfl) ?_
        refine yVv (As := [.int l1_0]) (cw := (cW o u cI cZ cJ T)) (ci := 4) S (v_X4_bind l D cI cZ cJ o u T ra ga τ0 l1_0 _ H.size hok) mi_X4_bind kw_1_136 rfl rfl ⟨Nat.le_of_ble_eq_true rfl, Nat.le_of_ble_eq_true rfl⟩ hP hD hK hS hA hB cW_20 rfl rfl hl.1 (Nat.le_of_ble_eq_true rfl) ⟨Nat.le_of_ble_eq_true rfl, Nat.le_of_ble_eq_true rfl⟩ dX4_find_19 (fun σ2 H locs hok hz hP hD hS => ?_)
        refine lv_aload_n hx hb dX4_find_22 rfl (lv_at hl 1 rfl) ?_
        refine lv_iload_n hx hb dX4_find_23 rfl (lv_at hl 0 rfl) ?_
        refine yVv (As := [.int l1_0]) (cw := (cW o u cI cZ cJ T)) (ci := 4) S (v_X4_fold l D cI cZ cJ o u T ra ga σ2 l1_0 _ H.size hok) mi_X4_fold kw_1_162 rfl rfl ⟨Nat.le_of_ble_eq_true rfl, Nat.le_of_ble_eq_true rfl⟩ hP hD hK hS hA hB cW_20 rfl rfl hl.1 (Nat.le_of_ble_eq_true rfl) ⟨Nat.le_of_ble_eq_true rfl, Nat.le_of_ble_eq_true rfl⟩ dX4_find_24 (fun σ3 H locs hok hz hP hD hS => ?_)
        refine lv_iinc (v := l1_0 + 1) (lv' := [(1, .int (l1_0 + 1)), (0, .ref (u 19))]) hx hb dX4_find_27 hl (k := 0) rfl rfl (by decide) rfl (fun ls hl => ?_)
        refine lv_goto (tgt := 6) hx hb dX4_find_30 (by decide) ?_
        exact ih6 σ3 (l1_0 + 1) H locs ls hok (lv_sub hl [0, 1] rfl) hP hD hS
  refine lp6 _ ?_ FUEL σ1 0 _ _ _ hok (lv_sub hl [0, 1] rfl) hP hD hS
  intro σ4 x5 H locs ls hok hl hP hD hS
  refine lv_aload_n hx hb dX4_find_33 rfl (lv_at hl 1 rfl) ?_
  refine yVv (As := []) (cw := (cW o u cI cZ cJ T)) (ci := 4) S (v_X4_findHandedOn l D cI cZ cJ o u T ra ga σ4 _ H.size hok) mi_X4_findHandedOn kw_1_176 rfl rfl ⟨Nat.le_of_ble_eq_true rfl, Nat.le_of_ble_eq_true rfl⟩ hP hD hK hS hA hB cW_20 rfl rfl hl.1 (Nat.le_of_ble_eq_true rfl) ⟨Nat.le_of_ble_eq_true rfl, Nat.le_of_ble_eq_true rfl⟩ dX4_find_34 (fun σ6 H locs hok hz hP hD hS => ?_)
  refine lv_aload_n hx hb dX4_find_37 rfl (lv_at hl 1 rfl) ?_
  refine yVv (As := []) (cw := (cW o u cI cZ cJ T)) (ci := 4) S (v_X4_findEscapes l D cI cZ cJ o u T ra ga σ6 _ H.size hok) mi_X4_findEscapes kw_1_183 rfl rfl ⟨Nat.le_of_ble_eq_true rfl, Nat.le_of_ble_eq_true rfl⟩ hP hD hK hS hA hB cW_20 rfl rfl hl.1 (Nat.le_of_ble_eq_true rfl) ⟨Nat.le_of_ble_eq_true rfl, Nat.le_of_ble_eq_true rfl⟩ dX4_find_38 (fun σ7 H locs hok hz hP hD hS => ?_)
  refine lv_aload_n hx hb dX4_find_41 rfl (lv_at hl 1 rfl) ?_
  refine yVv (As := []) (cw := (cW o u cI cZ cJ T)) (ci := 4) S (v_X4_findLabels l D cI cZ cJ o u T ra ga σ7 _ H.size hok) mi_X4_findLabels kw_1_191 rfl rfl ⟨Nat.le_of_ble_eq_true rfl, Nat.le_of_ble_eq_true rfl⟩ hP hD hK hS hA hB cW_20 rfl rfl hl.1 (Nat.le_of_ble_eq_true rfl) ⟨Nat.le_of_ble_eq_true rfl, Nat.le_of_ble_eq_true rfl⟩ dX4_find_42 (fun σ8 H locs hok hz hP hD hS => ?_)
  refine lv_iconst (v := 0) hx hb dX4_find_45 (by decide) ?_
  refine lv_istore_n (lv' := [(1, .int 0), (0, .ref (u 19))]) hx hb dX4_find_46 rfl hl (by decide) rfl (fun ls hl => ?_)
  have lp47 : ∀ (K : FS → Int32 → Prop), (∀ (τ0 : FS) (l1_0 : Int32) (H : Heap) (locs : List Loc) (ls : Array Slot), K τ0 l1_0 → lv_has ls 2 [(1, .int l1_0), (0, .ref (u 19))] → va_P D vwCl (cW o u cI cZ cJ T τ0) H → va_D A (cW o u cI cZ cJ T τ0) → va_S A s.heap H locs → W p l e ({ frames := 3, cells := 0, slots := 0, locals := 69 }) s m args below meth c H locs 0 0 (MQ below (yQv Φ D (cW o u cI cZ cJ T) A) args s 0 0 A) (F0 m 111 ls [])) → ∀ (n0 : Nat) (τ0 : FS) (l1_0 : Int32) (H : Heap) (locs : List Loc) (ls : Array Slot), wp_X4_find_47 Φ K n0 τ0 l1_0 → lv_has ls 2 [(1, .int l1_0), (0, .ref (u 19))] → va_P D vwCl (cW o u cI cZ cJ T τ0) H → va_D A (cW o u cI cZ cJ T τ0) → va_S A s.heap H locs → W p l e ({ frames := 3, cells := 0, slots := 0, locals := 69 }) s m args below meth c H locs 0 0 (MQ below (yQv Φ D (cW o u cI cZ cJ T) A) args s 0 0 A) (F0 m 47 ls []) := by
    intro K hk n0
    induction n0 with
    | zero => intro τ0 l1_0 H locs ls hok; exact False.elim hok
    | succ n0 ih47 =>
      intro τ0 l1_0 H locs ls hok hl hP hD hS
      refine lv_iload_n hx hb dX4_find_47 rfl (lv_at hl 0 rfl) ?_
      refine lv_aload_n hx hb dX4_find_48 rfl (lv_at hl 1 rfl) ?_
      refine xg (ci := 4) S inX4 rfl hK hP cW_20 1 (by decide) rfl kw_4_88 rfl dX4_find_49 ?_
      refine xg (ci := 5) S inX5 rfl hK hP cW_13 0 (by decide) rfl kw_4_38 rfl dX4_find_52 ?_
      refine lv_icmp_ge (tgt := 111) hx hb dX4_find_55 (by decide) (fun c_55 => ?_) (fun c_55 => ?_)
      · have hok := hok.1 c_55
        exact hk τ0 l1_0 H locs ls hok (lv_sub hl [0, 1] rfl) hP hD hS
      · have hok := hok.2 c_55
        refine lv_aload_n hx hb dX4_find_58 rfl (lv_at hl 1 rfl) ?_
        refine xg (ci := 4) S inX4 rfl hK hP cW_20 9 (by decide) rfl kw_4_109 rfl dX4_find_59 ?_
        refine lv_iload_n hx hb dX4_find_62 rfl (lv_at hl 0 rfl) ?_
        refine lv_aload_n hx hb dX4_find_63 rfl (lv_at hl 1 rfl) ?_
        refine lv_iload_n hx hb dX4_find_64 rfl (lv_at hl 0 rfl) ?_
        refine yVi (As := [.int l1_0]) (cw := (cW o u cI cZ cJ T)) (ci := 4) S (v_X4_isTail l D cI cZ cJ o u T ra ga τ0 l1_0 _ H.size hok) mi_X4_isTail kw_1_195 rfl rfl ⟨Nat.le_of_ble_eq_true rfl, Nat.le_of_ble_eq_true rfl⟩ hP hD hK hS hA hB cW_20 rfl rfl hl.1 (Nat.le_of_ble_eq_true rfl) ⟨Nat.le_of_ble_eq_true rfl, Nat.le_of_ble_eq_true rfl⟩ dX4_find_65 (fun x10 σ9 H locs hok hz hP hD hS => ?_)
        have h_68 := hok.1
        have hok := hok.2
        have hz := hok.1
        have hok := hok.2
        refine yzast (t0 := 1) (cw := (cW o u cI cZ cJ T)) S hK hP hD hS cW_28 rfl h_68 dX4_find_68 (cWa_28 hz) (fun σ11 H locs eσ11 hP hD hS => ?_)
        have hok := hok σ11 eσ11
        refine lv_aload_n hx hb dX4_find_69 rfl (lv_at hl 1 rfl) ?_
        refine xg (ci := 4) S inX4 rfl hK hP cW_20 10 (by decide) rfl kw_4_113 rfl dX4_find_70 ?_
        refine lv_iload_n hx hb dX4_find_73 rfl (lv_at hl 0 rfl) ?_
        refine lv_iconst (v := 0) hx hb dX4_find_74 (by decide) ?_
        have h_75 := hok.1
        have hok := hok.2
        refine yiast (t0 := 0) (cw := (cW o u cI cZ cJ T)) S hK hP hD hS cW_29 rfl h_75 dX4_find_75 cWa_29 (fun σ12 H locs eσ12 hP hD hS => ?_)
        have hok := hok σ12 eσ12
        refine lv_aload_n hx hb dX4_find_76 rfl (lv_at hl 1 rfl) ?_
        refine xg (ci := 4) S inX4 rfl hK hP cW_20 11 (by decide) rfl kw_4_116 rfl dX4_find_77 ?_
        refine lv_iload_n hx hb dX4_find_80 rfl (lv_at hl 0 rfl) ?_
        refine lv_aload_n hx hb dX4_find_81 rfl (lv_at hl 1 rfl) ?_
        refine xg (ci := 4) S inX4 rfl hK hP cW_20 1 (by decide) rfl kw_4_88 rfl dX4_find_82 ?_
        refine xg (ci := 5) S inX5 rfl hK hP cW_13 1 (by decide) rfl kw_4_42 rfl dX4_find_85 ?_
        refine lv_iload_n hx hb dX4_find_88 rfl (lv_at hl 0 rfl) ?_
        have h_89 := hok.1
        have hok := hok.2
        refine xiald (t0 := 0) (v := (g σ12 14 l1_0)) S hK hP cW_14 rfl h_89 rfl dX4_find_89 ?_
        refine lv_bipush (v := 17) hx hb dX4_find_90 (by decide) ?_
        refine lv_icmp_ne (tgt := 103) hx hb dX4_find_92 (by decide) (fun c_92 => ?_) (fun c_92 => ?_)
        · have hok := hok.2 c_92
          refine lv_iconst (v := (-1)) hx hb dX4_find_103 (by decide) ?_
          have h_104 := hok.1
          have hok := hok.2
          refine yiast (t0 := 0) (cw := (cW o u cI cZ cJ T)) S hK hP hD hS cW_30 rfl h_104 dX4_find_104 cWa_30 (fun σ13 H locs eσ13 hP hD hS => ?_)
          have hok := hok σ13 eσ13
          refine lv_iinc (v := l1_0 + 1) (lv' := [(1, .int (l1_0 + 1)), (0, .ref (u 19))]) hx hb dX4_find_105 hl (k := 0) rfl rfl (by decide) rfl (fun ls hl => ?_)
          refine lv_goto (tgt := 47) hx hb dX4_find_108 (by decide) ?_
          exact ih47 σ13 (l1_0 + 1) H locs ls hok (lv_sub hl [0, 1] rfl) hP hD hS
        · have hok := hok.1 c_92
          refine lv_aload_n hx hb dX4_find_95 rfl (lv_at hl 1 rfl) ?_
          refine lv_iload_n hx hb dX4_find_96 rfl (lv_at hl 0 rfl) ?_
          refine yVi (As := [.int l1_0]) (cw := (cW o u cI cZ cJ T)) (ci := 4) S (v_X4_hopsToLoop l D cI cZ cJ o u T ra ga σ12 l1_0 _ H.size hok) mi_X4_hopsToLoop kw_1_207 rfl rfl ⟨Nat.le_of_ble_eq_true rfl, Nat.le_of_ble_eq_true rfl⟩ hP hD hK hS hA hB cW_20 rfl rfl hl.1 (Nat.le_of_ble_eq_true rfl) ⟨Nat.le_of_ble_eq_true rfl, Nat.le_of_ble_eq_true rfl⟩ dX4_find_97 (fun x15 σ14 H locs hok hz hP hD hS => ?_)
          refine lv_goto (tgt := 104) hx hb dX4_find_100 (by decide) ?_
          have h_104 := hok.1
          have hok := hok.2
          refine yiast (t0 := 0) (cw := (cW o u cI cZ cJ T)) S hK hP hD hS cW_30 rfl h_104 dX4_find_104 cWa_30 (fun σ16 H locs eσ16 hP hD hS => ?_)
          have hok := hok σ16 eσ16
          refine lv_iinc (v := l1_0 + 1) (lv' := [(1, .int (l1_0 + 1)), (0, .ref (u 19))]) hx hb dX4_find_105 hl (k := 0) rfl rfl (by decide) rfl (fun ls hl => ?_)
          refine lv_goto (tgt := 47) hx hb dX4_find_108 (by decide) ?_
          exact ih47 σ16 (l1_0 + 1) H locs ls hok (lv_sub hl [0, 1] rfl) hP hD hS
  refine lp47 _ ?_ FUEL σ8 0 _ _ _ hok (lv_sub hl [0, 1] rfl) hP hD hS
  intro σ17 x18 H locs ls hok hl hP hD hS
  refine lv_aload_n hx hb dX4_find_111 rfl (lv_at hl 1 rfl) ?_
  refine yVv (As := []) (cw := (cW o u cI cZ cJ T)) (ci := 4) S (v_X4_findModes l D cI cZ cJ o u T ra ga σ17 _ H.size hok) mi_X4_findModes kw_1_215 rfl rfl ⟨Nat.le_of_ble_eq_true rfl, Nat.le_of_ble_eq_true rfl⟩ hP hD hK hS hA hB cW_20 rfl rfl hl.1 (Nat.le_of_ble_eq_true rfl) ⟨Nat.le_of_ble_eq_true rfl, Nat.le_of_ble_eq_true rfl⟩ dX4_find_112 (fun σ19 H locs hok hz hP hD hS => ?_)
  refine lv_aload_n hx hb dX4_find_115 rfl (lv_at hl 1 rfl) ?_
  refine yVv (As := []) (cw := (cW o u cI cZ cJ T)) (ci := 4) S (v_X4_sumUp l D cI cZ cJ o u T ra ga σ19 _ H.size hok) mi_X4_sumUp kw_1_219 rfl rfl ⟨Nat.le_of_ble_eq_true rfl, Nat.le_of_ble_eq_true rfl⟩ hP hD hK hS hA hB cW_20 rfl rfl hl.1 (Nat.le_of_ble_eq_true rfl) ⟨Nat.le_of_ble_eq_true rfl, Nat.le_of_ble_eq_true rfl⟩ dX4_find_116 (fun σ20 H locs hok hz hP hD hS => ?_)
  exact yEndv S hr hlocks hP hD hS (Nat.le_of_ble_eq_true rfl) (Nat.le_of_ble_eq_true rfl) dX4_find_119 hok
